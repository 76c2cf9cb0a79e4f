theorem dX2_gotByYard_0 : decode cX2_gotByYard 0 = .ok (.iload_n 1, 1) := by decide +kernel
theorem dX2_gotByYard_1 : decode cX2_gotByYard 1 = .ok (.iconst 0, 1) := by decide +kernel
theorem dX2_gotByYard_2 : decode cX2_gotByYard 2 = .ok (.bipush 7, 2) := by decide +kernel
theorem dX2_gotByYard_4 : decode cX2_gotByYard 4 = .ok (.invokestatic 131, 3) := by decide +kernel
theorem dX2_gotByYard_7 : decode cX2_gotByYard 7 = .ok (.ifCond .eq 13, 3) := by decide +kernel
theorem dX2_gotByYard_10 : decode cX2_gotByYard 10 = .ok (.aload_n 0, 1) := by decide +kernel
theorem dX2_gotByYard_11 : decode cX2_gotByYard 11 = .ok (.getfield 9, 3) := by decide +kernel
theorem dX2_gotByYard_14 : decode cX2_gotByYard 14 = .ok (.iload_n 1, 1) := by decide +kernel
theorem dX2_gotByYard_15 : decode cX2_gotByYard 15 = .ok (.iaload, 1) := by decide +kernel
theorem dX2_gotByYard_16 : decode cX2_gotByYard 16 = .ok (.i2l, 1) := by decide +kernel
theorem dX2_gotByYard_17 : decode cX2_gotByYard 17 = .ok (.goto 4, 3) := by decide +kernel
theorem dX2_gotByYard_20 : decode cX2_gotByYard 20 = .ok (.lconst 0, 1) := by decide +kernel
theorem dX2_gotByYard_21 : decode cX2_gotByYard 21 = .ok (.lreturn, 1) := by decide +kernel
theorem ce_X2_gotByYard : CeV RX2 yX2_gotByYard cX2_gotByYard 2 (some .long) 1 := ⟨tb_778, tp_27, tb_4, tb_779, rfl, by decide, by decide, by decide +kernel⟩
set_option maxHeartbeats 4000000 in
set_option maxRecDepth 20000 in
theorem V_X2_gotByYard (l : Launch) (D : va_G) (A : Nat → Prop) (ad : Nat → Nat) (ns : List Nat) (I : MI) (L : ML) (G : MG) (a0 : Int32) (hG : SGC ns G) (hI : INV I) : Met l yX2_gotByYard (wd yX2_gotByYard cX2_gotByYard 2 (some .long)) ({ frames := 1, cells := 0, slots := 0, locals := 22 }) (va_Pc [.ref (ad (20)), .int a0] (PM D A ad ns I L G)) (va_Ql (fun r u => u = (ad, ns, I, L, G) ∧ (True)) (BM D A) A) 0 0 A := by
  refine m_ofW (by decide) (Nat.le_of_ble_eq_true rfl) ?_
  intro p e s m below meth c ls args hC hE hM hA hS hl
  obtain ⟨hx, hb, hml, hown, hts, hr, hlocks, hin⟩ := hC
  have k0 : (0 : Int32).toInt = 0 := by decide
  have k7 : (7 : Int32).toInt = 7 := by decide
  have kl0 : (0 : Int64).toInt = 0 := by decide
  have hl : lv_has ls 2 [(0, .ref (ad (20))), (1, .int (a0))] := hl
  refine lv_iload_n hx hb dX2_gotByYard_0 rfl (lv_at hl 1 rfl) ?_
  refine lv_iconst (v := (0)) hx hb dX2_gotByYard_1 (by decide) ?_
  refine lv_bipush (v := (7)) hx hb dX2_gotByYard_2 (by decide) ?_
  refine m_calli (m_runSN (As := [.int (a0), .int (0), .int (7)]) (rest := []) hx hb hml hown hts hE hM hS hA ce_X9_isWithin (List.mem_of_getElem? (i := 6) rfl) (V_X9_isWithin l D A ad ns I L G (a0) (0) (7) hI) rfl rfl ⟨Nat.le_of_ble_eq_true rfl, Nat.le_of_ble_eq_true rfl⟩  rfl hl.1 rfl (Nat.le_of_ble_eq_true rfl) dX2_gotByYard_4 ⟨Nat.le_of_ble_eq_true rfl, Nat.le_of_ble_eq_true rfl⟩) hS (fun r1 u H locs hw hM hS => ?_)
  obtain ⟨rfl, xr1⟩ := hw
  have hM : Mem D A ad ns I L G H := hM
  have yr1 := bo01 xr1
  refine lv_if_eq (tgt := 20) hx hb dX2_gotByYard_7 (by decide) (fun c2 => ?_) (fun c2 => ?_)
  · have hc2 := c2
    have q2 := xr1.f hc2
    refine lv_lconst (v := 0) hx hb dX2_gotByYard_20 (by decide) ?_
    exact m_lret hx hb hr hlocks hM hS (Nat.le_of_ble_eq_true rfl) (Nat.le_of_ble_eq_true rfl) ⟨rfl, trivial⟩ dX2_gotByYard_21
  · have hc2 := c2
    have q2 := xr1.t hc2
    refine lv_aload_n hx hb dX2_gotByYard_10 rfl (lv_at hl 0 rfl) ?_
    refine m_getr (20) 1 (21) hx hb hts hown hE oc2 hM (hG.1 20 (by decide)) rfl (by decide) rfl (hG.2 (20, 1, 21) (by decide)) (by decide) tb_186 dX2_gotByYard_11 ?_
    refine lv_iload_n hx hb dX2_gotByYard_14 rfl (lv_at hl 1 rfl) ?_
    refine m_iald (21) hx hb hE hM (hG.1 21 (by decide)) rfl (vp_in_iff.mpr (by omega)) dX2_gotByYard_15 ?_
    refine lv_i2l hx hb dX2_gotByYard_16 rfl ?_
    refine lv_topl (fun v3 ev3 => ?_)
    have tv3 := q_i2l ev3
    refine lv_goto (tgt := 21) hx hb dX2_gotByYard_17 (by decide) ?_
    exact m_lret hx hb hr hlocks hM hS (Nat.le_of_ble_eq_true rfl) (Nat.le_of_ble_eq_true rfl) ⟨rfl, trivial⟩ dX2_gotByYard_21
theorem dX2_joinTruth_0 : decode cX2_joinTruth 0 = .ok (.iload_n 0, 1) := by decide +kernel
theorem dX2_joinTruth_1 : decode cX2_joinTruth 1 = .ok (.tableswitch 117 (-24) (-19) #[99, 87, 75, 63, 51, 39], 39) := by decide +kernel
theorem dX2_joinTruth_40 : decode cX2_joinTruth 40 = .ok (.lload_n 1, 1) := by decide +kernel
theorem dX2_joinTruth_41 : decode cX2_joinTruth 41 = .ok (.lload_n 3, 1) := by decide +kernel
theorem dX2_joinTruth_42 : decode cX2_joinTruth 42 = .ok (.lcmp, 1) := by decide +kernel
theorem dX2_joinTruth_43 : decode cX2_joinTruth 43 = .ok (.ifCond .ge 7, 3) := by decide +kernel
theorem dX2_joinTruth_46 : decode cX2_joinTruth 46 = .ok (.iconst 1, 1) := by decide +kernel
theorem dX2_joinTruth_47 : decode cX2_joinTruth 47 = .ok (.goto 4, 3) := by decide +kernel
theorem dX2_joinTruth_50 : decode cX2_joinTruth 50 = .ok (.iconst 0, 1) := by decide +kernel
theorem dX2_joinTruth_51 : decode cX2_joinTruth 51 = .ok (.ireturn, 1) := by decide +kernel
theorem dX2_joinTruth_52 : decode cX2_joinTruth 52 = .ok (.lload_n 1, 1) := by decide +kernel
theorem dX2_joinTruth_53 : decode cX2_joinTruth 53 = .ok (.lload_n 3, 1) := by decide +kernel
theorem dX2_joinTruth_54 : decode cX2_joinTruth 54 = .ok (.lcmp, 1) := by decide +kernel
theorem dX2_joinTruth_55 : decode cX2_joinTruth 55 = .ok (.ifCond .gt 7, 3) := by decide +kernel
theorem dX2_joinTruth_58 : decode cX2_joinTruth 58 = .ok (.iconst 1, 1) := by decide +kernel
theorem dX2_joinTruth_59 : decode cX2_joinTruth 59 = .ok (.goto 4, 3) := by decide +kernel
theorem dX2_joinTruth_62 : decode cX2_joinTruth 62 = .ok (.iconst 0, 1) := by decide +kernel
theorem dX2_joinTruth_63 : decode cX2_joinTruth 63 = .ok (.ireturn, 1) := by decide +kernel
theorem dX2_joinTruth_64 : decode cX2_joinTruth 64 = .ok (.lload_n 1, 1) := by decide +kernel
theorem dX2_joinTruth_65 : decode cX2_joinTruth 65 = .ok (.lload_n 3, 1) := by decide +kernel
theorem dX2_joinTruth_66 : decode cX2_joinTruth 66 = .ok (.lcmp, 1) := by decide +kernel
theorem dX2_joinTruth_67 : decode cX2_joinTruth 67 = .ok (.ifCond .ne 7, 3) := by decide +kernel
theorem dX2_joinTruth_70 : decode cX2_joinTruth 70 = .ok (.iconst 1, 1) := by decide +kernel
theorem dX2_joinTruth_71 : decode cX2_joinTruth 71 = .ok (.goto 4, 3) := by decide +kernel
theorem dX2_joinTruth_74 : decode cX2_joinTruth 74 = .ok (.iconst 0, 1) := by decide +kernel
theorem dX2_joinTruth_75 : decode cX2_joinTruth 75 = .ok (.ireturn, 1) := by decide +kernel
theorem dX2_joinTruth_76 : decode cX2_joinTruth 76 = .ok (.lload_n 1, 1) := by decide +kernel
theorem dX2_joinTruth_77 : decode cX2_joinTruth 77 = .ok (.lload_n 3, 1) := by decide +kernel
theorem dX2_joinTruth_78 : decode cX2_joinTruth 78 = .ok (.lcmp, 1) := by decide +kernel
theorem dX2_joinTruth_79 : decode cX2_joinTruth 79 = .ok (.ifCond .lt 7, 3) := by decide +kernel
theorem dX2_joinTruth_82 : decode cX2_joinTruth 82 = .ok (.iconst 1, 1) := by decide +kernel
theorem dX2_joinTruth_83 : decode cX2_joinTruth 83 = .ok (.goto 4, 3) := by decide +kernel
theorem dX2_joinTruth_86 : decode cX2_joinTruth 86 = .ok (.iconst 0, 1) := by decide +kernel
theorem dX2_joinTruth_87 : decode cX2_joinTruth 87 = .ok (.ireturn, 1) := by decide +kernel
theorem dX2_joinTruth_88 : decode cX2_joinTruth 88 = .ok (.lload_n 1, 1) := by decide +kernel
theorem dX2_joinTruth_89 : decode cX2_joinTruth 89 = .ok (.lload_n 3, 1) := by decide +kernel
theorem dX2_joinTruth_90 : decode cX2_joinTruth 90 = .ok (.lcmp, 1) := by decide +kernel
theorem dX2_joinTruth_91 : decode cX2_joinTruth 91 = .ok (.ifCond .le 7, 3) := by decide +kernel
theorem dX2_joinTruth_94 : decode cX2_joinTruth 94 = .ok (.iconst 1, 1) := by decide +kernel
theorem dX2_joinTruth_95 : decode cX2_joinTruth 95 = .ok (.goto 4, 3) := by decide +kernel
theorem dX2_joinTruth_98 : decode cX2_joinTruth 98 = .ok (.iconst 0, 1) := by decide +kernel
theorem dX2_joinTruth_99 : decode cX2_joinTruth 99 = .ok (.ireturn, 1) := by decide +kernel
theorem dX2_joinTruth_100 : decode cX2_joinTruth 100 = .ok (.lload_n 1, 1) := by decide +kernel
theorem dX2_joinTruth_101 : decode cX2_joinTruth 101 = .ok (.lconst 0, 1) := by decide +kernel
theorem dX2_joinTruth_102 : decode cX2_joinTruth 102 = .ok (.lcmp, 1) := by decide +kernel
theorem dX2_joinTruth_103 : decode cX2_joinTruth 103 = .ok (.ifCond .eq 13, 3) := by decide +kernel
theorem dX2_joinTruth_106 : decode cX2_joinTruth 106 = .ok (.lload_n 3, 1) := by decide +kernel
theorem dX2_joinTruth_107 : decode cX2_joinTruth 107 = .ok (.lconst 0, 1) := by decide +kernel
theorem dX2_joinTruth_108 : decode cX2_joinTruth 108 = .ok (.lcmp, 1) := by decide +kernel
theorem dX2_joinTruth_109 : decode cX2_joinTruth 109 = .ok (.ifCond .eq 7, 3) := by decide +kernel
theorem dX2_joinTruth_112 : decode cX2_joinTruth 112 = .ok (.iconst 1, 1) := by decide +kernel
theorem dX2_joinTruth_113 : decode cX2_joinTruth 113 = .ok (.goto 4, 3) := by decide +kernel
theorem dX2_joinTruth_116 : decode cX2_joinTruth 116 = .ok (.iconst 0, 1) := by decide +kernel
theorem dX2_joinTruth_117 : decode cX2_joinTruth 117 = .ok (.ireturn, 1) := by decide +kernel
theorem dX2_joinTruth_118 : decode cX2_joinTruth 118 = .ok (.lload_n 1, 1) := by decide +kernel
theorem dX2_joinTruth_119 : decode cX2_joinTruth 119 = .ok (.lconst 0, 1) := by decide +kernel
theorem dX2_joinTruth_120 : decode cX2_joinTruth 120 = .ok (.lcmp, 1) := by decide +kernel
theorem dX2_joinTruth_121 : decode cX2_joinTruth 121 = .ok (.ifCond .ne 9, 3) := by decide +kernel
theorem dX2_joinTruth_124 : decode cX2_joinTruth 124 = .ok (.lload_n 3, 1) := by decide +kernel
theorem dX2_joinTruth_125 : decode cX2_joinTruth 125 = .ok (.lconst 0, 1) := by decide +kernel
theorem dX2_joinTruth_126 : decode cX2_joinTruth 126 = .ok (.lcmp, 1) := by decide +kernel
theorem dX2_joinTruth_127 : decode cX2_joinTruth 127 = .ok (.ifCond .eq 7, 3) := by decide +kernel
theorem dX2_joinTruth_130 : decode cX2_joinTruth 130 = .ok (.iconst 1, 1) := by decide +kernel
theorem dX2_joinTruth_131 : decode cX2_joinTruth 131 = .ok (.goto 4, 3) := by decide +kernel
theorem dX2_joinTruth_134 : decode cX2_joinTruth 134 = .ok (.iconst 0, 1) := by decide +kernel
theorem dX2_joinTruth_135 : decode cX2_joinTruth 135 = .ok (.ireturn, 1) := by decide +kernel
theorem ce_X2_joinTruth : CeS yX2_joinTruth cX2_joinTruth 5 (some .boolean) 3 := ⟨tb_785, tb_4, tb_786, by decide, by decide, by decide +kernel⟩
set_option maxHeartbeats 4000000 in
set_option maxRecDepth 20000 in
theorem V_X2_joinTruth (l : Launch) (D : va_G) (A : Nat → Prop) (ad : Nat → Nat) (ns : List Nat) (I : MI) (L : ML) (G : MG) (a0 : Int32) (a1 : Int64) (a2 : Int64) (hI : INV I) : Met l yX2_joinTruth (wd yX2_joinTruth cX2_joinTruth 5 (some .boolean)) ({ frames := 0, cells := 0, slots := 0, locals := 0 }) (va_Pc [.int a0, .long a1, .long a2] (PM D A ad ns I L G)) (va_Qi (fun r u => u = (ad, ns, I, L, G) ∧ (0 ≤ r.toInt ∧ r.toInt ≤ 1)) (BM D A) A) 0 0 A := by
  refine m_ofW (by decide) (Nat.le_of_ble_eq_true rfl) ?_
  intro p e s m below meth c ls args hC hE hM hA hS hl
  obtain ⟨hx, hb, hml, hown, hts, hr, hlocks, hin⟩ := hC
  have k0 : (0 : Int32).toInt = 0 := by decide
  have k1 : (1 : Int32).toInt = 1 := by decide
  have kl0 : (0 : Int64).toInt = 0 := by decide
  have hl : lv_has ls 5 [(0, .int (a0)), (1, .long (a1)), (3, .long (a2))] := hl
  refine lv_iload_n hx hb dX2_joinTruth_0 rfl (lv_at hl 0 rfl) ?_
  by_cases c1 : (a0).toInt < -24 ∨ -19 < (a0).toInt
  · refine lv_tableOut (tgt := 118) hx hb dX2_joinTruth_1 c1 (by decide) ?_
    refine lv_lload_n hx hb dX2_joinTruth_118 rfl (lv_at hl 1 rfl) ?_
    refine lv_lconst (v := 0) hx hb dX2_joinTruth_119 (by decide) ?_
    refine W.lcmp hx hb dX2_joinTruth_120 ?_
    refine lv_if_ne (tgt := 130) hx hb dX2_joinTruth_121 (by decide) (fun c2 => ?_) (fun c2 => ?_)
    · have hc2 := c2
      have q2 := l_ne hc2
      refine lv_iconst (v := (1)) hx hb dX2_joinTruth_130 (by decide) ?_
      refine lv_goto (tgt := 135) hx hb dX2_joinTruth_131 (by decide) ?_
      exact m_zret hx hb hr rfl hlocks hM hS (Nat.le_of_ble_eq_true rfl) (Nat.le_of_ble_eq_true rfl) ⟨rfl, (by first | omega | decide)⟩ dX2_joinTruth_135
    · have hc2 := c2
      have q2 := l_eq hc2
      refine lv_lload_n hx hb dX2_joinTruth_124 rfl (lv_at hl 2 rfl) ?_
      refine lv_lconst (v := 0) hx hb dX2_joinTruth_125 (by decide) ?_
      refine W.lcmp hx hb dX2_joinTruth_126 ?_
      refine lv_if_eq (tgt := 134) hx hb dX2_joinTruth_127 (by decide) (fun c3 => ?_) (fun c3 => ?_)
      · have hc3 := c3
        have q3 := l_eq hc3
        refine lv_iconst (v := (0)) hx hb dX2_joinTruth_134 (by decide) ?_
        exact m_zret hx hb hr rfl hlocks hM hS (Nat.le_of_ble_eq_true rfl) (Nat.le_of_ble_eq_true rfl) ⟨rfl, (by first | omega | decide)⟩ dX2_joinTruth_135
      · have hc3 := c3
        have q3 := l_ne hc3
        refine lv_iconst (v := (1)) hx hb dX2_joinTruth_130 (by decide) ?_
        refine lv_goto (tgt := 135) hx hb dX2_joinTruth_131 (by decide) ?_
        exact m_zret hx hb hr rfl hlocks hM hS (Nat.le_of_ble_eq_true rfl) (Nat.le_of_ble_eq_true rfl) ⟨rfl, (by first | omega | decide)⟩ dX2_joinTruth_135
  · have qc1 : (a0).toInt = -24 ∨ (a0).toInt = -23 ∨ (a0).toInt = -22 ∨ (a0).toInt = -21 ∨ (a0).toInt = -20 ∨ (a0).toInt = -19 := by omega
    rcases qc1 with qc1 | qc1 | qc1 | qc1 | qc1 | qc1
    · refine lv_tableIn (off := 99) (tgt := 100) hx hb dX2_joinTruth_1 (by omega) (by omega) (by rw [qc1]; rfl) (by decide) ?_
      refine lv_lload_n hx hb dX2_joinTruth_100 rfl (lv_at hl 1 rfl) ?_
      refine lv_lconst (v := 0) hx hb dX2_joinTruth_101 (by decide) ?_
      refine W.lcmp hx hb dX2_joinTruth_102 ?_
      refine lv_if_eq (tgt := 116) hx hb dX2_joinTruth_103 (by decide) (fun c4 => ?_) (fun c4 => ?_)
      · have hc4 := c4
        have q4 := l_eq hc4
        refine lv_iconst (v := (0)) hx hb dX2_joinTruth_116 (by decide) ?_
        exact m_zret hx hb hr rfl hlocks hM hS (Nat.le_of_ble_eq_true rfl) (Nat.le_of_ble_eq_true rfl) ⟨rfl, (by first | omega | decide)⟩ dX2_joinTruth_117
      · have hc4 := c4
        have q4 := l_ne hc4
        refine lv_lload_n hx hb dX2_joinTruth_106 rfl (lv_at hl 2 rfl) ?_
        refine lv_lconst (v := 0) hx hb dX2_joinTruth_107 (by decide) ?_
        refine W.lcmp hx hb dX2_joinTruth_108 ?_
        refine lv_if_eq (tgt := 116) hx hb dX2_joinTruth_109 (by decide) (fun c5 => ?_) (fun c5 => ?_)
        · have hc5 := c5
          have q5 := l_eq hc5
          refine lv_iconst (v := (0)) hx hb dX2_joinTruth_116 (by decide) ?_
          exact m_zret hx hb hr rfl hlocks hM hS (Nat.le_of_ble_eq_true rfl) (Nat.le_of_ble_eq_true rfl) ⟨rfl, (by first | omega | decide)⟩ dX2_joinTruth_117
        · have hc5 := c5
          have q5 := l_ne hc5
          refine lv_iconst (v := (1)) hx hb dX2_joinTruth_112 (by decide) ?_
          refine lv_goto (tgt := 117) hx hb dX2_joinTruth_113 (by decide) ?_
          exact m_zret hx hb hr rfl hlocks hM hS (Nat.le_of_ble_eq_true rfl) (Nat.le_of_ble_eq_true rfl) ⟨rfl, (by first | omega | decide)⟩ dX2_joinTruth_117
    · refine lv_tableIn (off := 87) (tgt := 88) hx hb dX2_joinTruth_1 (by omega) (by omega) (by rw [qc1]; rfl) (by decide) ?_
      refine lv_lload_n hx hb dX2_joinTruth_88 rfl (lv_at hl 1 rfl) ?_
      refine lv_lload_n hx hb dX2_joinTruth_89 rfl (lv_at hl 2 rfl) ?_
      refine W.lcmp hx hb dX2_joinTruth_90 ?_
      refine lv_if_le (tgt := 98) hx hb dX2_joinTruth_91 (by decide) (fun c6 => ?_) (fun c6 => ?_)
      · have hc6 := c6
        have q6 := l_le hc6
        refine lv_iconst (v := (0)) hx hb dX2_joinTruth_98 (by decide) ?_
        exact m_zret hx hb hr rfl hlocks hM hS (Nat.le_of_ble_eq_true rfl) (Nat.le_of_ble_eq_true rfl) ⟨rfl, (by first | omega | decide)⟩ dX2_joinTruth_99
      · have hc6 := c6
        have q6 := l_nle hc6
        refine lv_iconst (v := (1)) hx hb dX2_joinTruth_94 (by decide) ?_
        refine lv_goto (tgt := 99) hx hb dX2_joinTruth_95 (by decide) ?_
        exact m_zret hx hb hr rfl hlocks hM hS (Nat.le_of_ble_eq_true rfl) (Nat.le_of_ble_eq_true rfl) ⟨rfl, (by first | omega | decide)⟩ dX2_joinTruth_99
    · refine lv_tableIn (off := 75) (tgt := 76) hx hb dX2_joinTruth_1 (by omega) (by omega) (by rw [qc1]; rfl) (by decide) ?_
      refine lv_lload_n hx hb dX2_joinTruth_76 rfl (lv_at hl 1 rfl) ?_
      refine lv_lload_n hx hb dX2_joinTruth_77 rfl (lv_at hl 2 rfl) ?_
      refine W.lcmp hx hb dX2_joinTruth_78 ?_
      refine lv_if_lt (tgt := 86) hx hb dX2_joinTruth_79 (by decide) (fun c7 => ?_) (fun c7 => ?_)
      · have hc7 := c7
        have q7 := l_lt hc7
        refine lv_iconst (v := (0)) hx hb dX2_joinTruth_86 (by decide) ?_
        exact m_zret hx hb hr rfl hlocks hM hS (Nat.le_of_ble_eq_true rfl) (Nat.le_of_ble_eq_true rfl) ⟨rfl, (by first | omega | decide)⟩ dX2_joinTruth_87
      · have hc7 := c7
        have q7 := l_nlt hc7
        refine lv_iconst (v := (1)) hx hb dX2_joinTruth_82 (by decide) ?_
        refine lv_goto (tgt := 87) hx hb dX2_joinTruth_83 (by decide) ?_
        exact m_zret hx hb hr rfl hlocks hM hS (Nat.le_of_ble_eq_true rfl) (Nat.le_of_ble_eq_true rfl) ⟨rfl, (by first | omega | decide)⟩ dX2_joinTruth_87
    · refine lv_tableIn (off := 63) (tgt := 64) hx hb dX2_joinTruth_1 (by omega) (by omega) (by rw [qc1]; rfl) (by decide) ?_
      refine lv_lload_n hx hb dX2_joinTruth_64 rfl (lv_at hl 1 rfl) ?_
      refine lv_lload_n hx hb dX2_joinTruth_65 rfl (lv_at hl 2 rfl) ?_
      refine W.lcmp hx hb dX2_joinTruth_66 ?_
      refine lv_if_ne (tgt := 74) hx hb dX2_joinTruth_67 (by decide) (fun c8 => ?_) (fun c8 => ?_)
      · have hc8 := c8
        have q8 := l_ne hc8
        refine lv_iconst (v := (0)) hx hb dX2_joinTruth_74 (by decide) ?_
        exact m_zret hx hb hr rfl hlocks hM hS (Nat.le_of_ble_eq_true rfl) (Nat.le_of_ble_eq_true rfl) ⟨rfl, (by first | omega | decide)⟩ dX2_joinTruth_75
      · have hc8 := c8
        have q8 := l_eq hc8
        refine lv_iconst (v := (1)) hx hb dX2_joinTruth_70 (by decide) ?_
        refine lv_goto (tgt := 75) hx hb dX2_joinTruth_71 (by decide) ?_
        exact m_zret hx hb hr rfl hlocks hM hS (Nat.le_of_ble_eq_true rfl) (Nat.le_of_ble_eq_true rfl) ⟨rfl, (by first | omega | decide)⟩ dX2_joinTruth_75
    · refine lv_tableIn (off := 51) (tgt := 52) hx hb dX2_joinTruth_1 (by omega) (by omega) (by rw [qc1]; rfl) (by decide) ?_
      refine lv_lload_n hx hb dX2_joinTruth_52 rfl (lv_at hl 1 rfl) ?_
      refine lv_lload_n hx hb dX2_joinTruth_53 rfl (lv_at hl 2 rfl) ?_
      refine W.lcmp hx hb dX2_joinTruth_54 ?_
      refine lv_if_gt (tgt := 62) hx hb dX2_joinTruth_55 (by decide) (fun c9 => ?_) (fun c9 => ?_)
      · have hc9 := c9
        have q9 := l_gt hc9
        refine lv_iconst (v := (0)) hx hb dX2_joinTruth_62 (by decide) ?_
        exact m_zret hx hb hr rfl hlocks hM hS (Nat.le_of_ble_eq_true rfl) (Nat.le_of_ble_eq_true rfl) ⟨rfl, (by first | omega | decide)⟩ dX2_joinTruth_63
      · have hc9 := c9
        have q9 := l_ngt hc9
        refine lv_iconst (v := (1)) hx hb dX2_joinTruth_58 (by decide) ?_
        refine lv_goto (tgt := 63) hx hb dX2_joinTruth_59 (by decide) ?_
        exact m_zret hx hb hr rfl hlocks hM hS (Nat.le_of_ble_eq_true rfl) (Nat.le_of_ble_eq_true rfl) ⟨rfl, (by first | omega | decide)⟩ dX2_joinTruth_63
    · refine lv_tableIn (off := 39) (tgt := 40) hx hb dX2_joinTruth_1 (by omega) (by omega) (by rw [qc1]; rfl) (by decide) ?_
      refine lv_lload_n hx hb dX2_joinTruth_40 rfl (lv_at hl 1 rfl) ?_
      refine lv_lload_n hx hb dX2_joinTruth_41 rfl (lv_at hl 2 rfl) ?_
      refine W.lcmp hx hb dX2_joinTruth_42 ?_
      refine lv_if_ge (tgt := 50) hx hb dX2_joinTruth_43 (by decide) (fun c10 => ?_) (fun c10 => ?_)
      · have hc10 := c10
        have q10 := l_ge hc10
        refine lv_iconst (v := (0)) hx hb dX2_joinTruth_50 (by decide) ?_
        exact m_zret hx hb hr rfl hlocks hM hS (Nat.le_of_ble_eq_true rfl) (Nat.le_of_ble_eq_true rfl) ⟨rfl, (by first | omega | decide)⟩ dX2_joinTruth_51
      · have hc10 := c10
        have q10 := l_nge hc10
        refine lv_iconst (v := (1)) hx hb dX2_joinTruth_46 (by decide) ?_
        refine lv_goto (tgt := 51) hx hb dX2_joinTruth_47 (by decide) ?_
        exact m_zret hx hb hr rfl hlocks hM hS (Nat.le_of_ble_eq_true rfl) (Nat.le_of_ble_eq_true rfl) ⟨rfl, (by first | omega | decide)⟩ dX2_joinTruth_51
theorem dX2_join_0 : decode cX2_join 0 = .ok (.iload_n 0, 1) := by decide +kernel
theorem dX2_join_1 : decode cX2_join 1 = .ok (.tableswitch 57 (-18) (-15) #[43, 39, 35, 31], 31) := by decide +kernel
theorem dX2_join_32 : decode cX2_join 32 = .ok (.lload_n 1, 1) := by decide +kernel
theorem dX2_join_33 : decode cX2_join 33 = .ok (.lload_n 3, 1) := by decide +kernel
theorem dX2_join_34 : decode cX2_join 34 = .ok (.ladd, 1) := by decide +kernel
theorem dX2_join_35 : decode cX2_join 35 = .ok (.lreturn, 1) := by decide +kernel
theorem dX2_join_36 : decode cX2_join 36 = .ok (.lload_n 1, 1) := by decide +kernel
theorem dX2_join_37 : decode cX2_join 37 = .ok (.lload_n 3, 1) := by decide +kernel
theorem dX2_join_38 : decode cX2_join 38 = .ok (.lsub, 1) := by decide +kernel
theorem dX2_join_39 : decode cX2_join 39 = .ok (.lreturn, 1) := by decide +kernel
theorem dX2_join_40 : decode cX2_join 40 = .ok (.lload_n 1, 1) := by decide +kernel
theorem dX2_join_41 : decode cX2_join 41 = .ok (.lload_n 3, 1) := by decide +kernel
theorem dX2_join_42 : decode cX2_join 42 = .ok (.lmul, 1) := by decide +kernel
theorem dX2_join_43 : decode cX2_join 43 = .ok (.lreturn, 1) := by decide +kernel
theorem dX2_join_44 : decode cX2_join 44 = .ok (.lload_n 3, 1) := by decide +kernel
theorem dX2_join_45 : decode cX2_join 45 = .ok (.lconst 0, 1) := by decide +kernel
theorem dX2_join_46 : decode cX2_join 46 = .ok (.lcmp, 1) := by decide +kernel
theorem dX2_join_47 : decode cX2_join 47 = .ok (.ifCond .ne 7, 3) := by decide +kernel
theorem dX2_join_50 : decode cX2_join 50 = .ok (.lconst 0, 1) := by decide +kernel
theorem dX2_join_51 : decode cX2_join 51 = .ok (.goto 6, 3) := by decide +kernel
theorem dX2_join_54 : decode cX2_join 54 = .ok (.lload_n 1, 1) := by decide +kernel
theorem dX2_join_55 : decode cX2_join 55 = .ok (.lload_n 3, 1) := by decide +kernel
theorem dX2_join_56 : decode cX2_join 56 = .ok (.ldiv, 1) := by decide +kernel
theorem dX2_join_57 : decode cX2_join 57 = .ok (.lreturn, 1) := by decide +kernel
theorem dX2_join_58 : decode cX2_join 58 = .ok (.iload_n 0, 1) := by decide +kernel
theorem dX2_join_59 : decode cX2_join 59 = .ok (.lload_n 1, 1) := by decide +kernel
theorem dX2_join_60 : decode cX2_join 60 = .ok (.lload_n 3, 1) := by decide +kernel
theorem dX2_join_61 : decode cX2_join 61 = .ok (.invokestatic 135, 3) := by decide +kernel
theorem dX2_join_64 : decode cX2_join 64 = .ok (.ifCond .eq 7, 3) := by decide +kernel
theorem dX2_join_67 : decode cX2_join 67 = .ok (.lconst 1, 1) := by decide +kernel
theorem dX2_join_68 : decode cX2_join 68 = .ok (.goto 4, 3) := by decide +kernel
theorem dX2_join_71 : decode cX2_join 71 = .ok (.lconst 0, 1) := by decide +kernel
theorem dX2_join_72 : decode cX2_join 72 = .ok (.lreturn, 1) := by decide +kernel
theorem ce_X2_join : CeS yX2_join cX2_join 5 (some .long) 3 := ⟨tb_782, tb_4, tb_783, by decide, by decide, by decide +kernel⟩
set_option maxHeartbeats 4000000 in
set_option maxRecDepth 20000 in
theorem V_X2_join (l : Launch) (D : va_G) (A : Nat → Prop) (ad : Nat → Nat) (ns : List Nat) (I : MI) (L : ML) (G : MG) (a0 : Int32) (a1 : Int64) (a2 : Int64) (hI : INV I) : Met l yX2_join (wd yX2_join cX2_join 5 (some .long)) ({ frames := 1, cells := 0, slots := 0, locals := 24 }) (va_Pc [.int a0, .long a1, .long a2] (PM D A ad ns I L G)) (va_Ql (fun r u => u = (ad, ns, I, L, G) ∧ (True)) (BM D A) A) 0 0 A := by
  refine m_ofW (by decide) (Nat.le_of_ble_eq_true rfl) ?_
  intro p e s m below meth c ls args hC hE hM hA hS hl
  obtain ⟨hx, hb, hml, hown, hts, hr, hlocks, hin⟩ := hC
  have k0 : (0 : Int32).toInt = 0 := by decide
  have kl0 : (0 : Int64).toInt = 0 := by decide
  have kl1 : (1 : Int64).toInt = 1 := by decide
  have hl : lv_has ls 5 [(0, .int (a0)), (1, .long (a1)), (3, .long (a2))] := hl
  refine lv_iload_n hx hb dX2_join_0 rfl (lv_at hl 0 rfl) ?_
  by_cases c1 : (a0).toInt < -18 ∨ -15 < (a0).toInt
  · refine lv_tableOut (tgt := 58) hx hb dX2_join_1 c1 (by decide) ?_
    refine lv_iload_n hx hb dX2_join_58 rfl (lv_at hl 0 rfl) ?_
    refine lv_lload_n hx hb dX2_join_59 rfl (lv_at hl 1 rfl) ?_
    refine lv_lload_n hx hb dX2_join_60 rfl (lv_at hl 2 rfl) ?_
    refine m_calli (m_runS (As := [.int (a0), .long (a1), .long (a2)]) (rest := []) hx hb hml hown hts hE hM hS hA ce_X2_joinTruth tb_784 (V_X2_joinTruth l D A ad ns I L G (a0) (a1) (a2) hI) rfl rfl ⟨Nat.le_of_ble_eq_true rfl, Nat.le_of_ble_eq_true rfl⟩  rfl hl.1 rfl (Nat.le_of_ble_eq_true rfl) dX2_join_61 ⟨Nat.le_of_ble_eq_true rfl, Nat.le_of_ble_eq_true rfl⟩) hS (fun r2 u H locs hw hM hS => ?_)
    obtain ⟨rfl, xr2⟩ := hw
    have hM : Mem D A ad ns I L G H := hM
    refine lv_if_eq (tgt := 71) hx hb dX2_join_64 (by decide) (fun c3 => ?_) (fun c3 => ?_)
    · have hc3 := c3
      have q3 := q_eq hc3
      refine lv_lconst (v := 0) hx hb dX2_join_71 (by decide) ?_
      exact m_lret hx hb hr hlocks hM hS (Nat.le_of_ble_eq_true rfl) (Nat.le_of_ble_eq_true rfl) ⟨rfl, trivial⟩ dX2_join_72
    · have hc3 := c3
      have q3 := q_ne hc3
      refine lv_lconst (v := 1) hx hb dX2_join_67 (by decide) ?_
      refine lv_goto (tgt := 72) hx hb dX2_join_68 (by decide) ?_
      exact m_lret hx hb hr hlocks hM hS (Nat.le_of_ble_eq_true rfl) (Nat.le_of_ble_eq_true rfl) ⟨rfl, trivial⟩ dX2_join_72
  · have qc1 : (a0).toInt = -18 ∨ (a0).toInt = -17 ∨ (a0).toInt = -16 ∨ (a0).toInt = -15 := by omega
    rcases qc1 with qc1 | qc1 | qc1 | qc1
    · refine lv_tableIn (off := 43) (tgt := 44) hx hb dX2_join_1 (by omega) (by omega) (by rw [qc1]; rfl) (by decide) ?_
      refine lv_lload_n hx hb dX2_join_44 rfl (lv_at hl 2 rfl) ?_
      refine lv_lconst (v := 0) hx hb dX2_join_45 (by decide) ?_
      refine W.lcmp hx hb dX2_join_46 ?_
      refine lv_if_ne (tgt := 54) hx hb dX2_join_47 (by decide) (fun c4 => ?_) (fun c4 => ?_)
      · have hc4 := c4
        have q4 := l_ne hc4
        refine lv_lload_n hx hb dX2_join_54 rfl (lv_at hl 1 rfl) ?_
        refine lv_lload_n hx hb dX2_join_55 rfl (lv_at hl 2 rfl) ?_
        refine lv_ldiv hx hb dX2_join_56 (lz_ne (by assumption)) ?_
        refine lv_topl (fun v5 ev5 => ?_)
        exact m_lret hx hb hr hlocks hM hS (Nat.le_of_ble_eq_true rfl) (Nat.le_of_ble_eq_true rfl) ⟨rfl, trivial⟩ dX2_join_57
      · have hc4 := c4
        have q4 := l_eq hc4
        refine lv_lconst (v := 0) hx hb dX2_join_50 (by decide) ?_
        refine lv_goto (tgt := 57) hx hb dX2_join_51 (by decide) ?_
        exact m_lret hx hb hr hlocks hM hS (Nat.le_of_ble_eq_true rfl) (Nat.le_of_ble_eq_true rfl) ⟨rfl, trivial⟩ dX2_join_57
    · refine lv_tableIn (off := 39) (tgt := 40) hx hb dX2_join_1 (by omega) (by omega) (by rw [qc1]; rfl) (by decide) ?_
      refine lv_lload_n hx hb dX2_join_40 rfl (lv_at hl 1 rfl) ?_
      refine lv_lload_n hx hb dX2_join_41 rfl (lv_at hl 2 rfl) ?_
      refine lv_lmul hx hb dX2_join_42 ?_
      refine lv_topl (fun v6 ev6 => ?_)
      exact m_lret hx hb hr hlocks hM hS (Nat.le_of_ble_eq_true rfl) (Nat.le_of_ble_eq_true rfl) ⟨rfl, trivial⟩ dX2_join_43
    · refine lv_tableIn (off := 35) (tgt := 36) hx hb dX2_join_1 (by omega) (by omega) (by rw [qc1]; rfl) (by decide) ?_
      refine lv_lload_n hx hb dX2_join_36 rfl (lv_at hl 1 rfl) ?_
      refine lv_lload_n hx hb dX2_join_37 rfl (lv_at hl 2 rfl) ?_
      refine lv_lsub hx hb dX2_join_38 ?_
      refine lv_topl (fun v7 ev7 => ?_)
      exact m_lret hx hb hr hlocks hM hS (Nat.le_of_ble_eq_true rfl) (Nat.le_of_ble_eq_true rfl) ⟨rfl, trivial⟩ dX2_join_39
    · refine lv_tableIn (off := 31) (tgt := 32) hx hb dX2_join_1 (by omega) (by omega) (by rw [qc1]; rfl) (by decide) ?_
      refine lv_lload_n hx hb dX2_join_32 rfl (lv_at hl 1 rfl) ?_
      refine lv_lload_n hx hb dX2_join_33 rfl (lv_at hl 2 rfl) ?_
      refine lv_ladd hx hb dX2_join_34 ?_
      refine lv_topl (fun v8 ev8 => ?_)
      exact m_lret hx hb hr hlocks hM hS (Nat.le_of_ble_eq_true rfl) (Nat.le_of_ble_eq_true rfl) ⟨rfl, trivial⟩ dX2_join_35
theorem dX2_addToday_0 : decode cX2_addToday 0 = .ok (.iconst 0, 1) := by decide +kernel
theorem dX2_addToday_1 : decode cX2_addToday 1 = .ok (.istore_n 1, 1) := by decide +kernel
theorem dX2_addToday_2 : decode cX2_addToday 2 = .ok (.iload_n 1, 1) := by decide +kernel
theorem dX2_addToday_3 : decode cX2_addToday 3 = .ok (.bipush 8, 2) := by decide +kernel
theorem dX2_addToday_5 : decode cX2_addToday 5 = .ok (.if_icmp .ge 27, 3) := by decide +kernel
theorem dX2_addToday_8 : decode cX2_addToday 8 = .ok (.aload_n 0, 1) := by decide +kernel
theorem dX2_addToday_9 : decode cX2_addToday 9 = .ok (.getfield 9, 3) := by decide +kernel
theorem dX2_addToday_12 : decode cX2_addToday 12 = .ok (.iload_n 1, 1) := by decide +kernel
theorem dX2_addToday_13 : decode cX2_addToday 13 = .ok (.dup2, 1) := by decide +kernel
theorem dX2_addToday_14 : decode cX2_addToday 14 = .ok (.iaload, 1) := by decide +kernel
theorem dX2_addToday_15 : decode cX2_addToday 15 = .ok (.aload_n 0, 1) := by decide +kernel
theorem dX2_addToday_16 : decode cX2_addToday 16 = .ok (.getfield 19, 3) := by decide +kernel
theorem dX2_addToday_19 : decode cX2_addToday 19 = .ok (.getfield 94, 3) := by decide +kernel
theorem dX2_addToday_22 : decode cX2_addToday 22 = .ok (.iload_n 1, 1) := by decide +kernel
theorem dX2_addToday_23 : decode cX2_addToday 23 = .ok (.iaload, 1) := by decide +kernel
theorem dX2_addToday_24 : decode cX2_addToday 24 = .ok (.iadd, 1) := by decide +kernel
theorem dX2_addToday_25 : decode cX2_addToday 25 = .ok (.iastore, 1) := by decide +kernel
theorem dX2_addToday_26 : decode cX2_addToday 26 = .ok (.iinc 1 1, 3) := by decide +kernel
theorem dX2_addToday_29 : decode cX2_addToday 29 = .ok (.goto (-27), 3) := by decide +kernel
theorem dX2_addToday_32 : decode cX2_addToday 32 = .ok (.return_, 1) := by decide +kernel
theorem ce_X2_addToday : CeV RX2 yX2_addToday cX2_addToday 2 none 0 := ⟨tb_874, tp_35, tb_4, tb_875, rfl, by decide, by decide, by decide +kernel⟩
set_option maxHeartbeats 4000000 in
set_option maxRecDepth 20000 in
theorem V_X2_addToday (l : Launch) (D : va_G) (A : Nat → Prop) (ad : Nat → Nat) (ns : List Nat) (I : MI) (L : ML) (G : MG) (hG : SGC ns G) (hI : INV I) : Met l yX2_addToday (wd yX2_addToday cX2_addToday 2 none) ({ frames := 0, cells := 0, slots := 0, locals := 0 }) (va_Pc [.ref (ad (20))] (PM D A ad ns I L G)) (va_Qv (fun u => ∃ I2 L2, u = (ad, ns, I2, L2, G) ∧ INV I2 ∧ Kp [(21, 22)] [] I I2) (BM D A) A) 0 0 A := by
  refine m_ofW (by decide) (Nat.le_of_ble_eq_true rfl) ?_
  intro p e s m below meth c ls args hC hE hM hA hS hl
  obtain ⟨hx, hb, hml, hown, hts, hr, hlocks, hin⟩ := hC
  have k0 : (0 : Int32).toInt = 0 := by decide
  have k8 : (8 : Int32).toInt = 8 := by decide
  have hK : Kp [(21, 22)] [] I I := Kp.rf
  have hl : lv_has ls 2 [(0, .ref (ad (20)))] := hl
  refine lv_iconst (v := (0)) hx hb dX2_addToday_0 (by decide) ?_
  refine lv_istore_n (lv' := [(1, .int (0)), (0, .ref (ad (20)))]) hx hb dX2_addToday_1 rfl hl (by decide) rfl (fun ls hl => ?_)
  have loop2 : ∀ (n : Nat) (x1_2 : Int32) (Ia2 : MI) (La2 : ML) (H : Heap) (locs : List Loc) (ls : Array Slot), INV Ia2 → Kp [(21, 22)] [] I Ia2 → (0 ≤ x1_2.toInt ∧ x1_2.toInt ≤ 8) → (8 - x1_2.toInt).toNat < n → Mem D A ad ns Ia2 La2 G H → va_S A s.heap H locs → lv_has ls 2 [(1, .int (x1_2)), (0, .ref (ad (20)))] → W p l e ({ frames := 0, cells := 0, slots := 0, locals := 0 } : Room) s m args below meth c H locs 0 0 (MQ below (va_Qv (fun u => ∃ I2 L2, u = (ad, ns, I2, L2, G) ∧ INV I2 ∧ Kp [(21, 22)] [] I I2) (BM D A) A) args s 0 0 A) (F0 m 2 ls []) := by
    intro n
    induction n with
    | zero =>
      intro x1_2 Ia2 La2 H locs ls hI hK hr1_2 hmu
      exact absurd hmu (Nat.not_lt_zero _)
    | succ n ih2 =>
      intro x1_2 Ia2 La2 H locs ls hI hK hr1_2 hmu2 hM hS hl
      refine lv_iload_n hx hb dX2_addToday_2 rfl (lv_at hl 0 rfl) ?_
      refine lv_bipush (v := (8)) hx hb dX2_addToday_3 (by decide) ?_
      refine lv_icmp_ge (tgt := 32) hx hb dX2_addToday_5 (by decide) (fun c1 => ?_) (fun c1 => ?_)
      · have hc1 := c1
        have q1 := q_le hc1
        exact m_vret hx hb hr hlocks hM hS (Nat.le_of_ble_eq_true rfl) (Nat.le_of_ble_eq_true rfl) ⟨_, _, rfl, hI, hK⟩ dX2_addToday_32
      · have hc1 := c1
        have q1 := q_nle hc1
        refine lv_aload_n hx hb dX2_addToday_8 rfl (lv_at hl 1 rfl) ?_
        refine m_getr (20) 1 (21) hx hb hts hown hE oc2 hM (hG.1 20 (by decide)) rfl (by decide) rfl (hG.2 (20, 1, 21) (by decide)) (by decide) tb_186 dX2_addToday_9 ?_
        refine lv_iload_n hx hb dX2_addToday_12 rfl (lv_at hl 0 rfl) ?_
        refine lv_dup2_11 hx hb dX2_addToday_13 rfl rfl ?_
        refine m_iald (21) hx hb hE hM (hG.1 21 (by decide)) rfl (vp_in_iff.mpr (by omega)) dX2_addToday_14 ?_
        refine lv_aload_n hx hb dX2_addToday_15 rfl (lv_at hl 1 rfl) ?_
        refine m_getr (20) 0 (10) hx hb hts hown hE oc2 hM (hG.1 20 (by decide)) rfl (by decide) rfl (hG.2 (20, 0, 10) (by decide)) (by decide) tb_185 dX2_addToday_16 ?_
        refine m_getr (10) 0 (11) hx hb hts hown hE oc1 hM (hG.1 10 (by decide)) rfl (by decide) rfl (hG.2 (10, 0, 11) (by decide)) (by decide) tb_132 dX2_addToday_19 ?_
        refine lv_iload_n hx hb dX2_addToday_22 rfl (lv_at hl 0 rfl) ?_
        refine m_iald (11) hx hb hE hM (hG.1 11 (by decide)) rfl (vp_in_iff.mpr (by omega)) dX2_addToday_23 ?_
        refine lv_iadd hx hb dX2_addToday_24 ?_
        refine lv_topi (fun v2 ev2 => ?_)
        refine m_iast (21) hx hb hE hM hS (hG.1 21 (by decide)) rfl (vp_in_iff.mpr (by omega)) dX2_addToday_25 (fun H locs I3 eI3 hM hS => ?_)
        subst eI3
        have hI := hI.putF (n := 21) (k := ((x1_2).toNatClampNeg)) (v := v2) rfl
        have hK := hK.put (n := 21) (k := ((x1_2).toNatClampNeg)) (v := v2) (by first | rfl | simp [inR])
        obtain ⟨v4, ev4⟩ : ∃ z : Int32, z = x1_2 + Int32.ofInt (1) := ⟨_, rfl⟩
        have tv4 := a_inc ev4 (by decide) (by omega) (by omega)
        refine lv_iinc (v := v4) (lv' := [(1, .int (v4)), (0, .ref (ad (20)))]) hx hb dX2_addToday_26 hl (k := 0) rfl ev4.symm (by decide) rfl (fun ls hl => ?_)
        refine lv_goto (tgt := 2) hx hb dX2_addToday_29 (by decide) ?_
        exact ih2 (v4) (u2 Ia2 (21) ((x1_2).toNatClampNeg) (v2)) La2 _ _ ls hI hK (by first | omega | decide) (by omega) hM hS (lv_sub hl [0, 1] rfl)
  exact loop2 (_ + 1) (0) I L _ _ ls hI hK (by first | omega | decide) (Nat.lt_succ_self _) hM hS (lv_sub hl [0, 1] rfl)
theorem dX2_wordValue_0 : decode cX2_wordValue 0 = .ok (.iload_n 2, 1) := by decide +kernel
theorem dX2_wordValue_1 : decode cX2_wordValue 1 = .ok (.tableswitch 88 (-5) (-1) #[61, 53, 47, 41, 35], 35) := by decide +kernel
theorem dX2_wordValue_36 : decode cX2_wordValue 36 = .ok (.aload_n 0, 1) := by decide +kernel
theorem dX2_wordValue_37 : decode cX2_wordValue 37 = .ok (.getfield 29, 3) := by decide +kernel
theorem dX2_wordValue_40 : decode cX2_wordValue 40 = .ok (.i2l, 1) := by decide +kernel
theorem dX2_wordValue_41 : decode cX2_wordValue 41 = .ok (.lreturn, 1) := by decide +kernel
theorem dX2_wordValue_42 : decode cX2_wordValue 42 = .ok (.aload_n 1, 1) := by decide +kernel
theorem dX2_wordValue_43 : decode cX2_wordValue 43 = .ok (.getfield 111, 3) := by decide +kernel
theorem dX2_wordValue_46 : decode cX2_wordValue 46 = .ok (.i2l, 1) := by decide +kernel
theorem dX2_wordValue_47 : decode cX2_wordValue 47 = .ok (.lreturn, 1) := by decide +kernel
theorem dX2_wordValue_48 : decode cX2_wordValue 48 = .ok (.aload_n 1, 1) := by decide +kernel
theorem dX2_wordValue_49 : decode cX2_wordValue 49 = .ok (.getfield 114, 3) := by decide +kernel
theorem dX2_wordValue_52 : decode cX2_wordValue 52 = .ok (.i2l, 1) := by decide +kernel
theorem dX2_wordValue_53 : decode cX2_wordValue 53 = .ok (.lreturn, 1) := by decide +kernel
theorem dX2_wordValue_54 : decode cX2_wordValue 54 = .ok (.aload_n 1, 1) := by decide +kernel
theorem dX2_wordValue_55 : decode cX2_wordValue 55 = .ok (.iload_n 3, 1) := by decide +kernel
theorem dX2_wordValue_56 : decode cX2_wordValue 56 = .ok (.iconst 2, 1) := by decide +kernel
theorem dX2_wordValue_57 : decode cX2_wordValue 57 = .ok (.invokevirtual 117, 3) := by decide +kernel
theorem dX2_wordValue_60 : decode cX2_wordValue 60 = .ok (.i2l, 1) := by decide +kernel
theorem dX2_wordValue_61 : decode cX2_wordValue 61 = .ok (.lreturn, 1) := by decide +kernel
theorem dX2_wordValue_62 : decode cX2_wordValue 62 = .ok (.aload_n 1, 1) := by decide +kernel
theorem dX2_wordValue_63 : decode cX2_wordValue 63 = .ok (.aload_n 0, 1) := by decide +kernel
theorem dX2_wordValue_64 : decode cX2_wordValue 64 = .ok (.getfield 29, 3) := by decide +kernel
theorem dX2_wordValue_67 : decode cX2_wordValue 67 = .ok (.invokevirtual 37, 3) := by decide +kernel
theorem dX2_wordValue_70 : decode cX2_wordValue 70 = .ok (.ifCond .eq 15, 3) := by decide +kernel
theorem dX2_wordValue_73 : decode cX2_wordValue 73 = .ok (.aload_n 1, 1) := by decide +kernel
theorem dX2_wordValue_74 : decode cX2_wordValue 74 = .ok (.aload_n 0, 1) := by decide +kernel
theorem dX2_wordValue_75 : decode cX2_wordValue 75 = .ok (.getfield 29, 3) := by decide +kernel
theorem dX2_wordValue_78 : decode cX2_wordValue 78 = .ok (.invokevirtual 121, 3) := by decide +kernel
theorem dX2_wordValue_81 : decode cX2_wordValue 81 = .ok (.i2l, 1) := by decide +kernel
theorem dX2_wordValue_82 : decode cX2_wordValue 82 = .ok (.goto 6, 3) := by decide +kernel
theorem dX2_wordValue_85 : decode cX2_wordValue 85 = .ok (.ldc2_w 125, 3) := by decide +kernel
theorem dX2_wordValue_88 : decode cX2_wordValue 88 = .ok (.lreturn, 1) := by decide +kernel
theorem dX2_wordValue_89 : decode cX2_wordValue 89 = .ok (.aload_n 0, 1) := by decide +kernel
theorem dX2_wordValue_90 : decode cX2_wordValue 90 = .ok (.bipush (-6), 2) := by decide +kernel
theorem dX2_wordValue_92 : decode cX2_wordValue 92 = .ok (.iload_n 2, 1) := by decide +kernel
theorem dX2_wordValue_93 : decode cX2_wordValue 93 = .ok (.isub, 1) := by decide +kernel
theorem dX2_wordValue_94 : decode cX2_wordValue 94 = .ok (.invokevirtual 127, 3) := by decide +kernel
theorem dX2_wordValue_97 : decode cX2_wordValue 97 = .ok (.lreturn, 1) := by decide +kernel
theorem ce_X2_wordValue : CeV RX2 yX2_wordValue cX2_wordValue 4 (some .long) 3 := ⟨tb_764, tp_26, tb_4, tb_765, rfl, by decide, by decide, by decide +kernel⟩
set_option maxHeartbeats 4000000 in
set_option maxRecDepth 20000 in
theorem V_X2_wordValue_100 (l : Launch) (D : va_G) (A : Nat → Prop) (ad : Nat → Nat) (ns : List Nat) (I : MI) (L : ML) (G : MG) (a0 : Int32) (a1 : Int32) (hG : SGC ns G) (hI : INV I) (ha1 : 0 ≤ a1.toInt ∧ a1.toInt ≤ 23) : Met l yX2_wordValue (wd yX2_wordValue cX2_wordValue 4 (some .long)) ({ frames := 2, cells := 0, slots := 0, locals := 43 }) (va_Pc [.ref (ad (20)), .ref (ad (100)), .int a0, .int a1] (PM D A ad ns I L G)) (va_Ql (fun r u => u = (ad, ns, I, L, G) ∧ (True)) (BM D A) A) 0 0 A := by
  refine m_ofW (by decide) (Nat.le_of_ble_eq_true rfl) ?_
  intro p e s m below meth c ls args hC hE hM hA hS hl
  obtain ⟨hx, hb, hml, hown, hts, hr, hlocks, hin⟩ := hC
  have km6 : (-6 : Int32).toInt = -6 := by decide
  have k0 : (0 : Int32).toInt = 0 := by decide
  have k2 : (2 : Int32).toInt = 2 := by decide
  have kl8 : (8 : Int64).toInt = 8 := by decide
  have hl : lv_has ls 4 [(0, .ref (ad (20))), (1, .ref (ad (100))), (2, .int (a0)), (3, .int (a1))] := hl
  refine lv_iload_n hx hb dX2_wordValue_0 rfl (lv_at hl 2 rfl) ?_
  by_cases c1 : (a0).toInt < -5 ∨ -1 < (a0).toInt
  · refine lv_tableOut (tgt := 89) hx hb dX2_wordValue_1 c1 (by decide) ?_
    refine lv_aload_n hx hb dX2_wordValue_89 rfl (lv_at hl 0 rfl) ?_
    refine lv_bipush (v := (-6)) hx hb dX2_wordValue_90 (by decide) ?_
    refine lv_iload_n hx hb dX2_wordValue_92 rfl (lv_at hl 2 rfl) ?_
    refine lv_isub hx hb dX2_wordValue_93 ?_
    refine lv_topi (fun v2 ev2 => ?_)
    refine m_calll (m_runV (20) (As := [.int (v2)]) (rest := []) hx hb hml hown hts hE hM hS hA ce_X2_gotByYard tb_776 (V_X2_gotByYard l D A ad ns I L G (v2) hG hI) rfl rfl ⟨Nat.le_of_ble_eq_true rfl, Nat.le_of_ble_eq_true rfl⟩ (hG.1 20 (by decide)) rfl rfl (by decide) rfl hl.1 rfl (Nat.le_of_ble_eq_true rfl) dX2_wordValue_94 ⟨Nat.le_of_ble_eq_true rfl, Nat.le_of_ble_eq_true rfl⟩) hS (fun r3 u H locs hw hM hS => ?_)
    obtain ⟨rfl, xr3⟩ := hw
    have hM : Mem D A ad ns I L G H := hM
    exact m_lret hx hb hr hlocks hM hS (Nat.le_of_ble_eq_true rfl) (Nat.le_of_ble_eq_true rfl) ⟨rfl, trivial⟩ dX2_wordValue_97
  · have qc1 : (a0).toInt = -5 ∨ (a0).toInt = -4 ∨ (a0).toInt = -3 ∨ (a0).toInt = -2 ∨ (a0).toInt = -1 := by omega
    rcases qc1 with qc1 | qc1 | qc1 | qc1 | qc1
    · refine lv_tableIn (off := 61) (tgt := 62) hx hb dX2_wordValue_1 (by omega) (by omega) (by rw [qc1]; rfl) (by decide) ?_
      refine lv_aload_n hx hb dX2_wordValue_62 rfl (lv_at hl 1 rfl) ?_
      refine lv_aload_n hx hb dX2_wordValue_63 rfl (lv_at hl 0 rfl) ?_
      refine m_geti (20) 3 hx hb hts hown hE oc2 hM (hG.1 20 (by decide)) rfl (by decide) rfl tb_188 dX2_wordValue_64 ?_
      have g4 := hI.get (20) 3 (lo := 0) (hi := 23) rfl
      refine m_calli (m_runV (100) (As := [.int (I (20) 3)]) (rest := []) hx hb hml hown hts hE hM hS hA ce_X8_isLit tb_767 (V_X8_isLit_100 l D A ad ns I L G (I (20) 3) hG hI) rfl rfl ⟨Nat.le_of_ble_eq_true rfl, Nat.le_of_ble_eq_true rfl⟩ (hG.1 100 (by decide)) rfl rfl (by decide) rfl hl.1 rfl (Nat.le_of_ble_eq_true rfl) dX2_wordValue_67 ⟨Nat.le_of_ble_eq_true rfl, Nat.le_of_ble_eq_true rfl⟩) hS (fun r5 u H locs hw hM hS => ?_)
      obtain ⟨rfl, xr5⟩ := hw
      have hM : Mem D A ad ns I L G H := hM
      have yr5 := bo01 xr5
      refine lv_if_eq (tgt := 85) hx hb dX2_wordValue_70 (by decide) (fun c6 => ?_) (fun c6 => ?_)
      · have hc6 := c6
        have q6 := xr5.f hc6
        refine lv_ldc2 (v := (8)) hx hb hown (hts _ tb_775) dX2_wordValue_85 ?_
        exact m_lret hx hb hr hlocks hM hS (Nat.le_of_ble_eq_true rfl) (Nat.le_of_ble_eq_true rfl) ⟨rfl, trivial⟩ dX2_wordValue_88
      · have hc6 := c6
        have q6 := xr5.t hc6
        have lh6 := q6.2.1
        refine lv_aload_n hx hb dX2_wordValue_73 rfl (lv_at hl 1 rfl) ?_
        refine lv_aload_n hx hb dX2_wordValue_74 rfl (lv_at hl 0 rfl) ?_
        refine m_geti (20) 3 hx hb hts hown hE oc2 hM (hG.1 20 (by decide)) rfl (by decide) rfl tb_188 dX2_wordValue_75 ?_
        refine m_calli (m_runV (100) (As := [.int (I (20) 3)]) (rest := []) hx hb hml hown hts hE hM hS hA ce_X8_wayOf tb_771 (V_X8_wayOf_100 l D A ad ns I L G (I (20) 3) hG hI (by first | omega | decide)) rfl rfl ⟨Nat.le_of_ble_eq_true rfl, Nat.le_of_ble_eq_true rfl⟩ (hG.1 100 (by decide)) rfl rfl (by decide) rfl hl.1 rfl (Nat.le_of_ble_eq_true rfl) dX2_wordValue_78 ⟨Nat.le_of_ble_eq_true rfl, Nat.le_of_ble_eq_true rfl⟩) hS (fun r7 u H locs hw hM hS => ?_)
        obtain ⟨rfl, xr7⟩ := hw
        have hM : Mem D A ad ns I L G H := hM
        have lzr7 := hI.get 105 ((I 100 5 * 24 + I (20) 3).toNatClampNeg) (lo := -1) (hi := 7) rfl
        rw [← xr7] at lzr7
        refine lv_i2l hx hb dX2_wordValue_81 rfl ?_
        refine lv_topl (fun v8 ev8 => ?_)
        have tv8 := q_i2l ev8
        refine lv_goto (tgt := 88) hx hb dX2_wordValue_82 (by decide) ?_
        exact m_lret hx hb hr hlocks hM hS (Nat.le_of_ble_eq_true rfl) (Nat.le_of_ble_eq_true rfl) ⟨rfl, trivial⟩ dX2_wordValue_88
    · refine lv_tableIn (off := 53) (tgt := 54) hx hb dX2_wordValue_1 (by omega) (by omega) (by rw [qc1]; rfl) (by decide) ?_
      refine lv_aload_n hx hb dX2_wordValue_54 rfl (lv_at hl 1 rfl) ?_
      refine lv_iload_n hx hb dX2_wordValue_55 rfl (lv_at hl 3 rfl) ?_
      refine lv_iconst (v := (2)) hx hb dX2_wordValue_56 (by decide) ?_
      refine m_calli (m_runV (100) (As := [.int (a1), .int (2)]) (rest := []) hx hb hml hown hts hE hM hS hA ce_X8_ofMirror tb_766 (V_X8_ofMirror_100 l D A ad ns I L G (a1) (2) hG hI (by first | omega | decide) (by first | omega | decide)) rfl rfl ⟨Nat.le_of_ble_eq_true rfl, Nat.le_of_ble_eq_true rfl⟩ (hG.1 100 (by decide)) rfl rfl (by decide) rfl hl.1 rfl (Nat.le_of_ble_eq_true rfl) dX2_wordValue_57 ⟨Nat.le_of_ble_eq_true rfl, Nat.le_of_ble_eq_true rfl⟩) hS (fun r9 u H locs hw hM hS => ?_)
      obtain ⟨rfl, xr9⟩ := hw
      have hM : Mem D A ad ns I L G H := hM
      refine lv_i2l hx hb dX2_wordValue_60 rfl ?_
      refine lv_topl (fun v10 ev10 => ?_)
      have tv10 := q_i2l ev10
      exact m_lret hx hb hr hlocks hM hS (Nat.le_of_ble_eq_true rfl) (Nat.le_of_ble_eq_true rfl) ⟨rfl, trivial⟩ dX2_wordValue_61
    · refine lv_tableIn (off := 47) (tgt := 48) hx hb dX2_wordValue_1 (by omega) (by omega) (by rw [qc1]; rfl) (by decide) ?_
      refine lv_aload_n hx hb dX2_wordValue_48 rfl (lv_at hl 1 rfl) ?_
      refine m_geti (100) 6 hx hb hts hown hE oc8 hM (hG.1 100 (by decide)) rfl (by decide) rfl tb_55 dX2_wordValue_49 ?_
      refine lv_i2l hx hb dX2_wordValue_52 rfl ?_
      refine lv_topl (fun v11 ev11 => ?_)
      have tv11 := q_i2l ev11
      exact m_lret hx hb hr hlocks hM hS (Nat.le_of_ble_eq_true rfl) (Nat.le_of_ble_eq_true rfl) ⟨rfl, trivial⟩ dX2_wordValue_53
    · refine lv_tableIn (off := 41) (tgt := 42) hx hb dX2_wordValue_1 (by omega) (by omega) (by rw [qc1]; rfl) (by decide) ?_
      refine lv_aload_n hx hb dX2_wordValue_42 rfl (lv_at hl 1 rfl) ?_
      refine m_geti (100) 5 hx hb hts hown hE oc8 hM (hG.1 100 (by decide)) rfl (by decide) rfl tb_52 dX2_wordValue_43 ?_
      have g12 := hI.get (100) 5 (lo := 0) (hi := 11) rfl
      refine lv_i2l hx hb dX2_wordValue_46 rfl ?_
      refine lv_topl (fun v13 ev13 => ?_)
      have tv13 := q_i2l ev13
      exact m_lret hx hb hr hlocks hM hS (Nat.le_of_ble_eq_true rfl) (Nat.le_of_ble_eq_true rfl) ⟨rfl, trivial⟩ dX2_wordValue_47
    · refine lv_tableIn (off := 35) (tgt := 36) hx hb dX2_wordValue_1 (by omega) (by omega) (by rw [qc1]; rfl) (by decide) ?_
      refine lv_aload_n hx hb dX2_wordValue_36 rfl (lv_at hl 0 rfl) ?_
      refine m_geti (20) 3 hx hb hts hown hE oc2 hM (hG.1 20 (by decide)) rfl (by decide) rfl tb_188 dX2_wordValue_37 ?_
      have g14 := hI.get (20) 3 (lo := 0) (hi := 23) rfl
      refine lv_i2l hx hb dX2_wordValue_40 rfl ?_
      refine lv_topl (fun v15 ev15 => ?_)
      have tv15 := q_i2l ev15
      exact m_lret hx hb hr hlocks hM hS (Nat.le_of_ble_eq_true rfl) (Nat.le_of_ble_eq_true rfl) ⟨rfl, trivial⟩ dX2_wordValue_41
theorem dX2_valueOf_0 : decode cX2_valueOf 0 = .ok (.iconst 0, 1) := by decide +kernel
theorem dX2_valueOf_1 : decode cX2_valueOf 1 = .ok (.istore 6, 2) := by decide +kernel
theorem dX2_valueOf_3 : decode cX2_valueOf 3 = .ok (.iload_n 3, 1) := by decide +kernel
theorem dX2_valueOf_4 : decode cX2_valueOf 4 = .ok (.istore 7, 2) := by decide +kernel
theorem dX2_valueOf_6 : decode cX2_valueOf 6 = .ok (.iload 7, 2) := by decide +kernel
theorem dX2_valueOf_8 : decode cX2_valueOf 8 = .ok (.iload 4, 2) := by decide +kernel
theorem dX2_valueOf_10 : decode cX2_valueOf 10 = .ok (.if_icmp .ge 140, 3) := by decide +kernel
theorem dX2_valueOf_13 : decode cX2_valueOf 13 = .ok (.aload_n 2, 1) := by decide +kernel
theorem dX2_valueOf_14 : decode cX2_valueOf 14 = .ok (.getfield 100, 3) := by decide +kernel
theorem dX2_valueOf_17 : decode cX2_valueOf 17 = .ok (.iload 7, 2) := by decide +kernel
theorem dX2_valueOf_19 : decode cX2_valueOf 19 = .ok (.iaload, 1) := by decide +kernel
theorem dX2_valueOf_20 : decode cX2_valueOf 20 = .ok (.istore 8, 2) := by decide +kernel
theorem dX2_valueOf_22 : decode cX2_valueOf 22 = .ok (.iload 8, 2) := by decide +kernel
theorem dX2_valueOf_24 : decode cX2_valueOf 24 = .ok (.bipush (-14), 2) := by decide +kernel
theorem dX2_valueOf_26 : decode cX2_valueOf 26 = .ok (.if_icmp .le 43, 3) := by decide +kernel
theorem dX2_valueOf_29 : decode cX2_valueOf 29 = .ok (.iload 6, 2) := by decide +kernel
theorem dX2_valueOf_31 : decode cX2_valueOf 31 = .ok (.bipush 64, 2) := by decide +kernel
theorem dX2_valueOf_33 : decode cX2_valueOf 33 = .ok (.if_icmp .ge 36, 3) := by decide +kernel
theorem dX2_valueOf_36 : decode cX2_valueOf 36 = .ok (.aload_n 0, 1) := by decide +kernel
theorem dX2_valueOf_37 : decode cX2_valueOf 37 = .ok (.getfield 15, 3) := by decide +kernel
theorem dX2_valueOf_40 : decode cX2_valueOf 40 = .ok (.iload 6, 2) := by decide +kernel
theorem dX2_valueOf_42 : decode cX2_valueOf 42 = .ok (.iload 8, 2) := by decide +kernel
theorem dX2_valueOf_44 : decode cX2_valueOf 44 = .ok (.ifCond .lt 9, 3) := by decide +kernel
theorem dX2_valueOf_47 : decode cX2_valueOf 47 = .ok (.iload 8, 2) := by decide +kernel
theorem dX2_valueOf_49 : decode cX2_valueOf 49 = .ok (.i2l, 1) := by decide +kernel
theorem dX2_valueOf_50 : decode cX2_valueOf 50 = .ok (.goto 12, 3) := by decide +kernel
theorem dX2_valueOf_53 : decode cX2_valueOf 53 = .ok (.aload_n 0, 1) := by decide +kernel
theorem dX2_valueOf_54 : decode cX2_valueOf 54 = .ok (.aload_n 1, 1) := by decide +kernel
theorem dX2_valueOf_55 : decode cX2_valueOf 55 = .ok (.iload 8, 2) := by decide +kernel
theorem dX2_valueOf_57 : decode cX2_valueOf 57 = .ok (.iload 5, 2) := by decide +kernel
theorem dX2_valueOf_59 : decode cX2_valueOf 59 = .ok (.invokevirtual 103, 3) := by decide +kernel
theorem dX2_valueOf_62 : decode cX2_valueOf 62 = .ok (.lastore, 1) := by decide +kernel
theorem dX2_valueOf_63 : decode cX2_valueOf 63 = .ok (.iinc 6 1, 3) := by decide +kernel
theorem dX2_valueOf_66 : decode cX2_valueOf 66 = .ok (.goto 78, 3) := by decide +kernel
theorem dX2_valueOf_69 : decode cX2_valueOf 69 = .ok (.iload 8, 2) := by decide +kernel
theorem dX2_valueOf_71 : decode cX2_valueOf 71 = .ok (.bipush (-14), 2) := by decide +kernel
theorem dX2_valueOf_73 : decode cX2_valueOf 73 = .ok (.if_icmp .ne 32, 3) := by decide +kernel
theorem dX2_valueOf_76 : decode cX2_valueOf 76 = .ok (.iload 6, 2) := by decide +kernel
theorem dX2_valueOf_78 : decode cX2_valueOf 78 = .ok (.iconst 1, 1) := by decide +kernel
theorem dX2_valueOf_79 : decode cX2_valueOf 79 = .ok (.if_icmp .lt 26, 3) := by decide +kernel
theorem dX2_valueOf_82 : decode cX2_valueOf 82 = .ok (.aload_n 0, 1) := by decide +kernel
theorem dX2_valueOf_83 : decode cX2_valueOf 83 = .ok (.getfield 15, 3) := by decide +kernel
theorem dX2_valueOf_86 : decode cX2_valueOf 86 = .ok (.iload 6, 2) := by decide +kernel
theorem dX2_valueOf_88 : decode cX2_valueOf 88 = .ok (.iconst 1, 1) := by decide +kernel
theorem dX2_valueOf_89 : decode cX2_valueOf 89 = .ok (.isub, 1) := by decide +kernel
theorem dX2_valueOf_90 : decode cX2_valueOf 90 = .ok (.lconst 1, 1) := by decide +kernel
theorem dX2_valueOf_91 : decode cX2_valueOf 91 = .ok (.aload_n 0, 1) := by decide +kernel
theorem dX2_valueOf_92 : decode cX2_valueOf 92 = .ok (.getfield 15, 3) := by decide +kernel
theorem dX2_valueOf_95 : decode cX2_valueOf 95 = .ok (.iload 6, 2) := by decide +kernel
theorem dX2_valueOf_97 : decode cX2_valueOf 97 = .ok (.iconst 1, 1) := by decide +kernel
theorem dX2_valueOf_98 : decode cX2_valueOf 98 = .ok (.isub, 1) := by decide +kernel
theorem dX2_valueOf_99 : decode cX2_valueOf 99 = .ok (.laload, 1) := by decide +kernel
theorem dX2_valueOf_100 : decode cX2_valueOf 100 = .ok (.lsub, 1) := by decide +kernel
theorem dX2_valueOf_101 : decode cX2_valueOf 101 = .ok (.lastore, 1) := by decide +kernel
theorem dX2_valueOf_102 : decode cX2_valueOf 102 = .ok (.goto 42, 3) := by decide +kernel
theorem dX2_valueOf_105 : decode cX2_valueOf 105 = .ok (.iload 6, 2) := by decide +kernel
theorem dX2_valueOf_107 : decode cX2_valueOf 107 = .ok (.iconst 2, 1) := by decide +kernel
theorem dX2_valueOf_108 : decode cX2_valueOf 108 = .ok (.if_icmp .lt 36, 3) := by decide +kernel
theorem dX2_valueOf_111 : decode cX2_valueOf 111 = .ok (.iinc 6 (-1), 3) := by decide +kernel
theorem dX2_valueOf_114 : decode cX2_valueOf 114 = .ok (.aload_n 0, 1) := by decide +kernel
theorem dX2_valueOf_115 : decode cX2_valueOf 115 = .ok (.getfield 15, 3) := by decide +kernel
theorem dX2_valueOf_118 : decode cX2_valueOf 118 = .ok (.iload 6, 2) := by decide +kernel
theorem dX2_valueOf_120 : decode cX2_valueOf 120 = .ok (.iconst 1, 1) := by decide +kernel
theorem dX2_valueOf_121 : decode cX2_valueOf 121 = .ok (.isub, 1) := by decide +kernel
theorem dX2_valueOf_122 : decode cX2_valueOf 122 = .ok (.iload 8, 2) := by decide +kernel
theorem dX2_valueOf_124 : decode cX2_valueOf 124 = .ok (.aload_n 0, 1) := by decide +kernel
theorem dX2_valueOf_125 : decode cX2_valueOf 125 = .ok (.getfield 15, 3) := by decide +kernel
theorem dX2_valueOf_128 : decode cX2_valueOf 128 = .ok (.iload 6, 2) := by decide +kernel
theorem dX2_valueOf_130 : decode cX2_valueOf 130 = .ok (.iconst 1, 1) := by decide +kernel
theorem dX2_valueOf_131 : decode cX2_valueOf 131 = .ok (.isub, 1) := by decide +kernel
theorem dX2_valueOf_132 : decode cX2_valueOf 132 = .ok (.laload, 1) := by decide +kernel
theorem dX2_valueOf_133 : decode cX2_valueOf 133 = .ok (.aload_n 0, 1) := by decide +kernel
theorem dX2_valueOf_134 : decode cX2_valueOf 134 = .ok (.getfield 15, 3) := by decide +kernel
theorem dX2_valueOf_137 : decode cX2_valueOf 137 = .ok (.iload 6, 2) := by decide +kernel
theorem dX2_valueOf_139 : decode cX2_valueOf 139 = .ok (.laload, 1) := by decide +kernel
theorem dX2_valueOf_140 : decode cX2_valueOf 140 = .ok (.invokestatic 107, 3) := by decide +kernel
theorem dX2_valueOf_143 : decode cX2_valueOf 143 = .ok (.lastore, 1) := by decide +kernel
theorem dX2_valueOf_144 : decode cX2_valueOf 144 = .ok (.iinc 7 1, 3) := by decide +kernel
theorem dX2_valueOf_147 : decode cX2_valueOf 147 = .ok (.goto (-141), 3) := by decide +kernel
theorem dX2_valueOf_150 : decode cX2_valueOf 150 = .ok (.iload 6, 2) := by decide +kernel
theorem dX2_valueOf_152 : decode cX2_valueOf 152 = .ok (.iconst 1, 1) := by decide +kernel
theorem dX2_valueOf_153 : decode cX2_valueOf 153 = .ok (.if_icmp .lt 12, 3) := by decide +kernel
theorem dX2_valueOf_156 : decode cX2_valueOf 156 = .ok (.aload_n 0, 1) := by decide +kernel
theorem dX2_valueOf_157 : decode cX2_valueOf 157 = .ok (.getfield 15, 3) := by decide +kernel
theorem dX2_valueOf_160 : decode cX2_valueOf 160 = .ok (.iconst 0, 1) := by decide +kernel
theorem dX2_valueOf_161 : decode cX2_valueOf 161 = .ok (.laload, 1) := by decide +kernel
theorem dX2_valueOf_162 : decode cX2_valueOf 162 = .ok (.goto 4, 3) := by decide +kernel
theorem dX2_valueOf_165 : decode cX2_valueOf 165 = .ok (.lconst 0, 1) := by decide +kernel
theorem dX2_valueOf_166 : decode cX2_valueOf 166 = .ok (.lreturn, 1) := by decide +kernel
theorem ce_X2_valueOf : CeV RX2 yX2_valueOf cX2_valueOf 9 (some .long) 5 := ⟨tb_760, tp_25, tb_4, tb_761, rfl, by decide, by decide, by decide +kernel⟩
set_option maxHeartbeats 4000000 in
set_option maxRecDepth 20000 in
theorem V_X2_valueOf_100 (l : Launch) (D : va_G) (A : Nat → Prop) (ad : Nat → Nat) (ns : List Nat) (I : MI) (L : ML) (G : MG) (w : Nat) (a0 : Int32) (a1 : Int32) (a2 : Int32) (hG : SGC ns G) (hI : INV I) (hW : LOK ns G w) (ha0 : 0 ≤ a0.toInt ∧ a0.toInt ≤ 400) (ha1 : 0 ≤ a1.toInt ∧ a1.toInt ≤ 400) (ha2 : 0 ≤ a2.toInt ∧ a2.toInt ≤ 23) : Met l yX2_valueOf (wd yX2_valueOf cX2_valueOf 9 (some .long)) ({ frames := 3, cells := 0, slots := 0, locals := 66 }) (va_Pc [.ref (ad (20)), .ref (ad (100)), .ref (ad (w)), .int a0, .int a1, .int a2] (PM D A ad ns I L G)) (va_Ql (fun r u => ∃ I2 L2, u = (ad, ns, I2, L2, G) ∧ INV I2 ∧ Kp [] [] I I2) (BM D A) A) 0 0 A := by
  refine m_ofW (by decide) (Nat.le_of_ble_eq_true rfl) ?_
  intro p e s m below meth c ls args hC hE hM hA hS hl
  obtain ⟨hx, hb, hml, hown, hts, hr, hlocks, hin⟩ := hC
  have km14 : (-14 : Int32).toInt = -14 := by decide
  have k0 : (0 : Int32).toInt = 0 := by decide
  have k1 : (1 : Int32).toInt = 1 := by decide
  have k2 : (2 : Int32).toInt = 2 := by decide
  have k64 : (64 : Int32).toInt = 64 := by decide
  have kl0 : (0 : Int64).toInt = 0 := by decide
  have kl1 : (1 : Int64).toInt = 1 := by decide
  have hK : Kp [] [] I I := Kp.rf
  have hl : lv_has ls 9 [(0, .ref (ad (20))), (1, .ref (ad (100))), (2, .ref (ad (w))), (3, .int (a0)), (4, .int (a1)), (5, .int (a2))] := hl
  refine lv_iconst (v := (0)) hx hb dX2_valueOf_0 (by decide) ?_
  refine lv_istore (lv' := [(6, .int (0)), (0, .ref (ad (20))), (1, .ref (ad (100))), (2, .ref (ad (w))), (3, .int (a0)), (4, .int (a1)), (5, .int (a2))]) hx hb dX2_valueOf_1 hl (by decide) rfl (fun ls hl => ?_)
  refine lv_iload_n hx hb dX2_valueOf_3 rfl (lv_at hl 4 rfl) ?_
  refine lv_istore (lv' := [(7, .int (a0)), (6, .int (0)), (0, .ref (ad (20))), (1, .ref (ad (100))), (2, .ref (ad (w))), (3, .int (a0)), (4, .int (a1)), (5, .int (a2))]) hx hb dX2_valueOf_4 hl (by decide) rfl (fun ls hl => ?_)
  have loop6 : ∀ (n : Nat) (x7_6 : Int32) (x6_6 : Int32) (Ia6 : MI) (La6 : ML) (H : Heap) (locs : List Loc) (ls : Array Slot), INV Ia6 → Kp [] [] I Ia6 → (0 ≤ x7_6.toInt ∧ x7_6.toInt ≤ 400) → (0 ≤ x6_6.toInt ∧ x6_6.toInt ≤ 64) → (400 - x7_6.toInt).toNat < n → Mem D A ad ns Ia6 La6 G H → va_S A s.heap H locs → lv_has ls 9 [(7, .int (x7_6)), (6, .int (x6_6)), (0, .ref (ad (20))), (1, .ref (ad (100))), (2, .ref (ad (w))), (3, .int (a0)), (4, .int (a1)), (5, .int (a2))] → W p l e ({ frames := 3, cells := 0, slots := 0, locals := 66 } : Room) s m args below meth c H locs 0 0 (MQ below (va_Ql (fun r u => ∃ I2 L2, u = (ad, ns, I2, L2, G) ∧ INV I2 ∧ Kp [] [] I I2) (BM D A) A) args s 0 0 A) (F0 m 6 ls []) := by
    intro n
    induction n with
    | zero =>
      intro x7_6 x6_6 Ia6 La6 H locs ls hI hK hr7_6 hr6_6 hmu
      exact absurd hmu (Nat.not_lt_zero _)
    | succ n ih6 =>
      intro x7_6 x6_6 Ia6 La6 H locs ls hI hK hr7_6 hr6_6 hmu6 hM hS hl
      refine lv_iload hx hb dX2_valueOf_6 (lv_at hl 0 rfl) ?_
      refine lv_iload hx hb dX2_valueOf_8 (lv_at hl 6 rfl) ?_
      refine lv_icmp_ge (tgt := 150) hx hb dX2_valueOf_10 (by decide) (fun c1 => ?_) (fun c1 => ?_)
      · have hc1 := c1
        have q1 := q_le hc1
        refine lv_iload hx hb dX2_valueOf_150 (lv_at hl 1 rfl) ?_
        refine lv_iconst (v := (1)) hx hb dX2_valueOf_152 (by decide) ?_
        refine lv_icmp_lt (tgt := 165) hx hb dX2_valueOf_153 (by decide) (fun c2 => ?_) (fun c2 => ?_)
        · have hc2 := c2
          have q2 := q_lt hc2
          refine lv_lconst (v := 0) hx hb dX2_valueOf_165 (by decide) ?_
          exact m_lret hx hb hr hlocks hM hS (Nat.le_of_ble_eq_true rfl) (Nat.le_of_ble_eq_true rfl) ⟨_, _, rfl, hI, hK⟩ dX2_valueOf_166
        · have hc2 := c2
          have q2 := q_nlt hc2
          refine lv_aload_n hx hb dX2_valueOf_156 rfl (lv_at hl 2 rfl) ?_
          refine m_getr (20) 2 (22) hx hb hts hown hE oc2 hM (hG.1 20 (by decide)) rfl (by decide) rfl (hG.2 (20, 2, 22) (by decide)) (by decide) tb_187 dX2_valueOf_157 ?_
          refine lv_iconst (v := (0)) hx hb dX2_valueOf_160 (by decide) ?_
          refine m_lald (22) hx hb hE hM (hG.1 22 (by decide)) rfl (vp_in_iff.mpr (by decide)) dX2_valueOf_161 ?_
          rw [show (0 : Int32).toNatClampNeg = 0 from rfl]
          refine lv_goto (tgt := 166) hx hb dX2_valueOf_162 (by decide) ?_
          exact m_lret hx hb hr hlocks hM hS (Nat.le_of_ble_eq_true rfl) (Nat.le_of_ble_eq_true rfl) ⟨_, _, rfl, hI, hK⟩ dX2_valueOf_166
      · have hc1 := c1
        have q1 := q_nle hc1
        refine lv_aload_n hx hb dX2_valueOf_13 rfl (lv_at hl 4 rfl) ?_
        refine m_getr (w) 0 (w + 1) hx hb hts hown hE oc3 hM hW.l (kW _ hW.1).1 (by decide) rfl (hW.2.2 0 (by decide)) (by have := lbw hW.1; omega) tb_370 dX2_valueOf_14 ?_
        refine lv_iload hx hb dX2_valueOf_17 (lv_at hl 0 rfl) ?_
        refine m_iald (w + 1) hx hb hE hM (hW.2.1 1 (by decide)) (kW _ hW.1).2.1 (vp_in_iff.mpr (by omega)) dX2_valueOf_19 ?_
        refine lv_istore (lv' := [(8, .int (Ia6 (w + 1) (x7_6).toNatClampNeg)), (7, .int (x7_6)), (6, .int (x6_6)), (0, .ref (ad (20))), (1, .ref (ad (100))), (2, .ref (ad (w))), (3, .int (a0)), (4, .int (a1)), (5, .int (a2))]) hx hb dX2_valueOf_20 hl (by decide) rfl (fun ls hl => ?_)
        refine lv_iload hx hb dX2_valueOf_22 (lv_at hl 0 rfl) ?_
        refine lv_bipush (v := (-14)) hx hb dX2_valueOf_24 (by decide) ?_
        refine lv_icmp_le (tgt := 69) hx hb dX2_valueOf_26 (by decide) (fun c3 => ?_) (fun c3 => ?_)
        · have hc3 := c3
          have q3 := q_le hc3
          refine lv_iload hx hb dX2_valueOf_69 (lv_at hl 0 rfl) ?_
          refine lv_bipush (v := (-14)) hx hb dX2_valueOf_71 (by decide) ?_
          refine lv_icmp_ne (tgt := 105) hx hb dX2_valueOf_73 (by decide) (fun c4 => ?_) (fun c4 => ?_)
          · have hc4 := c4
            have q4 := q_ne hc4
            refine lv_iload hx hb dX2_valueOf_105 (lv_at hl 2 rfl) ?_
            refine lv_iconst (v := (2)) hx hb dX2_valueOf_107 (by decide) ?_
            refine lv_icmp_lt (tgt := 144) hx hb dX2_valueOf_108 (by decide) (fun c5 => ?_) (fun c5 => ?_)
            · have hc5 := c5
              have q5 := q_lt hc5
              obtain ⟨v6, ev6⟩ : ∃ z : Int32, z = x7_6 + Int32.ofInt (1) := ⟨_, rfl⟩
              have tv6 := a_inc ev6 (by decide) (by omega) (by omega)
              refine lv_iinc (v := v6) (lv' := [(7, .int (v6)), (8, .int (Ia6 (w + 1) (x7_6).toNatClampNeg)), (6, .int (x6_6)), (0, .ref (ad (20))), (1, .ref (ad (100))), (2, .ref (ad (w))), (3, .int (a0)), (4, .int (a1)), (5, .int (a2))]) hx hb dX2_valueOf_144 hl (k := 1) rfl ev6.symm (by decide) rfl (fun ls hl => ?_)
              refine lv_goto (tgt := 6) hx hb dX2_valueOf_147 (by decide) ?_
              exact ih6 (v6) (x6_6) Ia6 La6 _ _ ls hI hK (by first | omega | decide) (by first | omega | decide) (by omega) hM hS (lv_sub hl [0, 2, 3, 4, 5, 6, 7, 8] rfl)
            · have hc5 := c5
              have q5 := q_nlt hc5
              obtain ⟨v7, ev7⟩ : ∃ z : Int32, z = x6_6 + Int32.ofInt (-1) := ⟨_, rfl⟩
              have tv7 := a_inc ev7 (by decide) (by omega) (by omega)
              refine lv_iinc (v := v7) (lv' := [(6, .int (v7)), (8, .int (Ia6 (w + 1) (x7_6).toNatClampNeg)), (7, .int (x7_6)), (0, .ref (ad (20))), (1, .ref (ad (100))), (2, .ref (ad (w))), (3, .int (a0)), (4, .int (a1)), (5, .int (a2))]) hx hb dX2_valueOf_111 hl (k := 2) rfl ev7.symm (by decide) rfl (fun ls hl => ?_)
              refine lv_aload_n hx hb dX2_valueOf_114 rfl (lv_at hl 3 rfl) ?_
              refine m_getr (20) 2 (22) hx hb hts hown hE oc2 hM (hG.1 20 (by decide)) rfl (by decide) rfl (hG.2 (20, 2, 22) (by decide)) (by decide) tb_187 dX2_valueOf_115 ?_
              refine lv_iload hx hb dX2_valueOf_118 (lv_at hl 0 rfl) ?_
              refine lv_iconst (v := (1)) hx hb dX2_valueOf_120 (by decide) ?_
              refine lv_isub hx hb dX2_valueOf_121 ?_
              refine lv_topi (fun v8 ev8 => ?_)
              have tv8 := a_sub ev8 (by omega) (by omega)
              refine lv_iload hx hb dX2_valueOf_122 (lv_at hl 1 rfl) ?_
              refine lv_aload_n hx hb dX2_valueOf_124 rfl (lv_at hl 3 rfl) ?_
              refine m_getr (20) 2 (22) hx hb hts hown hE oc2 hM (hG.1 20 (by decide)) rfl (by decide) rfl (hG.2 (20, 2, 22) (by decide)) (by decide) tb_187 dX2_valueOf_125 ?_
              refine lv_iload hx hb dX2_valueOf_128 (lv_at hl 0 rfl) ?_
              refine lv_iconst (v := (1)) hx hb dX2_valueOf_130 (by decide) ?_
              refine lv_isub hx hb dX2_valueOf_131 ?_
              refine lv_topi (fun v9 ev9 => ?_)
              have tv9 := a_sub ev9 (by omega) (by omega)
              refine m_lald (22) hx hb hE hM (hG.1 22 (by decide)) rfl (vp_in_iff.mpr (by omega)) dX2_valueOf_132 ?_
              refine lv_aload_n hx hb dX2_valueOf_133 rfl (lv_at hl 3 rfl) ?_
              refine m_getr (20) 2 (22) hx hb hts hown hE oc2 hM (hG.1 20 (by decide)) rfl (by decide) rfl (hG.2 (20, 2, 22) (by decide)) (by decide) tb_187 dX2_valueOf_134 ?_
              refine lv_iload hx hb dX2_valueOf_137 (lv_at hl 0 rfl) ?_
              refine m_lald (22) hx hb hE hM (hG.1 22 (by decide)) rfl (vp_in_iff.mpr (by omega)) dX2_valueOf_139 ?_
              refine m_calll (m_runS (As := [.int (Ia6 (w + 1) (x7_6).toNatClampNeg), .long (La6 (22) (v9).toNatClampNeg), .long (La6 (22) (v7).toNatClampNeg)]) (rest := [.int (v8), .ref (ad (22))]) hx hb hml hown hts hE hM hS hA ce_X2_join tb_781 (V_X2_join l D A ad ns Ia6 La6 G (Ia6 (w + 1) (x7_6).toNatClampNeg) (La6 (22) (v9).toNatClampNeg) (La6 (22) (v7).toNatClampNeg) hI) rfl rfl ⟨Nat.le_of_ble_eq_true rfl, Nat.le_of_ble_eq_true rfl⟩  rfl hl.1 rfl (Nat.le_of_ble_eq_true rfl) dX2_valueOf_140 ⟨Nat.le_of_ble_eq_true rfl, Nat.le_of_ble_eq_true rfl⟩) hS (fun r10 u H locs hw hM hS => ?_)
              obtain ⟨rfl, xr10⟩ := hw
              have hM : Mem D A ad ns Ia6 La6 G H := hM
              refine m_last (22) hx hb hE hM hS (hG.1 22 (by decide)) rfl (vp_in_iff.mpr (by omega)) dX2_valueOf_143 (fun H locs L11 eL11 hM hS => ?_)
              obtain ⟨v12, ev12⟩ : ∃ z : Int32, z = x7_6 + Int32.ofInt (1) := ⟨_, rfl⟩
              have tv12 := a_inc ev12 (by decide) (by omega) (by omega)
              refine lv_iinc (v := v12) (lv' := [(7, .int (v12)), (6, .int (v7)), (8, .int (Ia6 (w + 1) (x7_6).toNatClampNeg)), (0, .ref (ad (20))), (1, .ref (ad (100))), (2, .ref (ad (w))), (3, .int (a0)), (4, .int (a1)), (5, .int (a2))]) hx hb dX2_valueOf_144 hl (k := 2) rfl ev12.symm (by decide) rfl (fun ls hl => ?_)
              refine lv_goto (tgt := 6) hx hb dX2_valueOf_147 (by decide) ?_
              exact ih6 (v12) (v7) Ia6 L11 _ _ ls hI hK (by first | omega | decide) (by first | omega | decide) (by omega) hM hS (lv_sub hl [0, 1, 3, 4, 5, 6, 7, 8] rfl)
          · have hc4 := c4
            have q4 := q_eq hc4
            refine lv_iload hx hb dX2_valueOf_76 (lv_at hl 2 rfl) ?_
            refine lv_iconst (v := (1)) hx hb dX2_valueOf_78 (by decide) ?_
            refine lv_icmp_lt (tgt := 105) hx hb dX2_valueOf_79 (by decide) (fun c13 => ?_) (fun c13 => ?_)
            · have hc13 := c13
              have q13 := q_lt hc13
              refine lv_iload hx hb dX2_valueOf_105 (lv_at hl 2 rfl) ?_
              refine lv_iconst (v := (2)) hx hb dX2_valueOf_107 (by decide) ?_
              refine lv_icmp_lt (tgt := 144) hx hb dX2_valueOf_108 (by decide) (fun c14 => ?_) (fun c14 => ?_)
              · have hc14 := c14
                have q14 := q_lt hc14
                obtain ⟨v15, ev15⟩ : ∃ z : Int32, z = x7_6 + Int32.ofInt (1) := ⟨_, rfl⟩
                have tv15 := a_inc ev15 (by decide) (by omega) (by omega)
                refine lv_iinc (v := v15) (lv' := [(7, .int (v15)), (8, .int (Ia6 (w + 1) (x7_6).toNatClampNeg)), (6, .int (x6_6)), (0, .ref (ad (20))), (1, .ref (ad (100))), (2, .ref (ad (w))), (3, .int (a0)), (4, .int (a1)), (5, .int (a2))]) hx hb dX2_valueOf_144 hl (k := 1) rfl ev15.symm (by decide) rfl (fun ls hl => ?_)
                refine lv_goto (tgt := 6) hx hb dX2_valueOf_147 (by decide) ?_
                exact ih6 (v15) (x6_6) Ia6 La6 _ _ ls hI hK (by first | omega | decide) (by first | omega | decide) (by omega) hM hS (lv_sub hl [0, 2, 3, 4, 5, 6, 7, 8] rfl)
              · have hc14 := c14
                have q14 := q_nlt hc14
                obtain ⟨v16, ev16⟩ : ∃ z : Int32, z = x6_6 + Int32.ofInt (-1) := ⟨_, rfl⟩
                have tv16 := a_inc ev16 (by decide) (by omega) (by omega)
                refine lv_iinc (v := v16) (lv' := [(6, .int (v16)), (8, .int (Ia6 (w + 1) (x7_6).toNatClampNeg)), (7, .int (x7_6)), (0, .ref (ad (20))), (1, .ref (ad (100))), (2, .ref (ad (w))), (3, .int (a0)), (4, .int (a1)), (5, .int (a2))]) hx hb dX2_valueOf_111 hl (k := 2) rfl ev16.symm (by decide) rfl (fun ls hl => ?_)
                refine lv_aload_n hx hb dX2_valueOf_114 rfl (lv_at hl 3 rfl) ?_
                refine m_getr (20) 2 (22) hx hb hts hown hE oc2 hM (hG.1 20 (by decide)) rfl (by decide) rfl (hG.2 (20, 2, 22) (by decide)) (by decide) tb_187 dX2_valueOf_115 ?_
                refine lv_iload hx hb dX2_valueOf_118 (lv_at hl 0 rfl) ?_
                refine lv_iconst (v := (1)) hx hb dX2_valueOf_120 (by decide) ?_
                refine lv_isub hx hb dX2_valueOf_121 ?_
                refine lv_topi (fun v17 ev17 => ?_)
                have tv17 := a_sub ev17 (by omega) (by omega)
                refine lv_iload hx hb dX2_valueOf_122 (lv_at hl 1 rfl) ?_
                refine lv_aload_n hx hb dX2_valueOf_124 rfl (lv_at hl 3 rfl) ?_
                refine m_getr (20) 2 (22) hx hb hts hown hE oc2 hM (hG.1 20 (by decide)) rfl (by decide) rfl (hG.2 (20, 2, 22) (by decide)) (by decide) tb_187 dX2_valueOf_125 ?_
                refine lv_iload hx hb dX2_valueOf_128 (lv_at hl 0 rfl) ?_
                refine lv_iconst (v := (1)) hx hb dX2_valueOf_130 (by decide) ?_
                refine lv_isub hx hb dX2_valueOf_131 ?_
                refine lv_topi (fun v18 ev18 => ?_)
                have tv18 := a_sub ev18 (by omega) (by omega)
                refine m_lald (22) hx hb hE hM (hG.1 22 (by decide)) rfl (vp_in_iff.mpr (by omega)) dX2_valueOf_132 ?_
                refine lv_aload_n hx hb dX2_valueOf_133 rfl (lv_at hl 3 rfl) ?_
                refine m_getr (20) 2 (22) hx hb hts hown hE oc2 hM (hG.1 20 (by decide)) rfl (by decide) rfl (hG.2 (20, 2, 22) (by decide)) (by decide) tb_187 dX2_valueOf_134 ?_
                refine lv_iload hx hb dX2_valueOf_137 (lv_at hl 0 rfl) ?_
                refine m_lald (22) hx hb hE hM (hG.1 22 (by decide)) rfl (vp_in_iff.mpr (by omega)) dX2_valueOf_139 ?_
                refine m_calll (m_runS (As := [.int (Ia6 (w + 1) (x7_6).toNatClampNeg), .long (La6 (22) (v18).toNatClampNeg), .long (La6 (22) (v16).toNatClampNeg)]) (rest := [.int (v17), .ref (ad (22))]) hx hb hml hown hts hE hM hS hA ce_X2_join tb_781 (V_X2_join l D A ad ns Ia6 La6 G (Ia6 (w + 1) (x7_6).toNatClampNeg) (La6 (22) (v18).toNatClampNeg) (La6 (22) (v16).toNatClampNeg) hI) rfl rfl ⟨Nat.le_of_ble_eq_true rfl, Nat.le_of_ble_eq_true rfl⟩  rfl hl.1 rfl (Nat.le_of_ble_eq_true rfl) dX2_valueOf_140 ⟨Nat.le_of_ble_eq_true rfl, Nat.le_of_ble_eq_true rfl⟩) hS (fun r19 u H locs hw hM hS => ?_)
                obtain ⟨rfl, xr19⟩ := hw
                have hM : Mem D A ad ns Ia6 La6 G H := hM
                refine m_last (22) hx hb hE hM hS (hG.1 22 (by decide)) rfl (vp_in_iff.mpr (by omega)) dX2_valueOf_143 (fun H locs L20 eL20 hM hS => ?_)
                obtain ⟨v21, ev21⟩ : ∃ z : Int32, z = x7_6 + Int32.ofInt (1) := ⟨_, rfl⟩
                have tv21 := a_inc ev21 (by decide) (by omega) (by omega)
                refine lv_iinc (v := v21) (lv' := [(7, .int (v21)), (6, .int (v16)), (8, .int (Ia6 (w + 1) (x7_6).toNatClampNeg)), (0, .ref (ad (20))), (1, .ref (ad (100))), (2, .ref (ad (w))), (3, .int (a0)), (4, .int (a1)), (5, .int (a2))]) hx hb dX2_valueOf_144 hl (k := 2) rfl ev21.symm (by decide) rfl (fun ls hl => ?_)
                refine lv_goto (tgt := 6) hx hb dX2_valueOf_147 (by decide) ?_
                exact ih6 (v21) (v16) Ia6 L20 _ _ ls hI hK (by first | omega | decide) (by first | omega | decide) (by omega) hM hS (lv_sub hl [0, 1, 3, 4, 5, 6, 7, 8] rfl)
            · have hc13 := c13
              have q13 := q_nlt hc13
              refine lv_aload_n hx hb dX2_valueOf_82 rfl (lv_at hl 3 rfl) ?_
              refine m_getr (20) 2 (22) hx hb hts hown hE oc2 hM (hG.1 20 (by decide)) rfl (by decide) rfl (hG.2 (20, 2, 22) (by decide)) (by decide) tb_187 dX2_valueOf_83 ?_
              refine lv_iload hx hb dX2_valueOf_86 (lv_at hl 2 rfl) ?_
              refine lv_iconst (v := (1)) hx hb dX2_valueOf_88 (by decide) ?_
              refine lv_isub hx hb dX2_valueOf_89 ?_
              refine lv_topi (fun v22 ev22 => ?_)
              have tv22 := a_sub ev22 (by omega) (by omega)
              refine lv_lconst (v := 1) hx hb dX2_valueOf_90 (by decide) ?_
              refine lv_aload_n hx hb dX2_valueOf_91 rfl (lv_at hl 3 rfl) ?_
              refine m_getr (20) 2 (22) hx hb hts hown hE oc2 hM (hG.1 20 (by decide)) rfl (by decide) rfl (hG.2 (20, 2, 22) (by decide)) (by decide) tb_187 dX2_valueOf_92 ?_
              refine lv_iload hx hb dX2_valueOf_95 (lv_at hl 2 rfl) ?_
              refine lv_iconst (v := (1)) hx hb dX2_valueOf_97 (by decide) ?_
              refine lv_isub hx hb dX2_valueOf_98 ?_
              refine lv_topi (fun v23 ev23 => ?_)
              have tv23 := a_sub ev23 (by omega) (by omega)
              refine m_lald (22) hx hb hE hM (hG.1 22 (by decide)) rfl (vp_in_iff.mpr (by omega)) dX2_valueOf_99 ?_
              refine lv_lsub hx hb dX2_valueOf_100 ?_
              refine lv_topl (fun v24 ev24 => ?_)
              refine m_last (22) hx hb hE hM hS (hG.1 22 (by decide)) rfl (vp_in_iff.mpr (by omega)) dX2_valueOf_101 (fun H locs L25 eL25 hM hS => ?_)
              refine lv_goto (tgt := 144) hx hb dX2_valueOf_102 (by decide) ?_
              obtain ⟨v26, ev26⟩ : ∃ z : Int32, z = x7_6 + Int32.ofInt (1) := ⟨_, rfl⟩
              have tv26 := a_inc ev26 (by decide) (by omega) (by omega)
              refine lv_iinc (v := v26) (lv' := [(7, .int (v26)), (8, .int (Ia6 (w + 1) (x7_6).toNatClampNeg)), (6, .int (x6_6)), (0, .ref (ad (20))), (1, .ref (ad (100))), (2, .ref (ad (w))), (3, .int (a0)), (4, .int (a1)), (5, .int (a2))]) hx hb dX2_valueOf_144 hl (k := 1) rfl ev26.symm (by decide) rfl (fun ls hl => ?_)
              refine lv_goto (tgt := 6) hx hb dX2_valueOf_147 (by decide) ?_
              exact ih6 (v26) (x6_6) Ia6 L25 _ _ ls hI hK (by first | omega | decide) (by first | omega | decide) (by omega) hM hS (lv_sub hl [0, 2, 3, 4, 5, 6, 7, 8] rfl)
        · have hc3 := c3
          have q3 := q_nle hc3
          refine lv_iload hx hb dX2_valueOf_29 (lv_at hl 2 rfl) ?_
          refine lv_bipush (v := (64)) hx hb dX2_valueOf_31 (by decide) ?_
          refine lv_icmp_ge (tgt := 69) hx hb dX2_valueOf_33 (by decide) (fun c27 => ?_) (fun c27 => ?_)
          · have hc27 := c27
            have q27 := q_le hc27
            refine lv_iload hx hb dX2_valueOf_69 (lv_at hl 0 rfl) ?_
            refine lv_bipush (v := (-14)) hx hb dX2_valueOf_71 (by decide) ?_
            refine lv_icmp_ne (tgt := 105) hx hb dX2_valueOf_73 (by decide) (fun c28 => ?_) (fun c28 => ?_)
            · have hc28 := c28
              have q28 := q_ne hc28
              refine lv_iload hx hb dX2_valueOf_105 (lv_at hl 2 rfl) ?_
              refine lv_iconst (v := (2)) hx hb dX2_valueOf_107 (by decide) ?_
              refine lv_icmp_lt (tgt := 144) hx hb dX2_valueOf_108 (by decide) (fun c29 => ?_) (fun c29 => ?_)
              · have hc29 := c29
                have q29 := q_lt hc29
                obtain ⟨v30, ev30⟩ : ∃ z : Int32, z = x7_6 + Int32.ofInt (1) := ⟨_, rfl⟩
                have tv30 := a_inc ev30 (by decide) (by omega) (by omega)
                refine lv_iinc (v := v30) (lv' := [(7, .int (v30)), (8, .int (Ia6 (w + 1) (x7_6).toNatClampNeg)), (6, .int (x6_6)), (0, .ref (ad (20))), (1, .ref (ad (100))), (2, .ref (ad (w))), (3, .int (a0)), (4, .int (a1)), (5, .int (a2))]) hx hb dX2_valueOf_144 hl (k := 1) rfl ev30.symm (by decide) rfl (fun ls hl => ?_)
                refine lv_goto (tgt := 6) hx hb dX2_valueOf_147 (by decide) ?_
                exact ih6 (v30) (x6_6) Ia6 La6 _ _ ls hI hK (by first | omega | decide) (by first | omega | decide) (by omega) hM hS (lv_sub hl [0, 2, 3, 4, 5, 6, 7, 8] rfl)
              · have hc29 := c29
                have q29 := q_nlt hc29
                obtain ⟨v31, ev31⟩ : ∃ z : Int32, z = x6_6 + Int32.ofInt (-1) := ⟨_, rfl⟩
                have tv31 := a_inc ev31 (by decide) (by omega) (by omega)
                refine lv_iinc (v := v31) (lv' := [(6, .int (v31)), (8, .int (Ia6 (w + 1) (x7_6).toNatClampNeg)), (7, .int (x7_6)), (0, .ref (ad (20))), (1, .ref (ad (100))), (2, .ref (ad (w))), (3, .int (a0)), (4, .int (a1)), (5, .int (a2))]) hx hb dX2_valueOf_111 hl (k := 2) rfl ev31.symm (by decide) rfl (fun ls hl => ?_)
                refine lv_aload_n hx hb dX2_valueOf_114 rfl (lv_at hl 3 rfl) ?_
                refine m_getr (20) 2 (22) hx hb hts hown hE oc2 hM (hG.1 20 (by decide)) rfl (by decide) rfl (hG.2 (20, 2, 22) (by decide)) (by decide) tb_187 dX2_valueOf_115 ?_
                refine lv_iload hx hb dX2_valueOf_118 (lv_at hl 0 rfl) ?_
                refine lv_iconst (v := (1)) hx hb dX2_valueOf_120 (by decide) ?_
                refine lv_isub hx hb dX2_valueOf_121 ?_
                refine lv_topi (fun v32 ev32 => ?_)
                have tv32 := a_sub ev32 (by omega) (by omega)
                refine lv_iload hx hb dX2_valueOf_122 (lv_at hl 1 rfl) ?_
                refine lv_aload_n hx hb dX2_valueOf_124 rfl (lv_at hl 3 rfl) ?_
                refine m_getr (20) 2 (22) hx hb hts hown hE oc2 hM (hG.1 20 (by decide)) rfl (by decide) rfl (hG.2 (20, 2, 22) (by decide)) (by decide) tb_187 dX2_valueOf_125 ?_
                refine lv_iload hx hb dX2_valueOf_128 (lv_at hl 0 rfl) ?_
                refine lv_iconst (v := (1)) hx hb dX2_valueOf_130 (by decide) ?_
                refine lv_isub hx hb dX2_valueOf_131 ?_
                refine lv_topi (fun v33 ev33 => ?_)
                have tv33 := a_sub ev33 (by omega) (by omega)
                refine m_lald (22) hx hb hE hM (hG.1 22 (by decide)) rfl (vp_in_iff.mpr (by omega)) dX2_valueOf_132 ?_
                refine lv_aload_n hx hb dX2_valueOf_133 rfl (lv_at hl 3 rfl) ?_
                refine m_getr (20) 2 (22) hx hb hts hown hE oc2 hM (hG.1 20 (by decide)) rfl (by decide) rfl (hG.2 (20, 2, 22) (by decide)) (by decide) tb_187 dX2_valueOf_134 ?_
                refine lv_iload hx hb dX2_valueOf_137 (lv_at hl 0 rfl) ?_
                refine m_lald (22) hx hb hE hM (hG.1 22 (by decide)) rfl (vp_in_iff.mpr (by omega)) dX2_valueOf_139 ?_
                refine m_calll (m_runS (As := [.int (Ia6 (w + 1) (x7_6).toNatClampNeg), .long (La6 (22) (v33).toNatClampNeg), .long (La6 (22) (v31).toNatClampNeg)]) (rest := [.int (v32), .ref (ad (22))]) hx hb hml hown hts hE hM hS hA ce_X2_join tb_781 (V_X2_join l D A ad ns Ia6 La6 G (Ia6 (w + 1) (x7_6).toNatClampNeg) (La6 (22) (v33).toNatClampNeg) (La6 (22) (v31).toNatClampNeg) hI) rfl rfl ⟨Nat.le_of_ble_eq_true rfl, Nat.le_of_ble_eq_true rfl⟩  rfl hl.1 rfl (Nat.le_of_ble_eq_true rfl) dX2_valueOf_140 ⟨Nat.le_of_ble_eq_true rfl, Nat.le_of_ble_eq_true rfl⟩) hS (fun r34 u H locs hw hM hS => ?_)
                obtain ⟨rfl, xr34⟩ := hw
                have hM : Mem D A ad ns Ia6 La6 G H := hM
                refine m_last (22) hx hb hE hM hS (hG.1 22 (by decide)) rfl (vp_in_iff.mpr (by omega)) dX2_valueOf_143 (fun H locs L35 eL35 hM hS => ?_)
                obtain ⟨v36, ev36⟩ : ∃ z : Int32, z = x7_6 + Int32.ofInt (1) := ⟨_, rfl⟩
                have tv36 := a_inc ev36 (by decide) (by omega) (by omega)
                refine lv_iinc (v := v36) (lv' := [(7, .int (v36)), (6, .int (v31)), (8, .int (Ia6 (w + 1) (x7_6).toNatClampNeg)), (0, .ref (ad (20))), (1, .ref (ad (100))), (2, .ref (ad (w))), (3, .int (a0)), (4, .int (a1)), (5, .int (a2))]) hx hb dX2_valueOf_144 hl (k := 2) rfl ev36.symm (by decide) rfl (fun ls hl => ?_)
                refine lv_goto (tgt := 6) hx hb dX2_valueOf_147 (by decide) ?_
                exact ih6 (v36) (v31) Ia6 L35 _ _ ls hI hK (by first | omega | decide) (by first | omega | decide) (by omega) hM hS (lv_sub hl [0, 1, 3, 4, 5, 6, 7, 8] rfl)
            · have hc28 := c28
              have q28 := q_eq hc28
              refine lv_iload hx hb dX2_valueOf_76 (lv_at hl 2 rfl) ?_
              refine lv_iconst (v := (1)) hx hb dX2_valueOf_78 (by decide) ?_
              refine lv_icmp_lt (tgt := 105) hx hb dX2_valueOf_79 (by decide) (fun c37 => ?_) (fun c37 => ?_)
              · have hc37 := c37
                have q37 := q_lt hc37
                refine lv_iload hx hb dX2_valueOf_105 (lv_at hl 2 rfl) ?_
                refine lv_iconst (v := (2)) hx hb dX2_valueOf_107 (by decide) ?_
                refine lv_icmp_lt (tgt := 144) hx hb dX2_valueOf_108 (by decide) (fun c38 => ?_) (fun c38 => ?_)
                · have hc38 := c38
                  have q38 := q_lt hc38
                  obtain ⟨v39, ev39⟩ : ∃ z : Int32, z = x7_6 + Int32.ofInt (1) := ⟨_, rfl⟩
                  have tv39 := a_inc ev39 (by decide) (by omega) (by omega)
                  refine lv_iinc (v := v39) (lv' := [(7, .int (v39)), (8, .int (Ia6 (w + 1) (x7_6).toNatClampNeg)), (6, .int (x6_6)), (0, .ref (ad (20))), (1, .ref (ad (100))), (2, .ref (ad (w))), (3, .int (a0)), (4, .int (a1)), (5, .int (a2))]) hx hb dX2_valueOf_144 hl (k := 1) rfl ev39.symm (by decide) rfl (fun ls hl => ?_)
                  refine lv_goto (tgt := 6) hx hb dX2_valueOf_147 (by decide) ?_
                  exact ih6 (v39) (x6_6) Ia6 La6 _ _ ls hI hK (by first | omega | decide) (by first | omega | decide) (by omega) hM hS (lv_sub hl [0, 2, 3, 4, 5, 6, 7, 8] rfl)
                · have hc38 := c38
                  have q38 := q_nlt hc38
                  obtain ⟨v40, ev40⟩ : ∃ z : Int32, z = x6_6 + Int32.ofInt (-1) := ⟨_, rfl⟩
                  have tv40 := a_inc ev40 (by decide) (by omega) (by omega)
                  refine lv_iinc (v := v40) (lv' := [(6, .int (v40)), (8, .int (Ia6 (w + 1) (x7_6).toNatClampNeg)), (7, .int (x7_6)), (0, .ref (ad (20))), (1, .ref (ad (100))), (2, .ref (ad (w))), (3, .int (a0)), (4, .int (a1)), (5, .int (a2))]) hx hb dX2_valueOf_111 hl (k := 2) rfl ev40.symm (by decide) rfl (fun ls hl => ?_)
                  refine lv_aload_n hx hb dX2_valueOf_114 rfl (lv_at hl 3 rfl) ?_
                  refine m_getr (20) 2 (22) hx hb hts hown hE oc2 hM (hG.1 20 (by decide)) rfl (by decide) rfl (hG.2 (20, 2, 22) (by decide)) (by decide) tb_187 dX2_valueOf_115 ?_
                  refine lv_iload hx hb dX2_valueOf_118 (lv_at hl 0 rfl) ?_
                  refine lv_iconst (v := (1)) hx hb dX2_valueOf_120 (by decide) ?_
                  refine lv_isub hx hb dX2_valueOf_121 ?_
                  refine lv_topi (fun v41 ev41 => ?_)
                  have tv41 := a_sub ev41 (by omega) (by omega)
                  refine lv_iload hx hb dX2_valueOf_122 (lv_at hl 1 rfl) ?_
                  refine lv_aload_n hx hb dX2_valueOf_124 rfl (lv_at hl 3 rfl) ?_
                  refine m_getr (20) 2 (22) hx hb hts hown hE oc2 hM (hG.1 20 (by decide)) rfl (by decide) rfl (hG.2 (20, 2, 22) (by decide)) (by decide) tb_187 dX2_valueOf_125 ?_
                  refine lv_iload hx hb dX2_valueOf_128 (lv_at hl 0 rfl) ?_
                  refine lv_iconst (v := (1)) hx hb dX2_valueOf_130 (by decide) ?_
                  refine lv_isub hx hb dX2_valueOf_131 ?_
                  refine lv_topi (fun v42 ev42 => ?_)
                  have tv42 := a_sub ev42 (by omega) (by omega)
                  refine m_lald (22) hx hb hE hM (hG.1 22 (by decide)) rfl (vp_in_iff.mpr (by omega)) dX2_valueOf_132 ?_
                  refine lv_aload_n hx hb dX2_valueOf_133 rfl (lv_at hl 3 rfl) ?_
                  refine m_getr (20) 2 (22) hx hb hts hown hE oc2 hM (hG.1 20 (by decide)) rfl (by decide) rfl (hG.2 (20, 2, 22) (by decide)) (by decide) tb_187 dX2_valueOf_134 ?_
                  refine lv_iload hx hb dX2_valueOf_137 (lv_at hl 0 rfl) ?_
                  refine m_lald (22) hx hb hE hM (hG.1 22 (by decide)) rfl (vp_in_iff.mpr (by omega)) dX2_valueOf_139 ?_
                  refine m_calll (m_runS (As := [.int (Ia6 (w + 1) (x7_6).toNatClampNeg), .long (La6 (22) (v42).toNatClampNeg), .long (La6 (22) (v40).toNatClampNeg)]) (rest := [.int (v41), .ref (ad (22))]) hx hb hml hown hts hE hM hS hA ce_X2_join tb_781 (V_X2_join l D A ad ns Ia6 La6 G (Ia6 (w + 1) (x7_6).toNatClampNeg) (La6 (22) (v42).toNatClampNeg) (La6 (22) (v40).toNatClampNeg) hI) rfl rfl ⟨Nat.le_of_ble_eq_true rfl, Nat.le_of_ble_eq_true rfl⟩  rfl hl.1 rfl (Nat.le_of_ble_eq_true rfl) dX2_valueOf_140 ⟨Nat.le_of_ble_eq_true rfl, Nat.le_of_ble_eq_true rfl⟩) hS (fun r43 u H locs hw hM hS => ?_)
                  obtain ⟨rfl, xr43⟩ := hw
                  have hM : Mem D A ad ns Ia6 La6 G H := hM
                  refine m_last (22) hx hb hE hM hS (hG.1 22 (by decide)) rfl (vp_in_iff.mpr (by omega)) dX2_valueOf_143 (fun H locs L44 eL44 hM hS => ?_)
                  obtain ⟨v45, ev45⟩ : ∃ z : Int32, z = x7_6 + Int32.ofInt (1) := ⟨_, rfl⟩
                  have tv45 := a_inc ev45 (by decide) (by omega) (by omega)
                  refine lv_iinc (v := v45) (lv' := [(7, .int (v45)), (6, .int (v40)), (8, .int (Ia6 (w + 1) (x7_6).toNatClampNeg)), (0, .ref (ad (20))), (1, .ref (ad (100))), (2, .ref (ad (w))), (3, .int (a0)), (4, .int (a1)), (5, .int (a2))]) hx hb dX2_valueOf_144 hl (k := 2) rfl ev45.symm (by decide) rfl (fun ls hl => ?_)
                  refine lv_goto (tgt := 6) hx hb dX2_valueOf_147 (by decide) ?_
                  exact ih6 (v45) (v40) Ia6 L44 _ _ ls hI hK (by first | omega | decide) (by first | omega | decide) (by omega) hM hS (lv_sub hl [0, 1, 3, 4, 5, 6, 7, 8] rfl)
              · have hc37 := c37
                have q37 := q_nlt hc37
                refine lv_aload_n hx hb dX2_valueOf_82 rfl (lv_at hl 3 rfl) ?_
                refine m_getr (20) 2 (22) hx hb hts hown hE oc2 hM (hG.1 20 (by decide)) rfl (by decide) rfl (hG.2 (20, 2, 22) (by decide)) (by decide) tb_187 dX2_valueOf_83 ?_
                refine lv_iload hx hb dX2_valueOf_86 (lv_at hl 2 rfl) ?_
                refine lv_iconst (v := (1)) hx hb dX2_valueOf_88 (by decide) ?_
                refine lv_isub hx hb dX2_valueOf_89 ?_
                refine lv_topi (fun v46 ev46 => ?_)
                have tv46 := a_sub ev46 (by omega) (by omega)
                refine lv_lconst (v := 1) hx hb dX2_valueOf_90 (by decide) ?_
                refine lv_aload_n hx hb dX2_valueOf_91 rfl (lv_at hl 3 rfl) ?_
                refine m_getr (20) 2 (22) hx hb hts hown hE oc2 hM (hG.1 20 (by decide)) rfl (by decide) rfl (hG.2 (20, 2, 22) (by decide)) (by decide) tb_187 dX2_valueOf_92 ?_
                refine lv_iload hx hb dX2_valueOf_95 (lv_at hl 2 rfl) ?_
                refine lv_iconst (v := (1)) hx hb dX2_valueOf_97 (by decide) ?_
                refine lv_isub hx hb dX2_valueOf_98 ?_
                refine lv_topi (fun v47 ev47 => ?_)
                have tv47 := a_sub ev47 (by omega) (by omega)
                refine m_lald (22) hx hb hE hM (hG.1 22 (by decide)) rfl (vp_in_iff.mpr (by omega)) dX2_valueOf_99 ?_
                refine lv_lsub hx hb dX2_valueOf_100 ?_
                refine lv_topl (fun v48 ev48 => ?_)
                refine m_last (22) hx hb hE hM hS (hG.1 22 (by decide)) rfl (vp_in_iff.mpr (by omega)) dX2_valueOf_101 (fun H locs L49 eL49 hM hS => ?_)
                refine lv_goto (tgt := 144) hx hb dX2_valueOf_102 (by decide) ?_
                obtain ⟨v50, ev50⟩ : ∃ z : Int32, z = x7_6 + Int32.ofInt (1) := ⟨_, rfl⟩
                have tv50 := a_inc ev50 (by decide) (by omega) (by omega)
                refine lv_iinc (v := v50) (lv' := [(7, .int (v50)), (8, .int (Ia6 (w + 1) (x7_6).toNatClampNeg)), (6, .int (x6_6)), (0, .ref (ad (20))), (1, .ref (ad (100))), (2, .ref (ad (w))), (3, .int (a0)), (4, .int (a1)), (5, .int (a2))]) hx hb dX2_valueOf_144 hl (k := 1) rfl ev50.symm (by decide) rfl (fun ls hl => ?_)
                refine lv_goto (tgt := 6) hx hb dX2_valueOf_147 (by decide) ?_
                exact ih6 (v50) (x6_6) Ia6 L49 _ _ ls hI hK (by first | omega | decide) (by first | omega | decide) (by omega) hM hS (lv_sub hl [0, 2, 3, 4, 5, 6, 7, 8] rfl)
          · have hc27 := c27
            have q27 := q_nle hc27
            refine lv_aload_n hx hb dX2_valueOf_36 rfl (lv_at hl 3 rfl) ?_
            refine m_getr (20) 2 (22) hx hb hts hown hE oc2 hM (hG.1 20 (by decide)) rfl (by decide) rfl (hG.2 (20, 2, 22) (by decide)) (by decide) tb_187 dX2_valueOf_37 ?_
            refine lv_iload hx hb dX2_valueOf_40 (lv_at hl 2 rfl) ?_
            refine lv_iload hx hb dX2_valueOf_42 (lv_at hl 0 rfl) ?_
            refine lv_if_lt (tgt := 53) hx hb dX2_valueOf_44 (by decide) (fun c51 => ?_) (fun c51 => ?_)
            · have hc51 := c51
              have q51 := q_lt hc51
              refine lv_aload_n hx hb dX2_valueOf_53 rfl (lv_at hl 3 rfl) ?_
              refine lv_aload_n hx hb dX2_valueOf_54 rfl (lv_at hl 4 rfl) ?_
              refine lv_iload hx hb dX2_valueOf_55 (lv_at hl 0 rfl) ?_
              refine lv_iload hx hb dX2_valueOf_57 (lv_at hl 8 rfl) ?_
              refine m_calll (m_runV (20) (As := [.ref (ad (100)), .int (Ia6 (w + 1) (x7_6).toNatClampNeg), .int (a2)]) (rest := [.int (x6_6), .ref (ad (22))]) hx hb hml hown hts hE hM hS hA ce_X2_wordValue tb_762 (V_X2_wordValue_100 l D A ad ns Ia6 La6 G (Ia6 (w + 1) (x7_6).toNatClampNeg) (a2) hG hI (by first | omega | decide)) rfl rfl ⟨Nat.le_of_ble_eq_true rfl, Nat.le_of_ble_eq_true rfl⟩ (hG.1 20 (by decide)) rfl rfl (by decide) rfl hl.1 rfl (Nat.le_of_ble_eq_true rfl) dX2_valueOf_59 ⟨Nat.le_of_ble_eq_true rfl, Nat.le_of_ble_eq_true rfl⟩) hS (fun r52 u H locs hw hM hS => ?_)
              obtain ⟨rfl, xr52⟩ := hw
              have hM : Mem D A ad ns Ia6 La6 G H := hM
              refine m_last (22) hx hb hE hM hS (hG.1 22 (by decide)) rfl (vp_in_iff.mpr (by omega)) dX2_valueOf_62 (fun H locs L53 eL53 hM hS => ?_)
              obtain ⟨v54, ev54⟩ : ∃ z : Int32, z = x6_6 + Int32.ofInt (1) := ⟨_, rfl⟩
              have tv54 := a_inc ev54 (by decide) (by omega) (by omega)
              refine lv_iinc (v := v54) (lv' := [(6, .int (v54)), (8, .int (Ia6 (w + 1) (x7_6).toNatClampNeg)), (7, .int (x7_6)), (0, .ref (ad (20))), (1, .ref (ad (100))), (2, .ref (ad (w))), (3, .int (a0)), (4, .int (a1)), (5, .int (a2))]) hx hb dX2_valueOf_63 hl (k := 2) rfl ev54.symm (by decide) rfl (fun ls hl => ?_)
              refine lv_goto (tgt := 144) hx hb dX2_valueOf_66 (by decide) ?_
              obtain ⟨v55, ev55⟩ : ∃ z : Int32, z = x7_6 + Int32.ofInt (1) := ⟨_, rfl⟩
              have tv55 := a_inc ev55 (by decide) (by omega) (by omega)
              refine lv_iinc (v := v55) (lv' := [(7, .int (v55)), (6, .int (v54)), (8, .int (Ia6 (w + 1) (x7_6).toNatClampNeg)), (0, .ref (ad (20))), (1, .ref (ad (100))), (2, .ref (ad (w))), (3, .int (a0)), (4, .int (a1)), (5, .int (a2))]) hx hb dX2_valueOf_144 hl (k := 2) rfl ev55.symm (by decide) rfl (fun ls hl => ?_)
              refine lv_goto (tgt := 6) hx hb dX2_valueOf_147 (by decide) ?_
              exact ih6 (v55) (v54) Ia6 L53 _ _ ls hI hK (by first | omega | decide) (by first | omega | decide) (by omega) hM hS (lv_sub hl [0, 1, 3, 4, 5, 6, 7, 8] rfl)
            · have hc51 := c51
              have q51 := q_nlt hc51
              refine lv_iload hx hb dX2_valueOf_47 (lv_at hl 0 rfl) ?_
              refine lv_i2l hx hb dX2_valueOf_49 rfl ?_
              refine lv_topl (fun v56 ev56 => ?_)
              have tv56 := q_i2l ev56
              refine lv_goto (tgt := 62) hx hb dX2_valueOf_50 (by decide) ?_
              refine m_last (22) hx hb hE hM hS (hG.1 22 (by decide)) rfl (vp_in_iff.mpr (by omega)) dX2_valueOf_62 (fun H locs L57 eL57 hM hS => ?_)
              obtain ⟨v58, ev58⟩ : ∃ z : Int32, z = x6_6 + Int32.ofInt (1) := ⟨_, rfl⟩
              have tv58 := a_inc ev58 (by decide) (by omega) (by omega)
              refine lv_iinc (v := v58) (lv' := [(6, .int (v58)), (8, .int (Ia6 (w + 1) (x7_6).toNatClampNeg)), (7, .int (x7_6)), (0, .ref (ad (20))), (1, .ref (ad (100))), (2, .ref (ad (w))), (3, .int (a0)), (4, .int (a1)), (5, .int (a2))]) hx hb dX2_valueOf_63 hl (k := 2) rfl ev58.symm (by decide) rfl (fun ls hl => ?_)
              refine lv_goto (tgt := 144) hx hb dX2_valueOf_66 (by decide) ?_
              obtain ⟨v59, ev59⟩ : ∃ z : Int32, z = x7_6 + Int32.ofInt (1) := ⟨_, rfl⟩
              have tv59 := a_inc ev59 (by decide) (by omega) (by omega)
              refine lv_iinc (v := v59) (lv' := [(7, .int (v59)), (6, .int (v58)), (8, .int (Ia6 (w + 1) (x7_6).toNatClampNeg)), (0, .ref (ad (20))), (1, .ref (ad (100))), (2, .ref (ad (w))), (3, .int (a0)), (4, .int (a1)), (5, .int (a2))]) hx hb dX2_valueOf_144 hl (k := 2) rfl ev59.symm (by decide) rfl (fun ls hl => ?_)
              refine lv_goto (tgt := 6) hx hb dX2_valueOf_147 (by decide) ?_
              exact ih6 (v59) (v58) Ia6 L57 _ _ ls hI hK (by first | omega | decide) (by first | omega | decide) (by omega) hM hS (lv_sub hl [0, 1, 3, 4, 5, 6, 7, 8] rfl)
  exact loop6 (_ + 1) (a0) (0) I L _ _ ls hI hK (by first | omega | decide) (by first | omega | decide) (Nat.lt_succ_self _) hM hS (lv_sub hl [0, 1, 2, 3, 4, 5, 6, 7] rfl)
theorem dX2_holds_0 : decode cX2_holds 0 = .ok (.aload_n 2, 1) := by decide +kernel
theorem dX2_holds_1 : decode cX2_holds 1 = .ok (.getfield 81, 3) := by decide +kernel
theorem dX2_holds_4 : decode cX2_holds 4 = .ok (.iload_n 3, 1) := by decide +kernel
theorem dX2_holds_5 : decode cX2_holds 5 = .ok (.iaload, 1) := by decide +kernel
theorem dX2_holds_6 : decode cX2_holds 6 = .ok (.istore 4, 2) := by decide +kernel
theorem dX2_holds_8 : decode cX2_holds 8 = .ok (.aload_n 2, 1) := by decide +kernel
theorem dX2_holds_9 : decode cX2_holds 9 = .ok (.getfield 97, 3) := by decide +kernel
theorem dX2_holds_12 : decode cX2_holds 12 = .ok (.iload_n 3, 1) := by decide +kernel
theorem dX2_holds_13 : decode cX2_holds 13 = .ok (.iaload, 1) := by decide +kernel
theorem dX2_holds_14 : decode cX2_holds 14 = .ok (.istore 5, 2) := by decide +kernel
theorem dX2_holds_16 : decode cX2_holds 16 = .ok (.iload 4, 2) := by decide +kernel
theorem dX2_holds_18 : decode cX2_holds 18 = .ok (.iload 5, 2) := by decide +kernel
theorem dX2_holds_20 : decode cX2_holds 20 = .ok (.if_icmp .eq 24, 3) := by decide +kernel
theorem dX2_holds_23 : decode cX2_holds 23 = .ok (.aload_n 0, 1) := by decide +kernel
theorem dX2_holds_24 : decode cX2_holds 24 = .ok (.aload_n 1, 1) := by decide +kernel
theorem dX2_holds_25 : decode cX2_holds 25 = .ok (.aload_n 2, 1) := by decide +kernel
theorem dX2_holds_26 : decode cX2_holds 26 = .ok (.iload 4, 2) := by decide +kernel
theorem dX2_holds_28 : decode cX2_holds 28 = .ok (.iload 5, 2) := by decide +kernel
theorem dX2_holds_30 : decode cX2_holds 30 = .ok (.aload_n 2, 1) := by decide +kernel
theorem dX2_holds_31 : decode cX2_holds 31 = .ok (.getfield 68, 3) := by decide +kernel
theorem dX2_holds_34 : decode cX2_holds 34 = .ok (.iload_n 3, 1) := by decide +kernel
theorem dX2_holds_35 : decode cX2_holds 35 = .ok (.iaload, 1) := by decide +kernel
theorem dX2_holds_36 : decode cX2_holds 36 = .ok (.invokevirtual 84, 3) := by decide +kernel
theorem dX2_holds_39 : decode cX2_holds 39 = .ok (.lconst 0, 1) := by decide +kernel
theorem dX2_holds_40 : decode cX2_holds 40 = .ok (.lcmp, 1) := by decide +kernel
theorem dX2_holds_41 : decode cX2_holds 41 = .ok (.ifCond .eq 7, 3) := by decide +kernel
theorem dX2_holds_44 : decode cX2_holds 44 = .ok (.iconst 1, 1) := by decide +kernel
theorem dX2_holds_45 : decode cX2_holds 45 = .ok (.goto 4, 3) := by decide +kernel
theorem dX2_holds_48 : decode cX2_holds 48 = .ok (.iconst 0, 1) := by decide +kernel
theorem dX2_holds_49 : decode cX2_holds 49 = .ok (.ireturn, 1) := by decide +kernel
theorem ce_X2_holds : CeV RX2 yX2_holds cX2_holds 6 (some .boolean) 3 := ⟨tb_756, tp_24, tb_4, tb_757, rfl, by decide, by decide, by decide +kernel⟩
set_option maxHeartbeats 4000000 in
set_option maxRecDepth 20000 in
theorem V_X2_holds_100 (l : Launch) (D : va_G) (A : Nat → Prop) (ad : Nat → Nat) (ns : List Nat) (I : MI) (L : ML) (G : MG) (w : Nat) (a0 : Int32) (hG : SGC ns G) (hI : INV I) (hW : LOK ns G w) (hmm : 0 ≤ (I (w + 2) a0.toNatClampNeg).toInt ∧ (I (w + 2) a0.toNatClampNeg).toInt < 24) (ha0 : 0 ≤ a0.toInt ∧ a0.toInt ≤ 11) : Met l yX2_holds (wd yX2_holds cX2_holds 6 (some .boolean)) ({ frames := 4, cells := 0, slots := 0, locals := 94 }) (va_Pc [.ref (ad (20)), .ref (ad (100)), .ref (ad (w)), .int a0] (PM D A ad ns I L G)) (va_Qi (fun r u => ∃ I2 L2, u = (ad, ns, I2, L2, G) ∧ INV I2 ∧ Kp [] [] I I2 ∧ (0 ≤ r.toInt ∧ r.toInt ≤ 1)) (BM D A) A) 0 0 A := by
  refine m_ofW (by decide) (Nat.le_of_ble_eq_true rfl) ?_
  intro p e s m below meth c ls args hC hE hM hA hS hl
  obtain ⟨hx, hb, hml, hown, hts, hr, hlocks, hin⟩ := hC
  have k0 : (0 : Int32).toInt = 0 := by decide
  have k1 : (1 : Int32).toInt = 1 := by decide
  have kl0 : (0 : Int64).toInt = 0 := by decide
  have hK : Kp [] [] I I := Kp.rf
  have hl : lv_has ls 6 [(0, .ref (ad (20))), (1, .ref (ad (100))), (2, .ref (ad (w))), (3, .int (a0))] := hl
  refine lv_aload_n hx hb dX2_holds_0 rfl (lv_at hl 2 rfl) ?_
  refine m_getr (w) 3 (w + 4) hx hb hts hown hE oc3 hM hW.l (kW _ hW.1).1 (by decide) rfl (hW.2.2 3 (by decide)) (by have := lbw hW.1; omega) tb_376 dX2_holds_1 ?_
  refine lv_iload_n hx hb dX2_holds_4 rfl (lv_at hl 3 rfl) ?_
  refine m_iald (w + 4) hx hb hE hM (hW.2.1 4 (by decide)) (kW _ hW.1).2.2.2.2.1 (vp_in_iff.mpr (by omega)) dX2_holds_5 ?_
  have g1 := hI.get (w + 4) ((a0).toNatClampNeg) (lo := 0) (hi := 400) (rgw4 hW.1 _)
  refine lv_istore (lv' := [(4, .int (I (w + 4) (a0).toNatClampNeg)), (0, .ref (ad (20))), (1, .ref (ad (100))), (2, .ref (ad (w))), (3, .int (a0))]) hx hb dX2_holds_6 hl (by decide) rfl (fun ls hl => ?_)
  refine lv_aload_n hx hb dX2_holds_8 rfl (lv_at hl 3 rfl) ?_
  refine m_getr (w) 4 (w + 5) hx hb hts hown hE oc3 hM hW.l (kW _ hW.1).1 (by decide) rfl (hW.2.2 4 (by decide)) (by have := lbw hW.1; omega) tb_378 dX2_holds_9 ?_
  refine lv_iload_n hx hb dX2_holds_12 rfl (lv_at hl 4 rfl) ?_
  refine m_iald (w + 5) hx hb hE hM (hW.2.1 5 (by decide)) (kW _ hW.1).2.2.2.2.2.1 (vp_in_iff.mpr (by omega)) dX2_holds_13 ?_
  have g2 := hI.get (w + 5) ((a0).toNatClampNeg) (lo := 0) (hi := 400) (rgw5 hW.1 _)
  refine lv_istore (lv' := [(5, .int (I (w + 5) (a0).toNatClampNeg)), (4, .int (I (w + 4) (a0).toNatClampNeg)), (0, .ref (ad (20))), (1, .ref (ad (100))), (2, .ref (ad (w))), (3, .int (a0))]) hx hb dX2_holds_14 hl (by decide) rfl (fun ls hl => ?_)
  refine lv_iload hx hb dX2_holds_16 (lv_at hl 1 rfl) ?_
  refine lv_iload hx hb dX2_holds_18 (lv_at hl 0 rfl) ?_
  refine lv_icmp_eq (tgt := 44) hx hb dX2_holds_20 (by decide) (fun c3 => ?_) (fun c3 => ?_)
  · have hc3 := c3
    have q3 := q_eq hc3
    refine lv_iconst (v := (1)) hx hb dX2_holds_44 (by decide) ?_
    refine lv_goto (tgt := 49) hx hb dX2_holds_45 (by decide) ?_
    exact m_zret hx hb hr rfl hlocks hM hS (Nat.le_of_ble_eq_true rfl) (Nat.le_of_ble_eq_true rfl) ⟨_, _, rfl, hI, hK, (by first | omega | decide)⟩ dX2_holds_49
  · have hc3 := c3
    have q3 := q_ne hc3
    refine lv_aload_n hx hb dX2_holds_23 rfl (lv_at hl 2 rfl) ?_
    refine lv_aload_n hx hb dX2_holds_24 rfl (lv_at hl 3 rfl) ?_
    refine lv_aload_n hx hb dX2_holds_25 rfl (lv_at hl 4 rfl) ?_
    refine lv_iload hx hb dX2_holds_26 (lv_at hl 1 rfl) ?_
    refine lv_iload hx hb dX2_holds_28 (lv_at hl 0 rfl) ?_
    refine lv_aload_n hx hb dX2_holds_30 rfl (lv_at hl 4 rfl) ?_
    refine m_getr (w) 1 (w + 2) hx hb hts hown hE oc3 hM hW.l (kW _ hW.1).1 (by decide) rfl (hW.2.2 1 (by decide)) (by have := lbw hW.1; omega) tb_372 dX2_holds_31 ?_
    refine lv_iload_n hx hb dX2_holds_34 rfl (lv_at hl 5 rfl) ?_
    refine m_iald (w + 2) hx hb hE hM (hW.2.1 2 (by decide)) (kW _ hW.1).2.2.1 (vp_in_iff.mpr (by omega)) dX2_holds_35 ?_
    refine m_calll (m_runV (20) (As := [.ref (ad (100)), .ref (ad (w)), .int (I (w + 4) (a0).toNatClampNeg), .int (I (w + 5) (a0).toNatClampNeg), .int (I (w + 2) (a0).toNatClampNeg)]) (rest := []) hx hb hml hown hts hE hM hS hA ce_X2_valueOf tb_758 (V_X2_valueOf_100 l D A ad ns I L G (w) (I (w + 4) (a0).toNatClampNeg) (I (w + 5) (a0).toNatClampNeg) (I (w + 2) (a0).toNatClampNeg) hG hI hW (by first | omega | decide) (by first | omega | decide) (by first | omega | decide)) rfl rfl ⟨Nat.le_of_ble_eq_true rfl, Nat.le_of_ble_eq_true rfl⟩ (hG.1 20 (by decide)) rfl rfl (by decide) rfl hl.1 rfl (Nat.le_of_ble_eq_true rfl) dX2_holds_36 ⟨Nat.le_of_ble_eq_true rfl, Nat.le_of_ble_eq_true rfl⟩) hS (fun r4 u H locs hw hM hS => ?_)
    obtain ⟨I5, L6, rfl, hI, hkI5⟩ := hw
    have hM : Mem D A ad ns I5 L6 G H := hM
    have hK := hK.trans hkI5 rfl
    refine lv_lconst (v := 0) hx hb dX2_holds_39 (by decide) ?_
    refine W.lcmp hx hb dX2_holds_40 ?_
    refine lv_if_eq (tgt := 48) hx hb dX2_holds_41 (by decide) (fun c7 => ?_) (fun c7 => ?_)
    · have hc7 := c7
      have q7 := l_eq hc7
      refine lv_iconst (v := (0)) hx hb dX2_holds_48 (by decide) ?_
      exact m_zret hx hb hr rfl hlocks hM hS (Nat.le_of_ble_eq_true rfl) (Nat.le_of_ble_eq_true rfl) ⟨_, _, rfl, hI, hK, (by first | omega | decide)⟩ dX2_holds_49
    · have hc7 := c7
      have q7 := l_ne hc7
      refine lv_iconst (v := (1)) hx hb dX2_holds_44 (by decide) ?_
      refine lv_goto (tgt := 49) hx hb dX2_holds_45 (by decide) ?_
      exact m_zret hx hb hr rfl hlocks hM hS (Nat.le_of_ble_eq_true rfl) (Nat.le_of_ble_eq_true rfl) ⟨_, _, rfl, hI, hK, (by first | omega | decide)⟩ dX2_holds_49
theorem dX2_turnMirrors_0 : decode cX2_turnMirrors 0 = .ok (.iconst 0, 1) := by decide +kernel
theorem dX2_turnMirrors_1 : decode cX2_turnMirrors 1 = .ok (.istore_n 3, 1) := by decide +kernel
theorem dX2_turnMirrors_2 : decode cX2_turnMirrors 2 = .ok (.iconst 0, 1) := by decide +kernel
theorem dX2_turnMirrors_3 : decode cX2_turnMirrors 3 = .ok (.istore 4, 2) := by decide +kernel
theorem dX2_turnMirrors_5 : decode cX2_turnMirrors 5 = .ok (.iload 4, 2) := by decide +kernel
theorem dX2_turnMirrors_7 : decode cX2_turnMirrors 7 = .ok (.aload_n 2, 1) := by decide +kernel
theorem dX2_turnMirrors_8 : decode cX2_turnMirrors 8 = .ok (.getfield 63, 3) := by decide +kernel
theorem dX2_turnMirrors_11 : decode cX2_turnMirrors 11 = .ok (.if_icmp .ge 91, 3) := by decide +kernel
theorem dX2_turnMirrors_14 : decode cX2_turnMirrors 14 = .ok (.aload_n 2, 1) := by decide +kernel
theorem dX2_turnMirrors_15 : decode cX2_turnMirrors 15 = .ok (.getfield 68, 3) := by decide +kernel
theorem dX2_turnMirrors_18 : decode cX2_turnMirrors 18 = .ok (.iload 4, 2) := by decide +kernel
theorem dX2_turnMirrors_20 : decode cX2_turnMirrors 20 = .ok (.iaload, 1) := by decide +kernel
theorem dX2_turnMirrors_21 : decode cX2_turnMirrors 21 = .ok (.istore 5, 2) := by decide +kernel
theorem dX2_turnMirrors_23 : decode cX2_turnMirrors 23 = .ok (.aload_n 1, 1) := by decide +kernel
theorem dX2_turnMirrors_24 : decode cX2_turnMirrors 24 = .ok (.iload 5, 2) := by decide +kernel
theorem dX2_turnMirrors_26 : decode cX2_turnMirrors 26 = .ok (.invokevirtual 71, 3) := by decide +kernel
theorem dX2_turnMirrors_29 : decode cX2_turnMirrors 29 = .ok (.ifCond .eq 67, 3) := by decide +kernel
theorem dX2_turnMirrors_32 : decode cX2_turnMirrors 32 = .ok (.iload_n 3, 1) := by decide +kernel
theorem dX2_turnMirrors_33 : decode cX2_turnMirrors 33 = .ok (.iload 5, 2) := by decide +kernel
theorem dX2_turnMirrors_35 : decode cX2_turnMirrors 35 = .ok (.ishr, 1) := by decide +kernel
theorem dX2_turnMirrors_36 : decode cX2_turnMirrors 36 = .ok (.iconst 1, 1) := by decide +kernel
theorem dX2_turnMirrors_37 : decode cX2_turnMirrors 37 = .ok (.iand, 1) := by decide +kernel
theorem dX2_turnMirrors_38 : decode cX2_turnMirrors 38 = .ok (.ifCond .ne 58, 3) := by decide +kernel
theorem dX2_turnMirrors_41 : decode cX2_turnMirrors 41 = .ok (.aload_n 0, 1) := by decide +kernel
theorem dX2_turnMirrors_42 : decode cX2_turnMirrors 42 = .ok (.aload_n 1, 1) := by decide +kernel
theorem dX2_turnMirrors_43 : decode cX2_turnMirrors 43 = .ok (.aload_n 2, 1) := by decide +kernel
theorem dX2_turnMirrors_44 : decode cX2_turnMirrors 44 = .ok (.iload 4, 2) := by decide +kernel
theorem dX2_turnMirrors_46 : decode cX2_turnMirrors 46 = .ok (.invokevirtual 74, 3) := by decide +kernel
theorem dX2_turnMirrors_49 : decode cX2_turnMirrors 49 = .ok (.ifCond .eq 47, 3) := by decide +kernel
theorem dX2_turnMirrors_52 : decode cX2_turnMirrors 52 = .ok (.aload_n 0, 1) := by decide +kernel
theorem dX2_turnMirrors_53 : decode cX2_turnMirrors 53 = .ok (.aload_n 1, 1) := by decide +kernel
theorem dX2_turnMirrors_54 : decode cX2_turnMirrors 54 = .ok (.aload_n 2, 1) := by decide +kernel
theorem dX2_turnMirrors_55 : decode cX2_turnMirrors 55 = .ok (.aload_n 2, 1) := by decide +kernel
theorem dX2_turnMirrors_56 : decode cX2_turnMirrors 56 = .ok (.getfield 78, 3) := by decide +kernel
theorem dX2_turnMirrors_59 : decode cX2_turnMirrors 59 = .ok (.iload 4, 2) := by decide +kernel
theorem dX2_turnMirrors_61 : decode cX2_turnMirrors 61 = .ok (.iaload, 1) := by decide +kernel
theorem dX2_turnMirrors_62 : decode cX2_turnMirrors 62 = .ok (.aload_n 2, 1) := by decide +kernel
theorem dX2_turnMirrors_63 : decode cX2_turnMirrors 63 = .ok (.getfield 81, 3) := by decide +kernel
theorem dX2_turnMirrors_66 : decode cX2_turnMirrors 66 = .ok (.iload 4, 2) := by decide +kernel
theorem dX2_turnMirrors_68 : decode cX2_turnMirrors 68 = .ok (.iaload, 1) := by decide +kernel
theorem dX2_turnMirrors_69 : decode cX2_turnMirrors 69 = .ok (.iload 5, 2) := by decide +kernel
theorem dX2_turnMirrors_71 : decode cX2_turnMirrors 71 = .ok (.invokevirtual 84, 3) := by decide +kernel
theorem dX2_turnMirrors_74 : decode cX2_turnMirrors 74 = .ok (.lstore 6, 2) := by decide +kernel
theorem dX2_turnMirrors_76 : decode cX2_turnMirrors 76 = .ok (.aload_n 1, 1) := by decide +kernel
theorem dX2_turnMirrors_77 : decode cX2_turnMirrors 77 = .ok (.iload 5, 2) := by decide +kernel
theorem dX2_turnMirrors_79 : decode cX2_turnMirrors 79 = .ok (.lload 6, 2) := by decide +kernel
theorem dX2_turnMirrors_81 : decode cX2_turnMirrors 81 = .ok (.ldc2_w 88, 3) := by decide +kernel
theorem dX2_turnMirrors_84 : decode cX2_turnMirrors 84 = .ok (.land, 1) := by decide +kernel
theorem dX2_turnMirrors_85 : decode cX2_turnMirrors 85 = .ok (.l2i, 1) := by decide +kernel
theorem dX2_turnMirrors_86 : decode cX2_turnMirrors 86 = .ok (.invokevirtual 90, 3) := by decide +kernel
theorem dX2_turnMirrors_89 : decode cX2_turnMirrors 89 = .ok (.iload_n 3, 1) := by decide +kernel
theorem dX2_turnMirrors_90 : decode cX2_turnMirrors 90 = .ok (.iconst 1, 1) := by decide +kernel
theorem dX2_turnMirrors_91 : decode cX2_turnMirrors 91 = .ok (.iload 5, 2) := by decide +kernel
theorem dX2_turnMirrors_93 : decode cX2_turnMirrors 93 = .ok (.ishl, 1) := by decide +kernel
theorem dX2_turnMirrors_94 : decode cX2_turnMirrors 94 = .ok (.ior, 1) := by decide +kernel
theorem dX2_turnMirrors_95 : decode cX2_turnMirrors 95 = .ok (.istore_n 3, 1) := by decide +kernel
theorem dX2_turnMirrors_96 : decode cX2_turnMirrors 96 = .ok (.iinc 4 1, 3) := by decide +kernel
theorem dX2_turnMirrors_99 : decode cX2_turnMirrors 99 = .ok (.goto (-94), 3) := by decide +kernel
theorem dX2_turnMirrors_102 : decode cX2_turnMirrors 102 = .ok (.return_, 1) := by decide +kernel
theorem ce_X2_turnMirrors : CeV RX2 yX2_turnMirrors cX2_turnMirrors 8 none 2 := ⟨tb_751, tp_23, tb_4, tb_752, rfl, by decide, by decide, by decide +kernel⟩
set_option maxHeartbeats 4000000 in
set_option maxRecDepth 20000 in
theorem V_X2_turnMirrors_100 (l : Launch) (D : va_G) (A : Nat → Prop) (ad : Nat → Nat) (ns : List Nat) (I : MI) (L : ML) (G : MG) (w : Nat) (hG : SGC ns G) (hI : INV I) (hW : LOK ns G w) : Met l yX2_turnMirrors (wd yX2_turnMirrors cX2_turnMirrors 8 none) ({ frames := 5, cells := 0, slots := 0, locals := 119 }) (va_Pc [.ref (ad (20)), .ref (ad (100)), .ref (ad (w))] (PM D A ad ns I L G)) (va_Qv (fun u => ∃ I2 L2, u = (ad, ns, I2, L2, G) ∧ INV I2 ∧ Kp [(107, 108)] [] I I2) (BM D A) A) 0 0 A := by
  refine m_ofW (by decide) (Nat.le_of_ble_eq_true rfl) ?_
  intro p e s m below meth c ls args hC hE hM hA hS hl
  obtain ⟨hx, hb, hml, hown, hts, hr, hlocks, hin⟩ := hC
  have k0 : (0 : Int32).toInt = 0 := by decide
  have k1 : (1 : Int32).toInt = 1 := by decide
  have kl7 : (7 : Int64).toInt = 7 := by decide
  have hK : Kp [(107, 108)] [] I I := Kp.rf
  have hl : lv_has ls 8 [(0, .ref (ad (20))), (1, .ref (ad (100))), (2, .ref (ad (w)))] := hl
  refine lv_iconst (v := (0)) hx hb dX2_turnMirrors_0 (by decide) ?_
  refine lv_istore_n (lv' := [(3, .int (0)), (0, .ref (ad (20))), (1, .ref (ad (100))), (2, .ref (ad (w)))]) hx hb dX2_turnMirrors_1 rfl hl (by decide) rfl (fun ls hl => ?_)
  refine lv_iconst (v := (0)) hx hb dX2_turnMirrors_2 (by decide) ?_
  refine lv_istore (lv' := [(4, .int (0)), (3, .int (0)), (0, .ref (ad (20))), (1, .ref (ad (100))), (2, .ref (ad (w)))]) hx hb dX2_turnMirrors_3 hl (by decide) rfl (fun ls hl => ?_)
  have loop5 : ∀ (n : Nat) (x4_5 : Int32) (x3_5 : Int32) (Ia5 : MI) (La5 : ML) (H : Heap) (locs : List Loc) (ls : Array Slot), INV Ia5 → Kp [(107, 108)] [] I Ia5 → (0 ≤ x4_5.toInt ∧ x4_5.toInt ≤ 12) → (12 - x4_5.toInt).toNat < n → Mem D A ad ns Ia5 La5 G H → va_S A s.heap H locs → lv_has ls 8 [(4, .int (x4_5)), (3, .int (x3_5)), (0, .ref (ad (20))), (1, .ref (ad (100))), (2, .ref (ad (w)))] → W p l e ({ frames := 5, cells := 0, slots := 0, locals := 119 } : Room) s m args below meth c H locs 0 0 (MQ below (va_Qv (fun u => ∃ I2 L2, u = (ad, ns, I2, L2, G) ∧ INV I2 ∧ Kp [(107, 108)] [] I I2) (BM D A) A) args s 0 0 A) (F0 m 5 ls []) := by
    intro n
    induction n with
    | zero =>
      intro x4_5 x3_5 Ia5 La5 H locs ls hI hK hr4_5 hmu
      exact absurd hmu (Nat.not_lt_zero _)
    | succ n ih5 =>
      intro x4_5 x3_5 Ia5 La5 H locs ls hI hK hr4_5 hmu5 hM hS hl
      refine lv_iload hx hb dX2_turnMirrors_5 (lv_at hl 0 rfl) ?_
      refine lv_aload_n hx hb dX2_turnMirrors_7 rfl (lv_at hl 4 rfl) ?_
      refine m_geti (w) 5 hx hb hts hown hE oc3 hM hW.l (kW _ hW.1).1 (by decide) rfl tb_380 dX2_turnMirrors_8 ?_
      have g1 := hI.get (w) 5 (lo := 0) (hi := 12) (rgw0 hW.1).1
      refine lv_icmp_ge (tgt := 102) hx hb dX2_turnMirrors_11 (by decide) (fun c2 => ?_) (fun c2 => ?_)
      · have hc2 := c2
        have q2 := q_le hc2
        exact m_vret hx hb hr hlocks hM hS (Nat.le_of_ble_eq_true rfl) (Nat.le_of_ble_eq_true rfl) ⟨_, _, rfl, hI, hK⟩ dX2_turnMirrors_102
      · have hc2 := c2
        have q2 := q_nle hc2
        refine lv_aload_n hx hb dX2_turnMirrors_14 rfl (lv_at hl 4 rfl) ?_
        refine m_getr (w) 1 (w + 2) hx hb hts hown hE oc3 hM hW.l (kW _ hW.1).1 (by decide) rfl (hW.2.2 1 (by decide)) (by have := lbw hW.1; omega) tb_372 dX2_turnMirrors_15 ?_
        refine lv_iload hx hb dX2_turnMirrors_18 (lv_at hl 0 rfl) ?_
        refine m_iald (w + 2) hx hb hE hM (hW.2.1 2 (by decide)) (kW _ hW.1).2.2.1 (vp_in_iff.mpr (by omega)) dX2_turnMirrors_20 ?_
        refine lv_istore (lv' := [(5, .int (Ia5 (w + 2) (x4_5).toNatClampNeg)), (4, .int (x4_5)), (3, .int (x3_5)), (0, .ref (ad (20))), (1, .ref (ad (100))), (2, .ref (ad (w)))]) hx hb dX2_turnMirrors_21 hl (by decide) rfl (fun ls hl => ?_)
        refine lv_aload_n hx hb dX2_turnMirrors_23 rfl (lv_at hl 4 rfl) ?_
        refine lv_iload hx hb dX2_turnMirrors_24 (lv_at hl 0 rfl) ?_
        refine m_calli (m_runV (100) (As := [.int (Ia5 (w + 2) (x4_5).toNatClampNeg)]) (rest := []) hx hb hml hown hts hE hM hS hA ce_X8_hasMirror tb_753 (V_X8_hasMirror_100 l D A ad ns Ia5 La5 G (Ia5 (w + 2) (x4_5).toNatClampNeg) hG hI) rfl rfl ⟨Nat.le_of_ble_eq_true rfl, Nat.le_of_ble_eq_true rfl⟩ (hG.1 100 (by decide)) rfl rfl (by decide) rfl hl.1 rfl (Nat.le_of_ble_eq_true rfl) dX2_turnMirrors_26 ⟨Nat.le_of_ble_eq_true rfl, Nat.le_of_ble_eq_true rfl⟩) hS (fun r3 u H locs hw hM hS => ?_)
        obtain ⟨rfl, xr3⟩ := hw
        have hM : Mem D A ad ns Ia5 La5 G H := hM
        have yr3 := bo01 xr3
        have g4 := hI.get 100 8 (lo := 0) (hi := 24) rfl
        refine lv_if_eq (tgt := 96) hx hb dX2_turnMirrors_29 (by decide) (fun c5 => ?_) (fun c5 => ?_)
        · have hc5 := c5
          have q5 := xr3.f hc5
          obtain ⟨v6, ev6⟩ : ∃ z : Int32, z = x4_5 + Int32.ofInt (1) := ⟨_, rfl⟩
          have tv6 := a_inc ev6 (by decide) (by omega) (by omega)
          refine lv_iinc (v := v6) (lv' := [(4, .int (v6)), (5, .int (Ia5 (w + 2) (x4_5).toNatClampNeg)), (3, .int (x3_5)), (0, .ref (ad (20))), (1, .ref (ad (100))), (2, .ref (ad (w)))]) hx hb dX2_turnMirrors_96 hl (k := 1) rfl ev6.symm (by decide) rfl (fun ls hl => ?_)
          refine lv_goto (tgt := 5) hx hb dX2_turnMirrors_99 (by decide) ?_
          exact ih5 (v6) (x3_5) Ia5 La5 _ _ ls hI hK (by first | omega | decide) (by omega) hM hS (lv_sub hl [0, 2, 3, 4, 5] rfl)
        · have hc5 := c5
          have q5 := xr3.t hc5
          refine lv_iload_n hx hb dX2_turnMirrors_32 rfl (lv_at hl 2 rfl) ?_
          refine lv_iload hx hb dX2_turnMirrors_33 (lv_at hl 0 rfl) ?_
          refine lv_ishr hx hb dX2_turnMirrors_35 ?_
          refine lv_topi (fun v7 ev7 => ?_)
          refine lv_iconst (v := (1)) hx hb dX2_turnMirrors_36 (by decide) ?_
          refine lv_iand hx hb dX2_turnMirrors_37 ?_
          refine lv_topi (fun v8 ev8 => ?_)
          have tv8 := a_and (c := 1) ev8 (by decide) (by decide)
          refine lv_if_ne (tgt := 96) hx hb dX2_turnMirrors_38 (by decide) (fun c9 => ?_) (fun c9 => ?_)
          · have hc9 := c9
            have q9 := q_ne hc9
            obtain ⟨v10, ev10⟩ : ∃ z : Int32, z = x4_5 + Int32.ofInt (1) := ⟨_, rfl⟩
            have tv10 := a_inc ev10 (by decide) (by omega) (by omega)
            refine lv_iinc (v := v10) (lv' := [(4, .int (v10)), (5, .int (Ia5 (w + 2) (x4_5).toNatClampNeg)), (3, .int (x3_5)), (0, .ref (ad (20))), (1, .ref (ad (100))), (2, .ref (ad (w)))]) hx hb dX2_turnMirrors_96 hl (k := 1) rfl ev10.symm (by decide) rfl (fun ls hl => ?_)
            refine lv_goto (tgt := 5) hx hb dX2_turnMirrors_99 (by decide) ?_
            exact ih5 (v10) (x3_5) Ia5 La5 _ _ ls hI hK (by first | omega | decide) (by omega) hM hS (lv_sub hl [0, 2, 3, 4, 5] rfl)
          · have hc9 := c9
            have q9 := q_eq hc9
            refine lv_aload_n hx hb dX2_turnMirrors_41 rfl (lv_at hl 3 rfl) ?_
            refine lv_aload_n hx hb dX2_turnMirrors_42 rfl (lv_at hl 4 rfl) ?_
            refine lv_aload_n hx hb dX2_turnMirrors_43 rfl (lv_at hl 5 rfl) ?_
            refine lv_iload hx hb dX2_turnMirrors_44 (lv_at hl 1 rfl) ?_
            refine m_calli (m_runV (20) (As := [.ref (ad (100)), .ref (ad (w)), .int (x4_5)]) (rest := []) hx hb hml hown hts hE hM hS hA ce_X2_holds tb_754 (V_X2_holds_100 l D A ad ns Ia5 La5 G (w) (x4_5) hG hI hW (by first | omega | decide) (by first | omega | decide)) rfl rfl ⟨Nat.le_of_ble_eq_true rfl, Nat.le_of_ble_eq_true rfl⟩ (hG.1 20 (by decide)) rfl rfl (by decide) rfl hl.1 rfl (Nat.le_of_ble_eq_true rfl) dX2_turnMirrors_46 ⟨Nat.le_of_ble_eq_true rfl, Nat.le_of_ble_eq_true rfl⟩) hS (fun r11 u H locs hw hM hS => ?_)
            obtain ⟨I12, L13, rfl, hI, hkI12, xr11⟩ := hw
            have hM : Mem D A ad ns I12 L13 G H := hM
            have hK := hK.trans hkI12 rfl
            refine lv_if_eq (tgt := 96) hx hb dX2_turnMirrors_49 (by decide) (fun c14 => ?_) (fun c14 => ?_)
            · have hc14 := c14
              have q14 := q_eq hc14
              obtain ⟨v15, ev15⟩ : ∃ z : Int32, z = x4_5 + Int32.ofInt (1) := ⟨_, rfl⟩
              have tv15 := a_inc ev15 (by decide) (by omega) (by omega)
              refine lv_iinc (v := v15) (lv' := [(4, .int (v15)), (5, .int (Ia5 (w + 2) (x4_5).toNatClampNeg)), (3, .int (x3_5)), (0, .ref (ad (20))), (1, .ref (ad (100))), (2, .ref (ad (w)))]) hx hb dX2_turnMirrors_96 hl (k := 1) rfl ev15.symm (by decide) rfl (fun ls hl => ?_)
              refine lv_goto (tgt := 5) hx hb dX2_turnMirrors_99 (by decide) ?_
              exact ih5 (v15) (x3_5) I12 L13 _ _ ls hI hK (by first | omega | decide) (by omega) hM hS (lv_sub hl [0, 2, 3, 4, 5] rfl)
            · have hc14 := c14
              have q14 := q_ne hc14
              refine lv_aload_n hx hb dX2_turnMirrors_52 rfl (lv_at hl 3 rfl) ?_
              refine lv_aload_n hx hb dX2_turnMirrors_53 rfl (lv_at hl 4 rfl) ?_
              refine lv_aload_n hx hb dX2_turnMirrors_54 rfl (lv_at hl 5 rfl) ?_
              refine lv_aload_n hx hb dX2_turnMirrors_55 rfl (lv_at hl 5 rfl) ?_
              refine m_getr (w) 2 (w + 3) hx hb hts hown hE oc3 hM hW.l (kW _ hW.1).1 (by decide) rfl (hW.2.2 2 (by decide)) (by have := lbw hW.1; omega) tb_374 dX2_turnMirrors_56 ?_
              refine lv_iload hx hb dX2_turnMirrors_59 (lv_at hl 1 rfl) ?_
              refine m_iald (w + 3) hx hb hE hM (hW.2.1 3 (by decide)) (kW _ hW.1).2.2.2.1 (vp_in_iff.mpr (by omega)) dX2_turnMirrors_61 ?_
              have g16 := hI.get (w + 3) ((x4_5).toNatClampNeg) (lo := 0) (hi := 400) (rgw3 hW.1 _)
              have z17 : I12 (w + 3) (x4_5).toNatClampNeg = Ia5 (w + 3) ((x4_5).toNatClampNeg) := (hkI12.getW (w + 3) ((x4_5).toNatClampNeg) (by decide) (by decide) (by have := lbw hW.1; omega))
              rw [z17] at g16 ⊢
              refine lv_aload_n hx hb dX2_turnMirrors_62 rfl (lv_at hl 5 rfl) ?_
              refine m_getr (w) 3 (w + 4) hx hb hts hown hE oc3 hM hW.l (kW _ hW.1).1 (by decide) rfl (hW.2.2 3 (by decide)) (by have := lbw hW.1; omega) tb_376 dX2_turnMirrors_63 ?_
              refine lv_iload hx hb dX2_turnMirrors_66 (lv_at hl 1 rfl) ?_
              refine m_iald (w + 4) hx hb hE hM (hW.2.1 4 (by decide)) (kW _ hW.1).2.2.2.2.1 (vp_in_iff.mpr (by omega)) dX2_turnMirrors_68 ?_
              have g18 := hI.get (w + 4) ((x4_5).toNatClampNeg) (lo := 0) (hi := 400) (rgw4 hW.1 _)
              have z19 : I12 (w + 4) (x4_5).toNatClampNeg = Ia5 (w + 4) ((x4_5).toNatClampNeg) := (hkI12.getW (w + 4) ((x4_5).toNatClampNeg) (by decide) (by decide) (by have := lbw hW.1; omega))
              rw [z19] at g18 ⊢
              refine lv_iload hx hb dX2_turnMirrors_69 (lv_at hl 0 rfl) ?_
              refine m_calll (m_runV (20) (As := [.ref (ad (100)), .ref (ad (w)), .int (Ia5 (w + 3) ((x4_5).toNatClampNeg)), .int (Ia5 (w + 4) ((x4_5).toNatClampNeg)), .int (Ia5 (w + 2) (x4_5).toNatClampNeg)]) (rest := []) hx hb hml hown hts hE hM hS hA ce_X2_valueOf tb_758 (V_X2_valueOf_100 l D A ad ns I12 L13 G (w) (Ia5 (w + 3) ((x4_5).toNatClampNeg)) (Ia5 (w + 4) ((x4_5).toNatClampNeg)) (Ia5 (w + 2) (x4_5).toNatClampNeg) hG hI hW (by first | omega | decide) (by first | omega | decide) (by first | omega | decide)) rfl rfl ⟨Nat.le_of_ble_eq_true rfl, Nat.le_of_ble_eq_true rfl⟩ (hG.1 20 (by decide)) rfl rfl (by decide) rfl hl.1 rfl (Nat.le_of_ble_eq_true rfl) dX2_turnMirrors_71 ⟨Nat.le_of_ble_eq_true rfl, Nat.le_of_ble_eq_true rfl⟩) hS (fun r20 u H locs hw hM hS => ?_)
              obtain ⟨I21, L22, rfl, hI, hkI21⟩ := hw
              have hM : Mem D A ad ns I21 L22 G H := hM
              have hK := hK.trans hkI21 rfl
              refine lv_lstore (lv' := [(6, .long (r20)), (5, .int (Ia5 (w + 2) (x4_5).toNatClampNeg)), (4, .int (x4_5)), (3, .int (x3_5)), (0, .ref (ad (20))), (1, .ref (ad (100))), (2, .ref (ad (w)))]) hx hb dX2_turnMirrors_74 hl (by decide) rfl (fun ls hl => ?_)
              refine lv_aload_n hx hb dX2_turnMirrors_76 rfl (lv_at hl 5 rfl) ?_
              refine lv_iload hx hb dX2_turnMirrors_77 (lv_at hl 1 rfl) ?_
              refine lv_lload hx hb dX2_turnMirrors_79 (lv_at hl 0 rfl) ?_
              refine lv_ldc2 (v := (7)) hx hb hown (hts _ tb_787) dX2_turnMirrors_81 ?_
              refine lv_land hx hb dX2_turnMirrors_84 ?_
              refine lv_topl (fun v23 ev23 => ?_)
              refine lv_l2i hx hb dX2_turnMirrors_85 rfl ?_
              refine lv_topi (fun v24 ev24 => ?_)
              refine m_callv (m_runV (100) (As := [.int (Ia5 (w + 2) (x4_5).toNatClampNeg), .int (v24)]) (rest := []) hx hb hml hown hts hE hM hS hA ce_X8_turnTowards tb_788 (V_X8_turnTowards_100 l D A ad ns I21 L22 G (Ia5 (w + 2) (x4_5).toNatClampNeg) (v24) hG hI (by first | omega | decide)) rfl rfl ⟨Nat.le_of_ble_eq_true rfl, Nat.le_of_ble_eq_true rfl⟩ (hG.1 100 (by decide)) rfl rfl (by decide) rfl hl.1 rfl (Nat.le_of_ble_eq_true rfl) dX2_turnMirrors_86 ⟨Nat.le_of_ble_eq_true rfl, Nat.le_of_ble_eq_true rfl⟩) hS (fun u H locs hw hM hS => ?_)
              obtain ⟨I25, L26, rfl, hI, hkI25⟩ := hw
              have hM : Mem D A ad ns I25 L26 G H := hM
              have hK := hK.trans hkI25 rfl
              refine lv_iload_n hx hb dX2_turnMirrors_89 rfl (lv_at hl 3 rfl) ?_
              refine lv_iconst (v := (1)) hx hb dX2_turnMirrors_90 (by decide) ?_
              refine lv_iload hx hb dX2_turnMirrors_91 (lv_at hl 1 rfl) ?_
              refine lv_ishl hx hb dX2_turnMirrors_93 ?_
              refine lv_topi (fun v27 ev27 => ?_)
              refine lv_ior hx hb dX2_turnMirrors_94 ?_
              refine lv_topi (fun v28 ev28 => ?_)
              refine lv_istore_n (lv' := [(3, .int (v28)), (6, .long (r20)), (5, .int (Ia5 (w + 2) (x4_5).toNatClampNeg)), (4, .int (x4_5)), (0, .ref (ad (20))), (1, .ref (ad (100))), (2, .ref (ad (w)))]) hx hb dX2_turnMirrors_95 rfl hl (by decide) rfl (fun ls hl => ?_)
              obtain ⟨v29, ev29⟩ : ∃ z : Int32, z = x4_5 + Int32.ofInt (1) := ⟨_, rfl⟩
              have tv29 := a_inc ev29 (by decide) (by omega) (by omega)
              refine lv_iinc (v := v29) (lv' := [(4, .int (v29)), (3, .int (v28)), (6, .long (r20)), (5, .int (Ia5 (w + 2) (x4_5).toNatClampNeg)), (0, .ref (ad (20))), (1, .ref (ad (100))), (2, .ref (ad (w)))]) hx hb dX2_turnMirrors_96 hl (k := 3) rfl ev29.symm (by decide) rfl (fun ls hl => ?_)
              refine lv_goto (tgt := 5) hx hb dX2_turnMirrors_99 (by decide) ?_
              exact ih5 (v29) (v28) I25 L26 _ _ ls hI hK (by first | omega | decide) (by omega) hM hS (lv_sub hl [0, 1, 4, 5, 6] rfl)
  exact loop5 (_ + 1) (0) (0) I L _ _ ls hI hK (by first | omega | decide) (Nat.lt_succ_self _) hM hS (lv_sub hl [0, 1, 2, 3, 4] rfl)
theorem dX2_passDay_0 : decode cX2_passDay 0 = .ok (.aload_n 0, 1) := by decide +kernel
theorem dX2_passDay_1 : decode cX2_passDay 1 = .ok (.getfield 9, 3) := by decide +kernel
theorem dX2_passDay_4 : decode cX2_passDay 4 = .ok (.iconst 0, 1) := by decide +kernel
theorem dX2_passDay_5 : decode cX2_passDay 5 = .ok (.invokestatic 23, 3) := by decide +kernel
theorem dX2_passDay_8 : decode cX2_passDay 8 = .ok (.iconst 0, 1) := by decide +kernel
theorem dX2_passDay_9 : decode cX2_passDay 9 = .ok (.istore 4, 2) := by decide +kernel
theorem dX2_passDay_11 : decode cX2_passDay 11 = .ok (.iconst 0, 1) := by decide +kernel
theorem dX2_passDay_12 : decode cX2_passDay 12 = .ok (.istore 5, 2) := by decide +kernel
theorem dX2_passDay_14 : decode cX2_passDay 14 = .ok (.iload 5, 2) := by decide +kernel
theorem dX2_passDay_16 : decode cX2_passDay 16 = .ok (.bipush 24, 2) := by decide +kernel
theorem dX2_passDay_18 : decode cX2_passDay 18 = .ok (.if_icmp .ge 84, 3) := by decide +kernel
theorem dX2_passDay_21 : decode cX2_passDay 21 = .ok (.aload_n 0, 1) := by decide +kernel
theorem dX2_passDay_22 : decode cX2_passDay 22 = .ok (.iload 5, 2) := by decide +kernel
theorem dX2_passDay_24 : decode cX2_passDay 24 = .ok (.putfield 29, 3) := by decide +kernel
theorem dX2_passDay_27 : decode cX2_passDay 27 = .ok (.aload_n 0, 1) := by decide +kernel
theorem dX2_passDay_28 : decode cX2_passDay 28 = .ok (.aload_n 1, 1) := by decide +kernel
theorem dX2_passDay_29 : decode cX2_passDay 29 = .ok (.aload_n 2, 1) := by decide +kernel
theorem dX2_passDay_30 : decode cX2_passDay 30 = .ok (.invokevirtual 33, 3) := by decide +kernel
theorem dX2_passDay_33 : decode cX2_passDay 33 = .ok (.aload_n 1, 1) := by decide +kernel
theorem dX2_passDay_34 : decode cX2_passDay 34 = .ok (.iload 5, 2) := by decide +kernel
theorem dX2_passDay_36 : decode cX2_passDay 36 = .ok (.invokevirtual 37, 3) := by decide +kernel
theorem dX2_passDay_39 : decode cX2_passDay 39 = .ok (.ifCond .eq 57, 3) := by decide +kernel
theorem dX2_passDay_42 : decode cX2_passDay 42 = .ok (.iload_n 3, 1) := by decide +kernel
theorem dX2_passDay_43 : decode cX2_passDay 43 = .ok (.ifCond .eq 39, 3) := by decide +kernel
theorem dX2_passDay_46 : decode cX2_passDay 46 = .ok (.aload_n 0, 1) := by decide +kernel
theorem dX2_passDay_47 : decode cX2_passDay 47 = .ok (.getfield 19, 3) := by decide +kernel
theorem dX2_passDay_50 : decode cX2_passDay 50 = .ok (.aload_n 1, 1) := by decide +kernel
theorem dX2_passDay_51 : decode cX2_passDay 51 = .ok (.iload 5, 2) := by decide +kernel
theorem dX2_passDay_53 : decode cX2_passDay 53 = .ok (.invokevirtual 43, 3) := by decide +kernel
theorem dX2_passDay_56 : decode cX2_passDay 56 = .ok (.iload 4, 2) := by decide +kernel
theorem dX2_passDay_58 : decode cX2_passDay 58 = .ok (.aload_n 0, 1) := by decide +kernel
theorem dX2_passDay_59 : decode cX2_passDay 59 = .ok (.getfield 19, 3) := by decide +kernel
theorem dX2_passDay_62 : decode cX2_passDay 62 = .ok (.aload_n 1, 1) := by decide +kernel
theorem dX2_passDay_63 : decode cX2_passDay 63 = .ok (.invokevirtual 49, 3) := by decide +kernel
theorem dX2_passDay_66 : decode cX2_passDay 66 = .ok (.bipush (-2), 2) := by decide +kernel
theorem dX2_passDay_68 : decode cX2_passDay 68 = .ok (.if_icmp .ne 7, 3) := by decide +kernel
theorem dX2_passDay_71 : decode cX2_passDay 71 = .ok (.iconst 0, 1) := by decide +kernel
theorem dX2_passDay_72 : decode cX2_passDay 72 = .ok (.goto 4, 3) := by decide +kernel
theorem dX2_passDay_75 : decode cX2_passDay 75 = .ok (.iconst 1, 1) := by decide +kernel
theorem dX2_passDay_76 : decode cX2_passDay 76 = .ok (.iadd, 1) := by decide +kernel
theorem dX2_passDay_77 : decode cX2_passDay 77 = .ok (.istore 4, 2) := by decide +kernel
theorem dX2_passDay_79 : decode cX2_passDay 79 = .ok (.goto 13, 3) := by decide +kernel
theorem dX2_passDay_82 : decode cX2_passDay 82 = .ok (.aload_n 0, 1) := by decide +kernel
theorem dX2_passDay_83 : decode cX2_passDay 83 = .ok (.getfield 19, 3) := by decide +kernel
theorem dX2_passDay_86 : decode cX2_passDay 86 = .ok (.aload_n 1, 1) := by decide +kernel
theorem dX2_passDay_87 : decode cX2_passDay 87 = .ok (.iload 5, 2) := by decide +kernel
theorem dX2_passDay_89 : decode cX2_passDay 89 = .ok (.invokevirtual 53, 3) := by decide +kernel
theorem dX2_passDay_92 : decode cX2_passDay 92 = .ok (.aload_n 0, 1) := by decide +kernel
theorem dX2_passDay_93 : decode cX2_passDay 93 = .ok (.invokevirtual 56, 3) := by decide +kernel
theorem dX2_passDay_96 : decode cX2_passDay 96 = .ok (.iinc 5 1, 3) := by decide +kernel
theorem dX2_passDay_99 : decode cX2_passDay 99 = .ok (.goto (-85), 3) := by decide +kernel
theorem dX2_passDay_102 : decode cX2_passDay 102 = .ok (.aload_n 1, 1) := by decide +kernel
theorem dX2_passDay_103 : decode cX2_passDay 103 = .ok (.aload_n 0, 1) := by decide +kernel
theorem dX2_passDay_104 : decode cX2_passDay 104 = .ok (.getfield 9, 3) := by decide +kernel
theorem dX2_passDay_107 : decode cX2_passDay 107 = .ok (.invokevirtual 59, 3) := by decide +kernel
theorem dX2_passDay_110 : decode cX2_passDay 110 = .ok (.iload 4, 2) := by decide +kernel
theorem dX2_passDay_112 : decode cX2_passDay 112 = .ok (.ireturn, 1) := by decide +kernel
theorem ce_X2_passDay : CeV RX2 yX2_passDay cX2_passDay 6 (some .int) 3 := ⟨tb_745, tb_746, tb_4, tb_747, rfl, by decide, by decide, by decide +kernel⟩
set_option maxHeartbeats 4000000 in
set_option maxRecDepth 20000 in
theorem V_X2_passDay_100 (l : Launch) (D : va_G) (A : Nat → Prop) (ad : Nat → Nat) (ns : List Nat) (I : MI) (L : ML) (G : MG) (w : Nat) (a0 : Int32) (hG : SGC ns G) (hI : INV I) (hW : LOK ns G w) (ha0 : 0 ≤ a0.toInt ∧ a0.toInt ≤ 1) : Met l yX2_passDay (wd yX2_passDay cX2_passDay 6 (some .int)) ({ frames := 6, cells := 0, slots := 0, locals := 146 }) (va_Pc [.ref (ad (20)), .ref (ad (100)), .ref (ad (w)), .int a0] (PM D A ad ns I L G)) (va_Qi (fun r u => ∃ I2 L2, u = (ad, ns, I2, L2, G) ∧ INV I2 ∧ Kp [(11, 15), (21, 22), (107, 109)] [(10, 2), (10, 3), (10, 4), (10, 5), (10, 6), (10, 7), (10, 8), (10, 11), (10, 12), (20, 3), (100, 6)] I I2) (BM D A) A) 0 0 A := by
  refine m_ofW (by decide) (Nat.le_of_ble_eq_true rfl) ?_
  intro p e s m below meth c ls args hC hE hM hA hS hl
  obtain ⟨hx, hb, hml, hown, hts, hr, hlocks, hin⟩ := hC
  have km2 : (-2 : Int32).toInt = -2 := by decide
  have k0 : (0 : Int32).toInt = 0 := by decide
  have k1 : (1 : Int32).toInt = 1 := by decide
  have k24 : (24 : Int32).toInt = 24 := by decide
  have hK : Kp [(11, 15), (21, 22), (107, 109)] [(10, 2), (10, 3), (10, 4), (10, 5), (10, 6), (10, 7), (10, 8), (10, 11), (10, 12), (20, 3), (100, 6)] I I := Kp.rf
  have hl : lv_has ls 6 [(0, .ref (ad (20))), (1, .ref (ad (100))), (2, .ref (ad (w))), (3, .int (a0))] := hl
  refine lv_aload_n hx hb dX2_passDay_0 rfl (lv_at hl 0 rfl) ?_
  refine m_getr (20) 1 (21) hx hb hts hown hE oc2 hM (hG.1 20 (by decide)) rfl (by decide) rfl (hG.2 (20, 1, 21) (by decide)) (by decide) tb_186 dX2_passDay_1 ?_
  refine lv_iconst (v := (0)) hx hb dX2_passDay_4 (by decide) ?_
  refine m_callv (m_runS (As := [.ref (ad (21)), .int (0)]) (rest := []) hx hb hml hown hts hE hM hS hA ce_J7_fill_53178 tb_748 (C_J7_fill_53178 l D A ad ns I L G (21) 8 (0) (hG.1 21 (by decide)) rfl (by decide)) rfl rfl ⟨Nat.le_of_ble_eq_true rfl, Nat.le_of_ble_eq_true rfl⟩  rfl hl.1 rfl (Nat.le_of_ble_eq_true rfl) dX2_passDay_5 ⟨Nat.le_of_ble_eq_true rfl, Nat.le_of_ble_eq_true rfl⟩) hS (fun u H locs hw hM hS => ?_)
  subst hw
  obtain ⟨I1, eI1⟩ : ∃ z : MI, z = fillI I 21 8 (0) := ⟨_, rfl⟩
  have hM : Mem D A ad ns I1 L G H := by rw [eI1]; exact hM
  have hkI1 : Kp [(21, 22)] [] I I1 := by rw [eI1]; exact Kp.rf.fill rfl
  have hI : INV I1 := by rw [eI1]; exact hI.fill (fun k _ => (by decide : (-2147483648 : Int) ≤ (0 : Int32).toInt ∧ (0 : Int32).toInt ≤ (2147483647 : Int)))
  have hK := hK.trans hkI1 rfl
  refine lv_iconst (v := (0)) hx hb dX2_passDay_8 (by decide) ?_
  refine lv_istore (lv' := [(4, .int (0)), (0, .ref (ad (20))), (1, .ref (ad (100))), (2, .ref (ad (w))), (3, .int (a0))]) hx hb dX2_passDay_9 hl (by decide) rfl (fun ls hl => ?_)
  refine lv_iconst (v := (0)) hx hb dX2_passDay_11 (by decide) ?_
  refine lv_istore (lv' := [(5, .int (0)), (4, .int (0)), (0, .ref (ad (20))), (1, .ref (ad (100))), (2, .ref (ad (w))), (3, .int (a0))]) hx hb dX2_passDay_12 hl (by decide) rfl (fun ls hl => ?_)
  have loop14 : ∀ (n : Nat) (x5_14 : Int32) (x4_14 : Int32) (Ia14 : MI) (La14 : ML) (H : Heap) (locs : List Loc) (ls : Array Slot), INV Ia14 → Kp [(11, 15), (21, 22), (107, 109)] [(10, 2), (10, 3), (10, 4), (10, 5), (10, 6), (10, 7), (10, 8), (10, 11), (10, 12), (20, 3), (100, 6)] I Ia14 → (0 ≤ x5_14.toInt ∧ x5_14.toInt ≤ 24) → (24 - x5_14.toInt).toNat < n → Mem D A ad ns Ia14 La14 G H → va_S A s.heap H locs → lv_has ls 6 [(5, .int (x5_14)), (4, .int (x4_14)), (0, .ref (ad (20))), (1, .ref (ad (100))), (2, .ref (ad (w))), (3, .int (a0))] → W p l e ({ frames := 6, cells := 0, slots := 0, locals := 146 } : Room) s m args below meth c H locs 0 0 (MQ below (va_Qi (fun r u => ∃ I2 L2, u = (ad, ns, I2, L2, G) ∧ INV I2 ∧ Kp [(11, 15), (21, 22), (107, 109)] [(10, 2), (10, 3), (10, 4), (10, 5), (10, 6), (10, 7), (10, 8), (10, 11), (10, 12), (20, 3), (100, 6)] I I2) (BM D A) A) args s 0 0 A) (F0 m 14 ls []) := by
    intro n
    induction n with
    | zero =>
      intro x5_14 x4_14 Ia14 La14 H locs ls hI hK hr5_14 hmu
      exact absurd hmu (Nat.not_lt_zero _)
    | succ n ih14 =>
      intro x5_14 x4_14 Ia14 La14 H locs ls hI hK hr5_14 hmu14 hM hS hl
      refine lv_iload hx hb dX2_passDay_14 (lv_at hl 0 rfl) ?_
      refine lv_bipush (v := (24)) hx hb dX2_passDay_16 (by decide) ?_
      refine lv_icmp_ge (tgt := 102) hx hb dX2_passDay_18 (by decide) (fun c2 => ?_) (fun c2 => ?_)
      · have hc2 := c2
        have q2 := q_le hc2
        refine lv_aload_n hx hb dX2_passDay_102 rfl (lv_at hl 3 rfl) ?_
        refine lv_aload_n hx hb dX2_passDay_103 rfl (lv_at hl 2 rfl) ?_
        refine m_getr (20) 1 (21) hx hb hts hown hE oc2 hM (hG.1 20 (by decide)) rfl (by decide) rfl (hG.2 (20, 1, 21) (by decide)) (by decide) tb_186 dX2_passDay_104 ?_
        refine m_callv (m_runV (100) (As := [.ref (ad (21))]) (rest := []) hx hb hml hown hts hE hM hS hA ce_X8_endDay tb_876 (V_X8_endDay_100 l D A ad ns Ia14 La14 G hG hI) rfl rfl ⟨Nat.le_of_ble_eq_true rfl, Nat.le_of_ble_eq_true rfl⟩ (hG.1 100 (by decide)) rfl rfl (by decide) rfl hl.1 rfl (Nat.le_of_ble_eq_true rfl) dX2_passDay_107 ⟨Nat.le_of_ble_eq_true rfl, Nat.le_of_ble_eq_true rfl⟩) hS (fun u H locs hw hM hS => ?_)
        obtain ⟨I3, L4, rfl, hI, hkI3⟩ := hw
        have hM : Mem D A ad ns I3 L4 G H := hM
        have hK := hK.trans hkI3 rfl
        refine lv_iload hx hb dX2_passDay_110 (lv_at hl 1 rfl) ?_
        exact m_iret hx hb hr hlocks hM hS (Nat.le_of_ble_eq_true rfl) (Nat.le_of_ble_eq_true rfl) ⟨_, _, rfl, hI, hK⟩ dX2_passDay_112
      · have hc2 := c2
        have q2 := q_nle hc2
        refine lv_aload_n hx hb dX2_passDay_21 rfl (lv_at hl 2 rfl) ?_
        refine lv_iload hx hb dX2_passDay_22 (lv_at hl 0 rfl) ?_
        refine m_puti (20) 3 hx hb hts hown hE oc2 hM hS (hG.1 20 (by decide)) rfl (by decide) rfl rfl rfl rfl tb_188 dX2_passDay_24 (fun H locs I5 eI5 hM hS => ?_)
        subst eI5
        have hI := hI.put (n := 20) (k := 3) (v := x5_14) (lo := 0) (hi := 23) rfl (by first | omega | decide)
        have hK := hK.put (n := 20) (k := 3) (v := x5_14) (by first | rfl | simp [inR])
        refine lv_aload_n hx hb dX2_passDay_27 rfl (lv_at hl 2 rfl) ?_
        refine lv_aload_n hx hb dX2_passDay_28 rfl (lv_at hl 3 rfl) ?_
        refine lv_aload_n hx hb dX2_passDay_29 rfl (lv_at hl 4 rfl) ?_
        refine m_callv (m_runV (20) (As := [.ref (ad (100)), .ref (ad (w))]) (rest := []) hx hb hml hown hts hE hM hS hA ce_X2_turnMirrors tb_749 (V_X2_turnMirrors_100 l D A ad ns (u2 Ia14 (20) 3 (x5_14)) La14 G (w) hG hI hW) rfl rfl ⟨Nat.le_of_ble_eq_true rfl, Nat.le_of_ble_eq_true rfl⟩ (hG.1 20 (by decide)) rfl rfl (by decide) rfl hl.1 rfl (Nat.le_of_ble_eq_true rfl) dX2_passDay_30 ⟨Nat.le_of_ble_eq_true rfl, Nat.le_of_ble_eq_true rfl⟩) hS (fun u H locs hw hM hS => ?_)
        obtain ⟨I6, L7, rfl, hI, hkI6⟩ := hw
        have hM : Mem D A ad ns I6 L7 G H := hM
        have hK := hK.trans hkI6 rfl
        refine lv_aload_n hx hb dX2_passDay_33 rfl (lv_at hl 3 rfl) ?_
        refine lv_iload hx hb dX2_passDay_34 (lv_at hl 0 rfl) ?_
        refine m_calli (m_runV (100) (As := [.int (x5_14)]) (rest := []) hx hb hml hown hts hE hM hS hA ce_X8_isLit tb_767 (V_X8_isLit_100 l D A ad ns I6 L7 G (x5_14) hG hI) rfl rfl ⟨Nat.le_of_ble_eq_true rfl, Nat.le_of_ble_eq_true rfl⟩ (hG.1 100 (by decide)) rfl rfl (by decide) rfl hl.1 rfl (Nat.le_of_ble_eq_true rfl) dX2_passDay_36 ⟨Nat.le_of_ble_eq_true rfl, Nat.le_of_ble_eq_true rfl⟩) hS (fun r8 u H locs hw hM hS => ?_)
        obtain ⟨rfl, xr8⟩ := hw
        have hM : Mem D A ad ns I6 L7 G H := hM
        have yr8 := bo01 xr8
        refine lv_if_eq (tgt := 96) hx hb dX2_passDay_39 (by decide) (fun c9 => ?_) (fun c9 => ?_)
        · have hc9 := c9
          have q9 := xr8.f hc9
          obtain ⟨v10, ev10⟩ : ∃ z : Int32, z = x5_14 + Int32.ofInt (1) := ⟨_, rfl⟩
          have tv10 := a_inc ev10 (by decide) (by omega) (by omega)
          refine lv_iinc (v := v10) (lv' := [(5, .int (v10)), (4, .int (x4_14)), (0, .ref (ad (20))), (1, .ref (ad (100))), (2, .ref (ad (w))), (3, .int (a0))]) hx hb dX2_passDay_96 hl (k := 0) rfl ev10.symm (by decide) rfl (fun ls hl => ?_)
          refine lv_goto (tgt := 14) hx hb dX2_passDay_99 (by decide) ?_
          exact ih14 (v10) (x4_14) I6 L7 _ _ ls hI hK (by first | omega | decide) (by omega) hM hS (lv_sub hl [0, 1, 2, 3, 4, 5] rfl)
        · have hc9 := c9
          have q9 := xr8.t hc9
          have lh9 := q9.2.1
          refine lv_iload_n hx hb dX2_passDay_42 rfl (lv_at hl 5 rfl) ?_
          refine lv_if_eq (tgt := 82) hx hb dX2_passDay_43 (by decide) (fun c11 => ?_) (fun c11 => ?_)
          · have hc11 := c11
            have q11 := q_eq hc11
            refine lv_aload_n hx hb dX2_passDay_82 rfl (lv_at hl 2 rfl) ?_
            refine m_getr (20) 0 (10) hx hb hts hown hE oc2 hM (hG.1 20 (by decide)) rfl (by decide) rfl (hG.2 (20, 0, 10) (by decide)) (by decide) tb_185 dX2_passDay_83 ?_
            refine lv_aload_n hx hb dX2_passDay_86 rfl (lv_at hl 3 rfl) ?_
            refine lv_iload hx hb dX2_passDay_87 (lv_at hl 0 rfl) ?_
            refine m_callv (m_runV (10) (As := [.ref (ad (100)), .int (x5_14)]) (rest := []) hx hb hml hown hts hE hM hS hA ce_X1_shine tb_871 (V_X1_shine_100 l D A ad ns I6 L7 G (x5_14) hG hI (q9.2) (by first | omega | decide)) rfl rfl ⟨Nat.le_of_ble_eq_true rfl, Nat.le_of_ble_eq_true rfl⟩ (hG.1 10 (by decide)) rfl rfl (by decide) rfl hl.1 rfl (Nat.le_of_ble_eq_true rfl) dX2_passDay_89 ⟨Nat.le_of_ble_eq_true rfl, Nat.le_of_ble_eq_true rfl⟩) hS (fun u H locs hw hM hS => ?_)
            obtain ⟨I12, L13, rfl, hI, hkI12⟩ := hw
            have hM : Mem D A ad ns I12 L13 G H := hM
            have hK := hK.trans hkI12 rfl
            refine lv_aload_n hx hb dX2_passDay_92 rfl (lv_at hl 2 rfl) ?_
            refine m_callv (m_runV (20) (As := []) (rest := []) hx hb hml hown hts hE hM hS hA ce_X2_addToday tb_872 (V_X2_addToday l D A ad ns I12 L13 G hG hI) rfl rfl ⟨Nat.le_of_ble_eq_true rfl, Nat.le_of_ble_eq_true rfl⟩ (hG.1 20 (by decide)) rfl rfl (by decide) rfl hl.1 rfl (Nat.le_of_ble_eq_true rfl) dX2_passDay_93 ⟨Nat.le_of_ble_eq_true rfl, Nat.le_of_ble_eq_true rfl⟩) hS (fun u H locs hw hM hS => ?_)
            obtain ⟨I14, L15, rfl, hI, hkI14⟩ := hw
            have hM : Mem D A ad ns I14 L15 G H := hM
            have hK := hK.trans hkI14 rfl
            obtain ⟨v16, ev16⟩ : ∃ z : Int32, z = x5_14 + Int32.ofInt (1) := ⟨_, rfl⟩
            have tv16 := a_inc ev16 (by decide) (by omega) (by omega)
            refine lv_iinc (v := v16) (lv' := [(5, .int (v16)), (4, .int (x4_14)), (0, .ref (ad (20))), (1, .ref (ad (100))), (2, .ref (ad (w))), (3, .int (a0))]) hx hb dX2_passDay_96 hl (k := 0) rfl ev16.symm (by decide) rfl (fun ls hl => ?_)
            refine lv_goto (tgt := 14) hx hb dX2_passDay_99 (by decide) ?_
            exact ih14 (v16) (x4_14) I14 L15 _ _ ls hI hK (by first | omega | decide) (by omega) hM hS (lv_sub hl [0, 1, 2, 3, 4, 5] rfl)
          · have hc11 := c11
            have q11 := q_ne hc11
            refine lv_aload_n hx hb dX2_passDay_46 rfl (lv_at hl 2 rfl) ?_
            refine m_getr (20) 0 (10) hx hb hts hown hE oc2 hM (hG.1 20 (by decide)) rfl (by decide) rfl (hG.2 (20, 0, 10) (by decide)) (by decide) tb_185 dX2_passDay_47 ?_
            refine lv_aload_n hx hb dX2_passDay_50 rfl (lv_at hl 3 rfl) ?_
            refine lv_iload hx hb dX2_passDay_51 (lv_at hl 0 rfl) ?_
            refine m_callv (m_runV (10) (As := [.ref (ad (100)), .int (x5_14)]) (rest := []) hx hb hml hown hts hE hM hS hA ce_X1_shineWatched tb_796 (V_X1_shineWatched_100 l D A ad ns I6 L7 G (x5_14) hG hI (q9.2) (by first | omega | decide)) rfl rfl ⟨Nat.le_of_ble_eq_true rfl, Nat.le_of_ble_eq_true rfl⟩ (hG.1 10 (by decide)) rfl rfl (by decide) rfl hl.1 rfl (Nat.le_of_ble_eq_true rfl) dX2_passDay_53 ⟨Nat.le_of_ble_eq_true rfl, Nat.le_of_ble_eq_true rfl⟩) hS (fun u H locs hw hM hS => ?_)
            obtain ⟨I17, L18, rfl, hI, hkI17⟩ := hw
            have hM : Mem D A ad ns I17 L18 G H := hM
            have hK := hK.trans hkI17 rfl
            refine lv_iload hx hb dX2_passDay_56 (lv_at hl 1 rfl) ?_
            refine lv_aload_n hx hb dX2_passDay_58 rfl (lv_at hl 2 rfl) ?_
            refine m_getr (20) 0 (10) hx hb hts hown hE oc2 hM (hG.1 20 (by decide)) rfl (by decide) rfl (hG.2 (20, 0, 10) (by decide)) (by decide) tb_185 dX2_passDay_59 ?_
            refine lv_aload_n hx hb dX2_passDay_62 rfl (lv_at hl 3 rfl) ?_
            refine m_calli (m_runV (10) (As := [.ref (ad (100))]) (rest := [.int (x4_14)]) hx hb hml hown hts hE hM hS hA ce_X1_firstBlind tb_863 (V_X1_firstBlind_100 l D A ad ns I17 L18 G hG hI) rfl rfl ⟨Nat.le_of_ble_eq_true rfl, Nat.le_of_ble_eq_true rfl⟩ (hG.1 10 (by decide)) rfl rfl (by decide) rfl hl.1 rfl (Nat.le_of_ble_eq_true rfl) dX2_passDay_63 ⟨Nat.le_of_ble_eq_true rfl, Nat.le_of_ble_eq_true rfl⟩) hS (fun r19 u H locs hw hM hS => ?_)
            obtain ⟨rfl, xr19⟩ := hw
            have hM : Mem D A ad ns I17 L18 G H := hM
            refine lv_bipush (v := (-2)) hx hb dX2_passDay_66 (by decide) ?_
            refine lv_icmp_ne (tgt := 75) hx hb dX2_passDay_68 (by decide) (fun c20 => ?_) (fun c20 => ?_)
            · have hc20 := c20
              have q20 := q_ne hc20
              refine lv_iconst (v := (1)) hx hb dX2_passDay_75 (by decide) ?_
              refine lv_iadd hx hb dX2_passDay_76 ?_
              refine lv_topi (fun v21 ev21 => ?_)
              refine lv_istore (lv' := [(4, .int (v21)), (5, .int (x5_14)), (0, .ref (ad (20))), (1, .ref (ad (100))), (2, .ref (ad (w))), (3, .int (a0))]) hx hb dX2_passDay_77 hl (by decide) rfl (fun ls hl => ?_)
              refine lv_goto (tgt := 92) hx hb dX2_passDay_79 (by decide) ?_
              refine lv_aload_n hx hb dX2_passDay_92 rfl (lv_at hl 2 rfl) ?_
              refine m_callv (m_runV (20) (As := []) (rest := []) hx hb hml hown hts hE hM hS hA ce_X2_addToday tb_872 (V_X2_addToday l D A ad ns I17 L18 G hG hI) rfl rfl ⟨Nat.le_of_ble_eq_true rfl, Nat.le_of_ble_eq_true rfl⟩ (hG.1 20 (by decide)) rfl rfl (by decide) rfl hl.1 rfl (Nat.le_of_ble_eq_true rfl) dX2_passDay_93 ⟨Nat.le_of_ble_eq_true rfl, Nat.le_of_ble_eq_true rfl⟩) hS (fun u H locs hw hM hS => ?_)
              obtain ⟨I22, L23, rfl, hI, hkI22⟩ := hw
              have hM : Mem D A ad ns I22 L23 G H := hM
              have hK := hK.trans hkI22 rfl
              obtain ⟨v24, ev24⟩ : ∃ z : Int32, z = x5_14 + Int32.ofInt (1) := ⟨_, rfl⟩
              have tv24 := a_inc ev24 (by decide) (by omega) (by omega)
              refine lv_iinc (v := v24) (lv' := [(5, .int (v24)), (4, .int (v21)), (0, .ref (ad (20))), (1, .ref (ad (100))), (2, .ref (ad (w))), (3, .int (a0))]) hx hb dX2_passDay_96 hl (k := 1) rfl ev24.symm (by decide) rfl (fun ls hl => ?_)
              refine lv_goto (tgt := 14) hx hb dX2_passDay_99 (by decide) ?_
              exact ih14 (v24) (v21) I22 L23 _ _ ls hI hK (by first | omega | decide) (by omega) hM hS (lv_sub hl [0, 1, 2, 3, 4, 5] rfl)
            · have hc20 := c20
              have q20 := q_eq hc20
              refine lv_iconst (v := (0)) hx hb dX2_passDay_71 (by decide) ?_
              refine lv_goto (tgt := 76) hx hb dX2_passDay_72 (by decide) ?_
              refine lv_iadd hx hb dX2_passDay_76 ?_
              refine lv_topi (fun v25 ev25 => ?_)
              refine lv_istore (lv' := [(4, .int (v25)), (5, .int (x5_14)), (0, .ref (ad (20))), (1, .ref (ad (100))), (2, .ref (ad (w))), (3, .int (a0))]) hx hb dX2_passDay_77 hl (by decide) rfl (fun ls hl => ?_)
              refine lv_goto (tgt := 92) hx hb dX2_passDay_79 (by decide) ?_
              refine lv_aload_n hx hb dX2_passDay_92 rfl (lv_at hl 2 rfl) ?_
              refine m_callv (m_runV (20) (As := []) (rest := []) hx hb hml hown hts hE hM hS hA ce_X2_addToday tb_872 (V_X2_addToday l D A ad ns I17 L18 G hG hI) rfl rfl ⟨Nat.le_of_ble_eq_true rfl, Nat.le_of_ble_eq_true rfl⟩ (hG.1 20 (by decide)) rfl rfl (by decide) rfl hl.1 rfl (Nat.le_of_ble_eq_true rfl) dX2_passDay_93 ⟨Nat.le_of_ble_eq_true rfl, Nat.le_of_ble_eq_true rfl⟩) hS (fun u H locs hw hM hS => ?_)
              obtain ⟨I26, L27, rfl, hI, hkI26⟩ := hw
              have hM : Mem D A ad ns I26 L27 G H := hM
              have hK := hK.trans hkI26 rfl
              obtain ⟨v28, ev28⟩ : ∃ z : Int32, z = x5_14 + Int32.ofInt (1) := ⟨_, rfl⟩
              have tv28 := a_inc ev28 (by decide) (by omega) (by omega)
              refine lv_iinc (v := v28) (lv' := [(5, .int (v28)), (4, .int (v25)), (0, .ref (ad (20))), (1, .ref (ad (100))), (2, .ref (ad (w))), (3, .int (a0))]) hx hb dX2_passDay_96 hl (k := 1) rfl ev28.symm (by decide) rfl (fun ls hl => ?_)
              refine lv_goto (tgt := 14) hx hb dX2_passDay_99 (by decide) ?_
              exact ih14 (v28) (v25) I26 L27 _ _ ls hI hK (by first | omega | decide) (by omega) hM hS (lv_sub hl [0, 1, 2, 3, 4, 5] rfl)
  exact loop14 (_ + 1) (0) (0) I1 L _ _ ls hI hK (by first | omega | decide) (Nat.lt_succ_self _) hM hS (lv_sub hl [0, 1, 2, 3, 4, 5] rfl)
set_option maxHeartbeats 4000000 in
set_option maxRecDepth 20000 in
theorem V_X2_wordValue_110 (l : Launch) (D : va_G) (A : Nat → Prop) (ad : Nat → Nat) (ns : List Nat) (I : MI) (L : ML) (G : MG) (a0 : Int32) (a1 : Int32) (hG : SGC ns G) (hI : INV I) (ha1 : 0 ≤ a1.toInt ∧ a1.toInt ≤ 23) : Met l yX2_wordValue (wd yX2_wordValue cX2_wordValue 4 (some .long)) ({ frames := 2, cells := 0, slots := 0, locals := 43 }) (va_Pc [.ref (ad (20)), .ref (ad (110)), .int a0, .int a1] (PM D A ad ns I L G)) (va_Ql (fun r u => u = (ad, ns, I, L, G) ∧ (True)) (BM D A) A) 0 0 A := by
  refine m_ofW (by decide) (Nat.le_of_ble_eq_true rfl) ?_
  intro p e s m below meth c ls args hC hE hM hA hS hl
  obtain ⟨hx, hb, hml, hown, hts, hr, hlocks, hin⟩ := hC
  have km6 : (-6 : Int32).toInt = -6 := by decide
  have k0 : (0 : Int32).toInt = 0 := by decide
  have k2 : (2 : Int32).toInt = 2 := by decide
  have kl8 : (8 : Int64).toInt = 8 := by decide
  have hl : lv_has ls 4 [(0, .ref (ad (20))), (1, .ref (ad (110))), (2, .int (a0)), (3, .int (a1))] := hl
  refine lv_iload_n hx hb dX2_wordValue_0 rfl (lv_at hl 2 rfl) ?_
  by_cases c1 : (a0).toInt < -5 ∨ -1 < (a0).toInt
  · refine lv_tableOut (tgt := 89) hx hb dX2_wordValue_1 c1 (by decide) ?_
    refine lv_aload_n hx hb dX2_wordValue_89 rfl (lv_at hl 0 rfl) ?_
    refine lv_bipush (v := (-6)) hx hb dX2_wordValue_90 (by decide) ?_
    refine lv_iload_n hx hb dX2_wordValue_92 rfl (lv_at hl 2 rfl) ?_
    refine lv_isub hx hb dX2_wordValue_93 ?_
    refine lv_topi (fun v2 ev2 => ?_)
    refine m_calll (m_runV (20) (As := [.int (v2)]) (rest := []) hx hb hml hown hts hE hM hS hA ce_X2_gotByYard tb_776 (V_X2_gotByYard l D A ad ns I L G (v2) hG hI) rfl rfl ⟨Nat.le_of_ble_eq_true rfl, Nat.le_of_ble_eq_true rfl⟩ (hG.1 20 (by decide)) rfl rfl (by decide) rfl hl.1 rfl (Nat.le_of_ble_eq_true rfl) dX2_wordValue_94 ⟨Nat.le_of_ble_eq_true rfl, Nat.le_of_ble_eq_true rfl⟩) hS (fun r3 u H locs hw hM hS => ?_)
    obtain ⟨rfl, xr3⟩ := hw
    have hM : Mem D A ad ns I L G H := hM
    exact m_lret hx hb hr hlocks hM hS (Nat.le_of_ble_eq_true rfl) (Nat.le_of_ble_eq_true rfl) ⟨rfl, trivial⟩ dX2_wordValue_97
  · have qc1 : (a0).toInt = -5 ∨ (a0).toInt = -4 ∨ (a0).toInt = -3 ∨ (a0).toInt = -2 ∨ (a0).toInt = -1 := by omega
    rcases qc1 with qc1 | qc1 | qc1 | qc1 | qc1
    · refine lv_tableIn (off := 61) (tgt := 62) hx hb dX2_wordValue_1 (by omega) (by omega) (by rw [qc1]; rfl) (by decide) ?_
      refine lv_aload_n hx hb dX2_wordValue_62 rfl (lv_at hl 1 rfl) ?_
      refine lv_aload_n hx hb dX2_wordValue_63 rfl (lv_at hl 0 rfl) ?_
      refine m_geti (20) 3 hx hb hts hown hE oc2 hM (hG.1 20 (by decide)) rfl (by decide) rfl tb_188 dX2_wordValue_64 ?_
      have g4 := hI.get (20) 3 (lo := 0) (hi := 23) rfl
      refine m_calli (m_runV (110) (As := [.int (I (20) 3)]) (rest := []) hx hb hml hown hts hE hM hS hA ce_X8_isLit tb_767 (V_X8_isLit_110 l D A ad ns I L G (I (20) 3) hG hI) rfl rfl ⟨Nat.le_of_ble_eq_true rfl, Nat.le_of_ble_eq_true rfl⟩ (hG.1 110 (by decide)) rfl rfl (by decide) rfl hl.1 rfl (Nat.le_of_ble_eq_true rfl) dX2_wordValue_67 ⟨Nat.le_of_ble_eq_true rfl, Nat.le_of_ble_eq_true rfl⟩) hS (fun r5 u H locs hw hM hS => ?_)
      obtain ⟨rfl, xr5⟩ := hw
      have hM : Mem D A ad ns I L G H := hM
      have yr5 := bo01 xr5
      refine lv_if_eq (tgt := 85) hx hb dX2_wordValue_70 (by decide) (fun c6 => ?_) (fun c6 => ?_)
      · have hc6 := c6
        have q6 := xr5.f hc6
        refine lv_ldc2 (v := (8)) hx hb hown (hts _ tb_775) dX2_wordValue_85 ?_
        exact m_lret hx hb hr hlocks hM hS (Nat.le_of_ble_eq_true rfl) (Nat.le_of_ble_eq_true rfl) ⟨rfl, trivial⟩ dX2_wordValue_88
      · have hc6 := c6
        have q6 := xr5.t hc6
        have lh6 := q6.2.1
        refine lv_aload_n hx hb dX2_wordValue_73 rfl (lv_at hl 1 rfl) ?_
        refine lv_aload_n hx hb dX2_wordValue_74 rfl (lv_at hl 0 rfl) ?_
        refine m_geti (20) 3 hx hb hts hown hE oc2 hM (hG.1 20 (by decide)) rfl (by decide) rfl tb_188 dX2_wordValue_75 ?_
        refine m_calli (m_runV (110) (As := [.int (I (20) 3)]) (rest := []) hx hb hml hown hts hE hM hS hA ce_X8_wayOf tb_771 (V_X8_wayOf_110 l D A ad ns I L G (I (20) 3) hG hI (by first | omega | decide)) rfl rfl ⟨Nat.le_of_ble_eq_true rfl, Nat.le_of_ble_eq_true rfl⟩ (hG.1 110 (by decide)) rfl rfl (by decide) rfl hl.1 rfl (Nat.le_of_ble_eq_true rfl) dX2_wordValue_78 ⟨Nat.le_of_ble_eq_true rfl, Nat.le_of_ble_eq_true rfl⟩) hS (fun r7 u H locs hw hM hS => ?_)
        obtain ⟨rfl, xr7⟩ := hw
        have hM : Mem D A ad ns I L G H := hM
        have lzr7 := hI.get 115 ((I 110 5 * 24 + I (20) 3).toNatClampNeg) (lo := -1) (hi := 7) rfl
        rw [← xr7] at lzr7
        refine lv_i2l hx hb dX2_wordValue_81 rfl ?_
        refine lv_topl (fun v8 ev8 => ?_)
        have tv8 := q_i2l ev8
        refine lv_goto (tgt := 88) hx hb dX2_wordValue_82 (by decide) ?_
        exact m_lret hx hb hr hlocks hM hS (Nat.le_of_ble_eq_true rfl) (Nat.le_of_ble_eq_true rfl) ⟨rfl, trivial⟩ dX2_wordValue_88
    · refine lv_tableIn (off := 53) (tgt := 54) hx hb dX2_wordValue_1 (by omega) (by omega) (by rw [qc1]; rfl) (by decide) ?_
      refine lv_aload_n hx hb dX2_wordValue_54 rfl (lv_at hl 1 rfl) ?_
      refine lv_iload_n hx hb dX2_wordValue_55 rfl (lv_at hl 3 rfl) ?_
      refine lv_iconst (v := (2)) hx hb dX2_wordValue_56 (by decide) ?_
      refine m_calli (m_runV (110) (As := [.int (a1), .int (2)]) (rest := []) hx hb hml hown hts hE hM hS hA ce_X8_ofMirror tb_766 (V_X8_ofMirror_110 l D A ad ns I L G (a1) (2) hG hI (by first | omega | decide) (by first | omega | decide)) rfl rfl ⟨Nat.le_of_ble_eq_true rfl, Nat.le_of_ble_eq_true rfl⟩ (hG.1 110 (by decide)) rfl rfl (by decide) rfl hl.1 rfl (Nat.le_of_ble_eq_true rfl) dX2_wordValue_57 ⟨Nat.le_of_ble_eq_true rfl, Nat.le_of_ble_eq_true rfl⟩) hS (fun r9 u H locs hw hM hS => ?_)
      obtain ⟨rfl, xr9⟩ := hw
      have hM : Mem D A ad ns I L G H := hM
      refine lv_i2l hx hb dX2_wordValue_60 rfl ?_
      refine lv_topl (fun v10 ev10 => ?_)
      have tv10 := q_i2l ev10
      exact m_lret hx hb hr hlocks hM hS (Nat.le_of_ble_eq_true rfl) (Nat.le_of_ble_eq_true rfl) ⟨rfl, trivial⟩ dX2_wordValue_61
    · refine lv_tableIn (off := 47) (tgt := 48) hx hb dX2_wordValue_1 (by omega) (by omega) (by rw [qc1]; rfl) (by decide) ?_
      refine lv_aload_n hx hb dX2_wordValue_48 rfl (lv_at hl 1 rfl) ?_
      refine m_geti (110) 6 hx hb hts hown hE oc8 hM (hG.1 110 (by decide)) rfl (by decide) rfl tb_55 dX2_wordValue_49 ?_
      refine lv_i2l hx hb dX2_wordValue_52 rfl ?_
      refine lv_topl (fun v11 ev11 => ?_)
      have tv11 := q_i2l ev11
      exact m_lret hx hb hr hlocks hM hS (Nat.le_of_ble_eq_true rfl) (Nat.le_of_ble_eq_true rfl) ⟨rfl, trivial⟩ dX2_wordValue_53
    · refine lv_tableIn (off := 41) (tgt := 42) hx hb dX2_wordValue_1 (by omega) (by omega) (by rw [qc1]; rfl) (by decide) ?_
      refine lv_aload_n hx hb dX2_wordValue_42 rfl (lv_at hl 1 rfl) ?_
      refine m_geti (110) 5 hx hb hts hown hE oc8 hM (hG.1 110 (by decide)) rfl (by decide) rfl tb_52 dX2_wordValue_43 ?_
      have g12 := hI.get (110) 5 (lo := 0) (hi := 11) rfl
      refine lv_i2l hx hb dX2_wordValue_46 rfl ?_
      refine lv_topl (fun v13 ev13 => ?_)
      have tv13 := q_i2l ev13
      exact m_lret hx hb hr hlocks hM hS (Nat.le_of_ble_eq_true rfl) (Nat.le_of_ble_eq_true rfl) ⟨rfl, trivial⟩ dX2_wordValue_47
    · refine lv_tableIn (off := 35) (tgt := 36) hx hb dX2_wordValue_1 (by omega) (by omega) (by rw [qc1]; rfl) (by decide) ?_
      refine lv_aload_n hx hb dX2_wordValue_36 rfl (lv_at hl 0 rfl) ?_
      refine m_geti (20) 3 hx hb hts hown hE oc2 hM (hG.1 20 (by decide)) rfl (by decide) rfl tb_188 dX2_wordValue_37 ?_
      have g14 := hI.get (20) 3 (lo := 0) (hi := 23) rfl
      refine lv_i2l hx hb dX2_wordValue_40 rfl ?_
      refine lv_topl (fun v15 ev15 => ?_)
      have tv15 := q_i2l ev15
      exact m_lret hx hb hr hlocks hM hS (Nat.le_of_ble_eq_true rfl) (Nat.le_of_ble_eq_true rfl) ⟨rfl, trivial⟩ dX2_wordValue_41
set_option maxHeartbeats 4000000 in
set_option maxRecDepth 20000 in
theorem V_X2_valueOf_110 (l : Launch) (D : va_G) (A : Nat → Prop) (ad : Nat → Nat) (ns : List Nat) (I : MI) (L : ML) (G : MG) (w : Nat) (a0 : Int32) (a1 : Int32) (a2 : Int32) (hG : SGC ns G) (hI : INV I) (hW : LOK ns G w) (ha0 : 0 ≤ a0.toInt ∧ a0.toInt ≤ 400) (ha1 : 0 ≤ a1.toInt ∧ a1.toInt ≤ 400) (ha2 : 0 ≤ a2.toInt ∧ a2.toInt ≤ 23) : Met l yX2_valueOf (wd yX2_valueOf cX2_valueOf 9 (some .long)) ({ frames := 3, cells := 0, slots := 0, locals := 66 }) (va_Pc [.ref (ad (20)), .ref (ad (110)), .ref (ad (w)), .int a0, .int a1, .int a2] (PM D A ad ns I L G)) (va_Ql (fun r u => ∃ I2 L2, u = (ad, ns, I2, L2, G) ∧ INV I2 ∧ Kp [] [] I I2) (BM D A) A) 0 0 A := by
  refine m_ofW (by decide) (Nat.le_of_ble_eq_true rfl) ?_
  intro p e s m below meth c ls args hC hE hM hA hS hl
  obtain ⟨hx, hb, hml, hown, hts, hr, hlocks, hin⟩ := hC
  have km14 : (-14 : Int32).toInt = -14 := by decide
  have k0 : (0 : Int32).toInt = 0 := by decide
  have k1 : (1 : Int32).toInt = 1 := by decide
  have k2 : (2 : Int32).toInt = 2 := by decide
  have k64 : (64 : Int32).toInt = 64 := by decide
  have kl0 : (0 : Int64).toInt = 0 := by decide
  have kl1 : (1 : Int64).toInt = 1 := by decide
  have hK : Kp [] [] I I := Kp.rf
  have hl : lv_has ls 9 [(0, .ref (ad (20))), (1, .ref (ad (110))), (2, .ref (ad (w))), (3, .int (a0)), (4, .int (a1)), (5, .int (a2))] := hl
  refine lv_iconst (v := (0)) hx hb dX2_valueOf_0 (by decide) ?_
  refine lv_istore (lv' := [(6, .int (0)), (0, .ref (ad (20))), (1, .ref (ad (110))), (2, .ref (ad (w))), (3, .int (a0)), (4, .int (a1)), (5, .int (a2))]) hx hb dX2_valueOf_1 hl (by decide) rfl (fun ls hl => ?_)
  refine lv_iload_n hx hb dX2_valueOf_3 rfl (lv_at hl 4 rfl) ?_
  refine lv_istore (lv' := [(7, .int (a0)), (6, .int (0)), (0, .ref (ad (20))), (1, .ref (ad (110))), (2, .ref (ad (w))), (3, .int (a0)), (4, .int (a1)), (5, .int (a2))]) hx hb dX2_valueOf_4 hl (by decide) rfl (fun ls hl => ?_)
  have loop6 : ∀ (n : Nat) (x7_6 : Int32) (x6_6 : Int32) (Ia6 : MI) (La6 : ML) (H : Heap) (locs : List Loc) (ls : Array Slot), INV Ia6 → Kp [] [] I Ia6 → (0 ≤ x7_6.toInt ∧ x7_6.toInt ≤ 400) → (0 ≤ x6_6.toInt ∧ x6_6.toInt ≤ 64) → (400 - x7_6.toInt).toNat < n → Mem D A ad ns Ia6 La6 G H → va_S A s.heap H locs → lv_has ls 9 [(7, .int (x7_6)), (6, .int (x6_6)), (0, .ref (ad (20))), (1, .ref (ad (110))), (2, .ref (ad (w))), (3, .int (a0)), (4, .int (a1)), (5, .int (a2))] → W p l e ({ frames := 3, cells := 0, slots := 0, locals := 66 } : Room) s m args below meth c H locs 0 0 (MQ below (va_Ql (fun r u => ∃ I2 L2, u = (ad, ns, I2, L2, G) ∧ INV I2 ∧ Kp [] [] I I2) (BM D A) A) args s 0 0 A) (F0 m 6 ls []) := by
    intro n
    induction n with
    | zero =>
      intro x7_6 x6_6 Ia6 La6 H locs ls hI hK hr7_6 hr6_6 hmu
      exact absurd hmu (Nat.not_lt_zero _)
    | succ n ih6 =>
      intro x7_6 x6_6 Ia6 La6 H locs ls hI hK hr7_6 hr6_6 hmu6 hM hS hl
      refine lv_iload hx hb dX2_valueOf_6 (lv_at hl 0 rfl) ?_
      refine lv_iload hx hb dX2_valueOf_8 (lv_at hl 6 rfl) ?_
      refine lv_icmp_ge (tgt := 150) hx hb dX2_valueOf_10 (by decide) (fun c1 => ?_) (fun c1 => ?_)
      · have hc1 := c1
        have q1 := q_le hc1
        refine lv_iload hx hb dX2_valueOf_150 (lv_at hl 1 rfl) ?_
        refine lv_iconst (v := (1)) hx hb dX2_valueOf_152 (by decide) ?_
        refine lv_icmp_lt (tgt := 165) hx hb dX2_valueOf_153 (by decide) (fun c2 => ?_) (fun c2 => ?_)
        · have hc2 := c2
          have q2 := q_lt hc2
          refine lv_lconst (v := 0) hx hb dX2_valueOf_165 (by decide) ?_
          exact m_lret hx hb hr hlocks hM hS (Nat.le_of_ble_eq_true rfl) (Nat.le_of_ble_eq_true rfl) ⟨_, _, rfl, hI, hK⟩ dX2_valueOf_166
        · have hc2 := c2
          have q2 := q_nlt hc2
          refine lv_aload_n hx hb dX2_valueOf_156 rfl (lv_at hl 2 rfl) ?_
          refine m_getr (20) 2 (22) hx hb hts hown hE oc2 hM (hG.1 20 (by decide)) rfl (by decide) rfl (hG.2 (20, 2, 22) (by decide)) (by decide) tb_187 dX2_valueOf_157 ?_
          refine lv_iconst (v := (0)) hx hb dX2_valueOf_160 (by decide) ?_
          refine m_lald (22) hx hb hE hM (hG.1 22 (by decide)) rfl (vp_in_iff.mpr (by decide)) dX2_valueOf_161 ?_
          rw [show (0 : Int32).toNatClampNeg = 0 from rfl]
          refine lv_goto (tgt := 166) hx hb dX2_valueOf_162 (by decide) ?_
          exact m_lret hx hb hr hlocks hM hS (Nat.le_of_ble_eq_true rfl) (Nat.le_of_ble_eq_true rfl) ⟨_, _, rfl, hI, hK⟩ dX2_valueOf_166
      · have hc1 := c1
        have q1 := q_nle hc1
        refine lv_aload_n hx hb dX2_valueOf_13 rfl (lv_at hl 4 rfl) ?_
        refine m_getr (w) 0 (w + 1) hx hb hts hown hE oc3 hM hW.l (kW _ hW.1).1 (by decide) rfl (hW.2.2 0 (by decide)) (by have := lbw hW.1; omega) tb_370 dX2_valueOf_14 ?_
        refine lv_iload hx hb dX2_valueOf_17 (lv_at hl 0 rfl) ?_
        refine m_iald (w + 1) hx hb hE hM (hW.2.1 1 (by decide)) (kW _ hW.1).2.1 (vp_in_iff.mpr (by omega)) dX2_valueOf_19 ?_
        refine lv_istore (lv' := [(8, .int (Ia6 (w + 1) (x7_6).toNatClampNeg)), (7, .int (x7_6)), (6, .int (x6_6)), (0, .ref (ad (20))), (1, .ref (ad (110))), (2, .ref (ad (w))), (3, .int (a0)), (4, .int (a1)), (5, .int (a2))]) hx hb dX2_valueOf_20 hl (by decide) rfl (fun ls hl => ?_)
        refine lv_iload hx hb dX2_valueOf_22 (lv_at hl 0 rfl) ?_
        refine lv_bipush (v := (-14)) hx hb dX2_valueOf_24 (by decide) ?_
        refine lv_icmp_le (tgt := 69) hx hb dX2_valueOf_26 (by decide) (fun c3 => ?_) (fun c3 => ?_)
        · have hc3 := c3
          have q3 := q_le hc3
          refine lv_iload hx hb dX2_valueOf_69 (lv_at hl 0 rfl) ?_
          refine lv_bipush (v := (-14)) hx hb dX2_valueOf_71 (by decide) ?_
          refine lv_icmp_ne (tgt := 105) hx hb dX2_valueOf_73 (by decide) (fun c4 => ?_) (fun c4 => ?_)
          · have hc4 := c4
            have q4 := q_ne hc4
            refine lv_iload hx hb dX2_valueOf_105 (lv_at hl 2 rfl) ?_
            refine lv_iconst (v := (2)) hx hb dX2_valueOf_107 (by decide) ?_
            refine lv_icmp_lt (tgt := 144) hx hb dX2_valueOf_108 (by decide) (fun c5 => ?_) (fun c5 => ?_)
            · have hc5 := c5
              have q5 := q_lt hc5
              obtain ⟨v6, ev6⟩ : ∃ z : Int32, z = x7_6 + Int32.ofInt (1) := ⟨_, rfl⟩
              have tv6 := a_inc ev6 (by decide) (by omega) (by omega)
              refine lv_iinc (v := v6) (lv' := [(7, .int (v6)), (8, .int (Ia6 (w + 1) (x7_6).toNatClampNeg)), (6, .int (x6_6)), (0, .ref (ad (20))), (1, .ref (ad (110))), (2, .ref (ad (w))), (3, .int (a0)), (4, .int (a1)), (5, .int (a2))]) hx hb dX2_valueOf_144 hl (k := 1) rfl ev6.symm (by decide) rfl (fun ls hl => ?_)
              refine lv_goto (tgt := 6) hx hb dX2_valueOf_147 (by decide) ?_
              exact ih6 (v6) (x6_6) Ia6 La6 _ _ ls hI hK (by first | omega | decide) (by first | omega | decide) (by omega) hM hS (lv_sub hl [0, 2, 3, 4, 5, 6, 7, 8] rfl)
            · have hc5 := c5
              have q5 := q_nlt hc5
              obtain ⟨v7, ev7⟩ : ∃ z : Int32, z = x6_6 + Int32.ofInt (-1) := ⟨_, rfl⟩
              have tv7 := a_inc ev7 (by decide) (by omega) (by omega)
              refine lv_iinc (v := v7) (lv' := [(6, .int (v7)), (8, .int (Ia6 (w + 1) (x7_6).toNatClampNeg)), (7, .int (x7_6)), (0, .ref (ad (20))), (1, .ref (ad (110))), (2, .ref (ad (w))), (3, .int (a0)), (4, .int (a1)), (5, .int (a2))]) hx hb dX2_valueOf_111 hl (k := 2) rfl ev7.symm (by decide) rfl (fun ls hl => ?_)
              refine lv_aload_n hx hb dX2_valueOf_114 rfl (lv_at hl 3 rfl) ?_
              refine m_getr (20) 2 (22) hx hb hts hown hE oc2 hM (hG.1 20 (by decide)) rfl (by decide) rfl (hG.2 (20, 2, 22) (by decide)) (by decide) tb_187 dX2_valueOf_115 ?_
              refine lv_iload hx hb dX2_valueOf_118 (lv_at hl 0 rfl) ?_
              refine lv_iconst (v := (1)) hx hb dX2_valueOf_120 (by decide) ?_
              refine lv_isub hx hb dX2_valueOf_121 ?_
              refine lv_topi (fun v8 ev8 => ?_)
              have tv8 := a_sub ev8 (by omega) (by omega)
              refine lv_iload hx hb dX2_valueOf_122 (lv_at hl 1 rfl) ?_
              refine lv_aload_n hx hb dX2_valueOf_124 rfl (lv_at hl 3 rfl) ?_
              refine m_getr (20) 2 (22) hx hb hts hown hE oc2 hM (hG.1 20 (by decide)) rfl (by decide) rfl (hG.2 (20, 2, 22) (by decide)) (by decide) tb_187 dX2_valueOf_125 ?_
              refine lv_iload hx hb dX2_valueOf_128 (lv_at hl 0 rfl) ?_
              refine lv_iconst (v := (1)) hx hb dX2_valueOf_130 (by decide) ?_
              refine lv_isub hx hb dX2_valueOf_131 ?_
              refine lv_topi (fun v9 ev9 => ?_)
              have tv9 := a_sub ev9 (by omega) (by omega)
              refine m_lald (22) hx hb hE hM (hG.1 22 (by decide)) rfl (vp_in_iff.mpr (by omega)) dX2_valueOf_132 ?_
              refine lv_aload_n hx hb dX2_valueOf_133 rfl (lv_at hl 3 rfl) ?_
              refine m_getr (20) 2 (22) hx hb hts hown hE oc2 hM (hG.1 20 (by decide)) rfl (by decide) rfl (hG.2 (20, 2, 22) (by decide)) (by decide) tb_187 dX2_valueOf_134 ?_
              refine lv_iload hx hb dX2_valueOf_137 (lv_at hl 0 rfl) ?_
              refine m_lald (22) hx hb hE hM (hG.1 22 (by decide)) rfl (vp_in_iff.mpr (by omega)) dX2_valueOf_139 ?_
              refine m_calll (m_runS (As := [.int (Ia6 (w + 1) (x7_6).toNatClampNeg), .long (La6 (22) (v9).toNatClampNeg), .long (La6 (22) (v7).toNatClampNeg)]) (rest := [.int (v8), .ref (ad (22))]) hx hb hml hown hts hE hM hS hA ce_X2_join tb_781 (V_X2_join l D A ad ns Ia6 La6 G (Ia6 (w + 1) (x7_6).toNatClampNeg) (La6 (22) (v9).toNatClampNeg) (La6 (22) (v7).toNatClampNeg) hI) rfl rfl ⟨Nat.le_of_ble_eq_true rfl, Nat.le_of_ble_eq_true rfl⟩  rfl hl.1 rfl (Nat.le_of_ble_eq_true rfl) dX2_valueOf_140 ⟨Nat.le_of_ble_eq_true rfl, Nat.le_of_ble_eq_true rfl⟩) hS (fun r10 u H locs hw hM hS => ?_)
              obtain ⟨rfl, xr10⟩ := hw
              have hM : Mem D A ad ns Ia6 La6 G H := hM
              refine m_last (22) hx hb hE hM hS (hG.1 22 (by decide)) rfl (vp_in_iff.mpr (by omega)) dX2_valueOf_143 (fun H locs L11 eL11 hM hS => ?_)
              obtain ⟨v12, ev12⟩ : ∃ z : Int32, z = x7_6 + Int32.ofInt (1) := ⟨_, rfl⟩
              have tv12 := a_inc ev12 (by decide) (by omega) (by omega)
              refine lv_iinc (v := v12) (lv' := [(7, .int (v12)), (6, .int (v7)), (8, .int (Ia6 (w + 1) (x7_6).toNatClampNeg)), (0, .ref (ad (20))), (1, .ref (ad (110))), (2, .ref (ad (w))), (3, .int (a0)), (4, .int (a1)), (5, .int (a2))]) hx hb dX2_valueOf_144 hl (k := 2) rfl ev12.symm (by decide) rfl (fun ls hl => ?_)
              refine lv_goto (tgt := 6) hx hb dX2_valueOf_147 (by decide) ?_
              exact ih6 (v12) (v7) Ia6 L11 _ _ ls hI hK (by first | omega | decide) (by first | omega | decide) (by omega) hM hS (lv_sub hl [0, 1, 3, 4, 5, 6, 7, 8] rfl)
          · have hc4 := c4
            have q4 := q_eq hc4
            refine lv_iload hx hb dX2_valueOf_76 (lv_at hl 2 rfl) ?_
            refine lv_iconst (v := (1)) hx hb dX2_valueOf_78 (by decide) ?_
            refine lv_icmp_lt (tgt := 105) hx hb dX2_valueOf_79 (by decide) (fun c13 => ?_) (fun c13 => ?_)
            · have hc13 := c13
              have q13 := q_lt hc13
              refine lv_iload hx hb dX2_valueOf_105 (lv_at hl 2 rfl) ?_
              refine lv_iconst (v := (2)) hx hb dX2_valueOf_107 (by decide) ?_
              refine lv_icmp_lt (tgt := 144) hx hb dX2_valueOf_108 (by decide) (fun c14 => ?_) (fun c14 => ?_)
              · have hc14 := c14
                have q14 := q_lt hc14
                obtain ⟨v15, ev15⟩ : ∃ z : Int32, z = x7_6 + Int32.ofInt (1) := ⟨_, rfl⟩
                have tv15 := a_inc ev15 (by decide) (by omega) (by omega)
                refine lv_iinc (v := v15) (lv' := [(7, .int (v15)), (8, .int (Ia6 (w + 1) (x7_6).toNatClampNeg)), (6, .int (x6_6)), (0, .ref (ad (20))), (1, .ref (ad (110))), (2, .ref (ad (w))), (3, .int (a0)), (4, .int (a1)), (5, .int (a2))]) hx hb dX2_valueOf_144 hl (k := 1) rfl ev15.symm (by decide) rfl (fun ls hl => ?_)
                refine lv_goto (tgt := 6) hx hb dX2_valueOf_147 (by decide) ?_
                exact ih6 (v15) (x6_6) Ia6 La6 _ _ ls hI hK (by first | omega | decide) (by first | omega | decide) (by omega) hM hS (lv_sub hl [0, 2, 3, 4, 5, 6, 7, 8] rfl)
              · have hc14 := c14
                have q14 := q_nlt hc14
                obtain ⟨v16, ev16⟩ : ∃ z : Int32, z = x6_6 + Int32.ofInt (-1) := ⟨_, rfl⟩
                have tv16 := a_inc ev16 (by decide) (by omega) (by omega)
                refine lv_iinc (v := v16) (lv' := [(6, .int (v16)), (8, .int (Ia6 (w + 1) (x7_6).toNatClampNeg)), (7, .int (x7_6)), (0, .ref (ad (20))), (1, .ref (ad (110))), (2, .ref (ad (w))), (3, .int (a0)), (4, .int (a1)), (5, .int (a2))]) hx hb dX2_valueOf_111 hl (k := 2) rfl ev16.symm (by decide) rfl (fun ls hl => ?_)
                refine lv_aload_n hx hb dX2_valueOf_114 rfl (lv_at hl 3 rfl) ?_
                refine m_getr (20) 2 (22) hx hb hts hown hE oc2 hM (hG.1 20 (by decide)) rfl (by decide) rfl (hG.2 (20, 2, 22) (by decide)) (by decide) tb_187 dX2_valueOf_115 ?_
                refine lv_iload hx hb dX2_valueOf_118 (lv_at hl 0 rfl) ?_
                refine lv_iconst (v := (1)) hx hb dX2_valueOf_120 (by decide) ?_
                refine lv_isub hx hb dX2_valueOf_121 ?_
                refine lv_topi (fun v17 ev17 => ?_)
                have tv17 := a_sub ev17 (by omega) (by omega)
                refine lv_iload hx hb dX2_valueOf_122 (lv_at hl 1 rfl) ?_
                refine lv_aload_n hx hb dX2_valueOf_124 rfl (lv_at hl 3 rfl) ?_
                refine m_getr (20) 2 (22) hx hb hts hown hE oc2 hM (hG.1 20 (by decide)) rfl (by decide) rfl (hG.2 (20, 2, 22) (by decide)) (by decide) tb_187 dX2_valueOf_125 ?_
                refine lv_iload hx hb dX2_valueOf_128 (lv_at hl 0 rfl) ?_
                refine lv_iconst (v := (1)) hx hb dX2_valueOf_130 (by decide) ?_
                refine lv_isub hx hb dX2_valueOf_131 ?_
                refine lv_topi (fun v18 ev18 => ?_)
                have tv18 := a_sub ev18 (by omega) (by omega)
                refine m_lald (22) hx hb hE hM (hG.1 22 (by decide)) rfl (vp_in_iff.mpr (by omega)) dX2_valueOf_132 ?_
                refine lv_aload_n hx hb dX2_valueOf_133 rfl (lv_at hl 3 rfl) ?_
                refine m_getr (20) 2 (22) hx hb hts hown hE oc2 hM (hG.1 20 (by decide)) rfl (by decide) rfl (hG.2 (20, 2, 22) (by decide)) (by decide) tb_187 dX2_valueOf_134 ?_
                refine lv_iload hx hb dX2_valueOf_137 (lv_at hl 0 rfl) ?_
                refine m_lald (22) hx hb hE hM (hG.1 22 (by decide)) rfl (vp_in_iff.mpr (by omega)) dX2_valueOf_139 ?_
                refine m_calll (m_runS (As := [.int (Ia6 (w + 1) (x7_6).toNatClampNeg), .long (La6 (22) (v18).toNatClampNeg), .long (La6 (22) (v16).toNatClampNeg)]) (rest := [.int (v17), .ref (ad (22))]) hx hb hml hown hts hE hM hS hA ce_X2_join tb_781 (V_X2_join l D A ad ns Ia6 La6 G (Ia6 (w + 1) (x7_6).toNatClampNeg) (La6 (22) (v18).toNatClampNeg) (La6 (22) (v16).toNatClampNeg) hI) rfl rfl ⟨Nat.le_of_ble_eq_true rfl, Nat.le_of_ble_eq_true rfl⟩  rfl hl.1 rfl (Nat.le_of_ble_eq_true rfl) dX2_valueOf_140 ⟨Nat.le_of_ble_eq_true rfl, Nat.le_of_ble_eq_true rfl⟩) hS (fun r19 u H locs hw hM hS => ?_)
                obtain ⟨rfl, xr19⟩ := hw
                have hM : Mem D A ad ns Ia6 La6 G H := hM
                refine m_last (22) hx hb hE hM hS (hG.1 22 (by decide)) rfl (vp_in_iff.mpr (by omega)) dX2_valueOf_143 (fun H locs L20 eL20 hM hS => ?_)
                obtain ⟨v21, ev21⟩ : ∃ z : Int32, z = x7_6 + Int32.ofInt (1) := ⟨_, rfl⟩
                have tv21 := a_inc ev21 (by decide) (by omega) (by omega)
                refine lv_iinc (v := v21) (lv' := [(7, .int (v21)), (6, .int (v16)), (8, .int (Ia6 (w + 1) (x7_6).toNatClampNeg)), (0, .ref (ad (20))), (1, .ref (ad (110))), (2, .ref (ad (w))), (3, .int (a0)), (4, .int (a1)), (5, .int (a2))]) hx hb dX2_valueOf_144 hl (k := 2) rfl ev21.symm (by decide) rfl (fun ls hl => ?_)
                refine lv_goto (tgt := 6) hx hb dX2_valueOf_147 (by decide) ?_
                exact ih6 (v21) (v16) Ia6 L20 _ _ ls hI hK (by first | omega | decide) (by first | omega | decide) (by omega) hM hS (lv_sub hl [0, 1, 3, 4, 5, 6, 7, 8] rfl)
            · have hc13 := c13
              have q13 := q_nlt hc13
              refine lv_aload_n hx hb dX2_valueOf_82 rfl (lv_at hl 3 rfl) ?_
              refine m_getr (20) 2 (22) hx hb hts hown hE oc2 hM (hG.1 20 (by decide)) rfl (by decide) rfl (hG.2 (20, 2, 22) (by decide)) (by decide) tb_187 dX2_valueOf_83 ?_
              refine lv_iload hx hb dX2_valueOf_86 (lv_at hl 2 rfl) ?_
              refine lv_iconst (v := (1)) hx hb dX2_valueOf_88 (by decide) ?_
              refine lv_isub hx hb dX2_valueOf_89 ?_
              refine lv_topi (fun v22 ev22 => ?_)
              have tv22 := a_sub ev22 (by omega) (by omega)
              refine lv_lconst (v := 1) hx hb dX2_valueOf_90 (by decide) ?_
              refine lv_aload_n hx hb dX2_valueOf_91 rfl (lv_at hl 3 rfl) ?_
              refine m_getr (20) 2 (22) hx hb hts hown hE oc2 hM (hG.1 20 (by decide)) rfl (by decide) rfl (hG.2 (20, 2, 22) (by decide)) (by decide) tb_187 dX2_valueOf_92 ?_
              refine lv_iload hx hb dX2_valueOf_95 (lv_at hl 2 rfl) ?_
              refine lv_iconst (v := (1)) hx hb dX2_valueOf_97 (by decide) ?_
              refine lv_isub hx hb dX2_valueOf_98 ?_
              refine lv_topi (fun v23 ev23 => ?_)
              have tv23 := a_sub ev23 (by omega) (by omega)
              refine m_lald (22) hx hb hE hM (hG.1 22 (by decide)) rfl (vp_in_iff.mpr (by omega)) dX2_valueOf_99 ?_
              refine lv_lsub hx hb dX2_valueOf_100 ?_
              refine lv_topl (fun v24 ev24 => ?_)
              refine m_last (22) hx hb hE hM hS (hG.1 22 (by decide)) rfl (vp_in_iff.mpr (by omega)) dX2_valueOf_101 (fun H locs L25 eL25 hM hS => ?_)
              refine lv_goto (tgt := 144) hx hb dX2_valueOf_102 (by decide) ?_
              obtain ⟨v26, ev26⟩ : ∃ z : Int32, z = x7_6 + Int32.ofInt (1) := ⟨_, rfl⟩
              have tv26 := a_inc ev26 (by decide) (by omega) (by omega)
              refine lv_iinc (v := v26) (lv' := [(7, .int (v26)), (8, .int (Ia6 (w + 1) (x7_6).toNatClampNeg)), (6, .int (x6_6)), (0, .ref (ad (20))), (1, .ref (ad (110))), (2, .ref (ad (w))), (3, .int (a0)), (4, .int (a1)), (5, .int (a2))]) hx hb dX2_valueOf_144 hl (k := 1) rfl ev26.symm (by decide) rfl (fun ls hl => ?_)
              refine lv_goto (tgt := 6) hx hb dX2_valueOf_147 (by decide) ?_
              exact ih6 (v26) (x6_6) Ia6 L25 _ _ ls hI hK (by first | omega | decide) (by first | omega | decide) (by omega) hM hS (lv_sub hl [0, 2, 3, 4, 5, 6, 7, 8] rfl)
        · have hc3 := c3
          have q3 := q_nle hc3
          refine lv_iload hx hb dX2_valueOf_29 (lv_at hl 2 rfl) ?_
          refine lv_bipush (v := (64)) hx hb dX2_valueOf_31 (by decide) ?_
          refine lv_icmp_ge (tgt := 69) hx hb dX2_valueOf_33 (by decide) (fun c27 => ?_) (fun c27 => ?_)
          · have hc27 := c27
            have q27 := q_le hc27
            refine lv_iload hx hb dX2_valueOf_69 (lv_at hl 0 rfl) ?_
            refine lv_bipush (v := (-14)) hx hb dX2_valueOf_71 (by decide) ?_
            refine lv_icmp_ne (tgt := 105) hx hb dX2_valueOf_73 (by decide) (fun c28 => ?_) (fun c28 => ?_)
            · have hc28 := c28
              have q28 := q_ne hc28
              refine lv_iload hx hb dX2_valueOf_105 (lv_at hl 2 rfl) ?_
              refine lv_iconst (v := (2)) hx hb dX2_valueOf_107 (by decide) ?_
              refine lv_icmp_lt (tgt := 144) hx hb dX2_valueOf_108 (by decide) (fun c29 => ?_) (fun c29 => ?_)
              · have hc29 := c29
                have q29 := q_lt hc29
                obtain ⟨v30, ev30⟩ : ∃ z : Int32, z = x7_6 + Int32.ofInt (1) := ⟨_, rfl⟩
                have tv30 := a_inc ev30 (by decide) (by omega) (by omega)
                refine lv_iinc (v := v30) (lv' := [(7, .int (v30)), (8, .int (Ia6 (w + 1) (x7_6).toNatClampNeg)), (6, .int (x6_6)), (0, .ref (ad (20))), (1, .ref (ad (110))), (2, .ref (ad (w))), (3, .int (a0)), (4, .int (a1)), (5, .int (a2))]) hx hb dX2_valueOf_144 hl (k := 1) rfl ev30.symm (by decide) rfl (fun ls hl => ?_)
                refine lv_goto (tgt := 6) hx hb dX2_valueOf_147 (by decide) ?_
                exact ih6 (v30) (x6_6) Ia6 La6 _ _ ls hI hK (by first | omega | decide) (by first | omega | decide) (by omega) hM hS (lv_sub hl [0, 2, 3, 4, 5, 6, 7, 8] rfl)
              · have hc29 := c29
                have q29 := q_nlt hc29
                obtain ⟨v31, ev31⟩ : ∃ z : Int32, z = x6_6 + Int32.ofInt (-1) := ⟨_, rfl⟩
                have tv31 := a_inc ev31 (by decide) (by omega) (by omega)
                refine lv_iinc (v := v31) (lv' := [(6, .int (v31)), (8, .int (Ia6 (w + 1) (x7_6).toNatClampNeg)), (7, .int (x7_6)), (0, .ref (ad (20))), (1, .ref (ad (110))), (2, .ref (ad (w))), (3, .int (a0)), (4, .int (a1)), (5, .int (a2))]) hx hb dX2_valueOf_111 hl (k := 2) rfl ev31.symm (by decide) rfl (fun ls hl => ?_)
                refine lv_aload_n hx hb dX2_valueOf_114 rfl (lv_at hl 3 rfl) ?_
                refine m_getr (20) 2 (22) hx hb hts hown hE oc2 hM (hG.1 20 (by decide)) rfl (by decide) rfl (hG.2 (20, 2, 22) (by decide)) (by decide) tb_187 dX2_valueOf_115 ?_
                refine lv_iload hx hb dX2_valueOf_118 (lv_at hl 0 rfl) ?_
                refine lv_iconst (v := (1)) hx hb dX2_valueOf_120 (by decide) ?_
                refine lv_isub hx hb dX2_valueOf_121 ?_
                refine lv_topi (fun v32 ev32 => ?_)
                have tv32 := a_sub ev32 (by omega) (by omega)
                refine lv_iload hx hb dX2_valueOf_122 (lv_at hl 1 rfl) ?_
                refine lv_aload_n hx hb dX2_valueOf_124 rfl (lv_at hl 3 rfl) ?_
                refine m_getr (20) 2 (22) hx hb hts hown hE oc2 hM (hG.1 20 (by decide)) rfl (by decide) rfl (hG.2 (20, 2, 22) (by decide)) (by decide) tb_187 dX2_valueOf_125 ?_
                refine lv_iload hx hb dX2_valueOf_128 (lv_at hl 0 rfl) ?_
                refine lv_iconst (v := (1)) hx hb dX2_valueOf_130 (by decide) ?_
                refine lv_isub hx hb dX2_valueOf_131 ?_
                refine lv_topi (fun v33 ev33 => ?_)
                have tv33 := a_sub ev33 (by omega) (by omega)
                refine m_lald (22) hx hb hE hM (hG.1 22 (by decide)) rfl (vp_in_iff.mpr (by omega)) dX2_valueOf_132 ?_
                refine lv_aload_n hx hb dX2_valueOf_133 rfl (lv_at hl 3 rfl) ?_
                refine m_getr (20) 2 (22) hx hb hts hown hE oc2 hM (hG.1 20 (by decide)) rfl (by decide) rfl (hG.2 (20, 2, 22) (by decide)) (by decide) tb_187 dX2_valueOf_134 ?_
                refine lv_iload hx hb dX2_valueOf_137 (lv_at hl 0 rfl) ?_
                refine m_lald (22) hx hb hE hM (hG.1 22 (by decide)) rfl (vp_in_iff.mpr (by omega)) dX2_valueOf_139 ?_
                refine m_calll (m_runS (As := [.int (Ia6 (w + 1) (x7_6).toNatClampNeg), .long (La6 (22) (v33).toNatClampNeg), .long (La6 (22) (v31).toNatClampNeg)]) (rest := [.int (v32), .ref (ad (22))]) hx hb hml hown hts hE hM hS hA ce_X2_join tb_781 (V_X2_join l D A ad ns Ia6 La6 G (Ia6 (w + 1) (x7_6).toNatClampNeg) (La6 (22) (v33).toNatClampNeg) (La6 (22) (v31).toNatClampNeg) hI) rfl rfl ⟨Nat.le_of_ble_eq_true rfl, Nat.le_of_ble_eq_true rfl⟩  rfl hl.1 rfl (Nat.le_of_ble_eq_true rfl) dX2_valueOf_140 ⟨Nat.le_of_ble_eq_true rfl, Nat.le_of_ble_eq_true rfl⟩) hS (fun r34 u H locs hw hM hS => ?_)
                obtain ⟨rfl, xr34⟩ := hw
                have hM : Mem D A ad ns Ia6 La6 G H := hM
                refine m_last (22) hx hb hE hM hS (hG.1 22 (by decide)) rfl (vp_in_iff.mpr (by omega)) dX2_valueOf_143 (fun H locs L35 eL35 hM hS => ?_)
                obtain ⟨v36, ev36⟩ : ∃ z : Int32, z = x7_6 + Int32.ofInt (1) := ⟨_, rfl⟩
                have tv36 := a_inc ev36 (by decide) (by omega) (by omega)
                refine lv_iinc (v := v36) (lv' := [(7, .int (v36)), (6, .int (v31)), (8, .int (Ia6 (w + 1) (x7_6).toNatClampNeg)), (0, .ref (ad (20))), (1, .ref (ad (110))), (2, .ref (ad (w))), (3, .int (a0)), (4, .int (a1)), (5, .int (a2))]) hx hb dX2_valueOf_144 hl (k := 2) rfl ev36.symm (by decide) rfl (fun ls hl => ?_)
                refine lv_goto (tgt := 6) hx hb dX2_valueOf_147 (by decide) ?_
                exact ih6 (v36) (v31) Ia6 L35 _ _ ls hI hK (by first | omega | decide) (by first | omega | decide) (by omega) hM hS (lv_sub hl [0, 1, 3, 4, 5, 6, 7, 8] rfl)
            · have hc28 := c28
              have q28 := q_eq hc28
              refine lv_iload hx hb dX2_valueOf_76 (lv_at hl 2 rfl) ?_
              refine lv_iconst (v := (1)) hx hb dX2_valueOf_78 (by decide) ?_
              refine lv_icmp_lt (tgt := 105) hx hb dX2_valueOf_79 (by decide) (fun c37 => ?_) (fun c37 => ?_)
              · have hc37 := c37
                have q37 := q_lt hc37
                refine lv_iload hx hb dX2_valueOf_105 (lv_at hl 2 rfl) ?_
                refine lv_iconst (v := (2)) hx hb dX2_valueOf_107 (by decide) ?_
                refine lv_icmp_lt (tgt := 144) hx hb dX2_valueOf_108 (by decide) (fun c38 => ?_) (fun c38 => ?_)
                · have hc38 := c38
                  have q38 := q_lt hc38
                  obtain ⟨v39, ev39⟩ : ∃ z : Int32, z = x7_6 + Int32.ofInt (1) := ⟨_, rfl⟩
                  have tv39 := a_inc ev39 (by decide) (by omega) (by omega)
                  refine lv_iinc (v := v39) (lv' := [(7, .int (v39)), (8, .int (Ia6 (w + 1) (x7_6).toNatClampNeg)), (6, .int (x6_6)), (0, .ref (ad (20))), (1, .ref (ad (110))), (2, .ref (ad (w))), (3, .int (a0)), (4, .int (a1)), (5, .int (a2))]) hx hb dX2_valueOf_144 hl (k := 1) rfl ev39.symm (by decide) rfl (fun ls hl => ?_)
                  refine lv_goto (tgt := 6) hx hb dX2_valueOf_147 (by decide) ?_
                  exact ih6 (v39) (x6_6) Ia6 La6 _ _ ls hI hK (by first | omega | decide) (by first | omega | decide) (by omega) hM hS (lv_sub hl [0, 2, 3, 4, 5, 6, 7, 8] rfl)
                · have hc38 := c38
                  have q38 := q_nlt hc38
                  obtain ⟨v40, ev40⟩ : ∃ z : Int32, z = x6_6 + Int32.ofInt (-1) := ⟨_, rfl⟩
                  have tv40 := a_inc ev40 (by decide) (by omega) (by omega)
                  refine lv_iinc (v := v40) (lv' := [(6, .int (v40)), (8, .int (Ia6 (w + 1) (x7_6).toNatClampNeg)), (7, .int (x7_6)), (0, .ref (ad (20))), (1, .ref (ad (110))), (2, .ref (ad (w))), (3, .int (a0)), (4, .int (a1)), (5, .int (a2))]) hx hb dX2_valueOf_111 hl (k := 2) rfl ev40.symm (by decide) rfl (fun ls hl => ?_)
                  refine lv_aload_n hx hb dX2_valueOf_114 rfl (lv_at hl 3 rfl) ?_
                  refine m_getr (20) 2 (22) hx hb hts hown hE oc2 hM (hG.1 20 (by decide)) rfl (by decide) rfl (hG.2 (20, 2, 22) (by decide)) (by decide) tb_187 dX2_valueOf_115 ?_
                  refine lv_iload hx hb dX2_valueOf_118 (lv_at hl 0 rfl) ?_
                  refine lv_iconst (v := (1)) hx hb dX2_valueOf_120 (by decide) ?_
                  refine lv_isub hx hb dX2_valueOf_121 ?_
                  refine lv_topi (fun v41 ev41 => ?_)
                  have tv41 := a_sub ev41 (by omega) (by omega)
                  refine lv_iload hx hb dX2_valueOf_122 (lv_at hl 1 rfl) ?_
                  refine lv_aload_n hx hb dX2_valueOf_124 rfl (lv_at hl 3 rfl) ?_
                  refine m_getr (20) 2 (22) hx hb hts hown hE oc2 hM (hG.1 20 (by decide)) rfl (by decide) rfl (hG.2 (20, 2, 22) (by decide)) (by decide) tb_187 dX2_valueOf_125 ?_
                  refine lv_iload hx hb dX2_valueOf_128 (lv_at hl 0 rfl) ?_
                  refine lv_iconst (v := (1)) hx hb dX2_valueOf_130 (by decide) ?_
                  refine lv_isub hx hb dX2_valueOf_131 ?_
                  refine lv_topi (fun v42 ev42 => ?_)
                  have tv42 := a_sub ev42 (by omega) (by omega)
                  refine m_lald (22) hx hb hE hM (hG.1 22 (by decide)) rfl (vp_in_iff.mpr (by omega)) dX2_valueOf_132 ?_
                  refine lv_aload_n hx hb dX2_valueOf_133 rfl (lv_at hl 3 rfl) ?_
                  refine m_getr (20) 2 (22) hx hb hts hown hE oc2 hM (hG.1 20 (by decide)) rfl (by decide) rfl (hG.2 (20, 2, 22) (by decide)) (by decide) tb_187 dX2_valueOf_134 ?_
                  refine lv_iload hx hb dX2_valueOf_137 (lv_at hl 0 rfl) ?_
                  refine m_lald (22) hx hb hE hM (hG.1 22 (by decide)) rfl (vp_in_iff.mpr (by omega)) dX2_valueOf_139 ?_
                  refine m_calll (m_runS (As := [.int (Ia6 (w + 1) (x7_6).toNatClampNeg), .long (La6 (22) (v42).toNatClampNeg), .long (La6 (22) (v40).toNatClampNeg)]) (rest := [.int (v41), .ref (ad (22))]) hx hb hml hown hts hE hM hS hA ce_X2_join tb_781 (V_X2_join l D A ad ns Ia6 La6 G (Ia6 (w + 1) (x7_6).toNatClampNeg) (La6 (22) (v42).toNatClampNeg) (La6 (22) (v40).toNatClampNeg) hI) rfl rfl ⟨Nat.le_of_ble_eq_true rfl, Nat.le_of_ble_eq_true rfl⟩  rfl hl.1 rfl (Nat.le_of_ble_eq_true rfl) dX2_valueOf_140 ⟨Nat.le_of_ble_eq_true rfl, Nat.le_of_ble_eq_true rfl⟩) hS (fun r43 u H locs hw hM hS => ?_)
                  obtain ⟨rfl, xr43⟩ := hw
                  have hM : Mem D A ad ns Ia6 La6 G H := hM
                  refine m_last (22) hx hb hE hM hS (hG.1 22 (by decide)) rfl (vp_in_iff.mpr (by omega)) dX2_valueOf_143 (fun H locs L44 eL44 hM hS => ?_)
                  obtain ⟨v45, ev45⟩ : ∃ z : Int32, z = x7_6 + Int32.ofInt (1) := ⟨_, rfl⟩
                  have tv45 := a_inc ev45 (by decide) (by omega) (by omega)
                  refine lv_iinc (v := v45) (lv' := [(7, .int (v45)), (6, .int (v40)), (8, .int (Ia6 (w + 1) (x7_6).toNatClampNeg)), (0, .ref (ad (20))), (1, .ref (ad (110))), (2, .ref (ad (w))), (3, .int (a0)), (4, .int (a1)), (5, .int (a2))]) hx hb dX2_valueOf_144 hl (k := 2) rfl ev45.symm (by decide) rfl (fun ls hl => ?_)
                  refine lv_goto (tgt := 6) hx hb dX2_valueOf_147 (by decide) ?_
                  exact ih6 (v45) (v40) Ia6 L44 _ _ ls hI hK (by first | omega | decide) (by first | omega | decide) (by omega) hM hS (lv_sub hl [0, 1, 3, 4, 5, 6, 7, 8] rfl)
              · have hc37 := c37
                have q37 := q_nlt hc37
                refine lv_aload_n hx hb dX2_valueOf_82 rfl (lv_at hl 3 rfl) ?_
                refine m_getr (20) 2 (22) hx hb hts hown hE oc2 hM (hG.1 20 (by decide)) rfl (by decide) rfl (hG.2 (20, 2, 22) (by decide)) (by decide) tb_187 dX2_valueOf_83 ?_
                refine lv_iload hx hb dX2_valueOf_86 (lv_at hl 2 rfl) ?_
                refine lv_iconst (v := (1)) hx hb dX2_valueOf_88 (by decide) ?_
                refine lv_isub hx hb dX2_valueOf_89 ?_
                refine lv_topi (fun v46 ev46 => ?_)
                have tv46 := a_sub ev46 (by omega) (by omega)
                refine lv_lconst (v := 1) hx hb dX2_valueOf_90 (by decide) ?_
                refine lv_aload_n hx hb dX2_valueOf_91 rfl (lv_at hl 3 rfl) ?_
                refine m_getr (20) 2 (22) hx hb hts hown hE oc2 hM (hG.1 20 (by decide)) rfl (by decide) rfl (hG.2 (20, 2, 22) (by decide)) (by decide) tb_187 dX2_valueOf_92 ?_
                refine lv_iload hx hb dX2_valueOf_95 (lv_at hl 2 rfl) ?_
                refine lv_iconst (v := (1)) hx hb dX2_valueOf_97 (by decide) ?_
                refine lv_isub hx hb dX2_valueOf_98 ?_
                refine lv_topi (fun v47 ev47 => ?_)
                have tv47 := a_sub ev47 (by omega) (by omega)
                refine m_lald (22) hx hb hE hM (hG.1 22 (by decide)) rfl (vp_in_iff.mpr (by omega)) dX2_valueOf_99 ?_
                refine lv_lsub hx hb dX2_valueOf_100 ?_
                refine lv_topl (fun v48 ev48 => ?_)
                refine m_last (22) hx hb hE hM hS (hG.1 22 (by decide)) rfl (vp_in_iff.mpr (by omega)) dX2_valueOf_101 (fun H locs L49 eL49 hM hS => ?_)
                refine lv_goto (tgt := 144) hx hb dX2_valueOf_102 (by decide) ?_
                obtain ⟨v50, ev50⟩ : ∃ z : Int32, z = x7_6 + Int32.ofInt (1) := ⟨_, rfl⟩
                have tv50 := a_inc ev50 (by decide) (by omega) (by omega)
                refine lv_iinc (v := v50) (lv' := [(7, .int (v50)), (8, .int (Ia6 (w + 1) (x7_6).toNatClampNeg)), (6, .int (x6_6)), (0, .ref (ad (20))), (1, .ref (ad (110))), (2, .ref (ad (w))), (3, .int (a0)), (4, .int (a1)), (5, .int (a2))]) hx hb dX2_valueOf_144 hl (k := 1) rfl ev50.symm (by decide) rfl (fun ls hl => ?_)
                refine lv_goto (tgt := 6) hx hb dX2_valueOf_147 (by decide) ?_
                exact ih6 (v50) (x6_6) Ia6 L49 _ _ ls hI hK (by first | omega | decide) (by first | omega | decide) (by omega) hM hS (lv_sub hl [0, 2, 3, 4, 5, 6, 7, 8] rfl)
          · have hc27 := c27
            have q27 := q_nle hc27
            refine lv_aload_n hx hb dX2_valueOf_36 rfl (lv_at hl 3 rfl) ?_
            refine m_getr (20) 2 (22) hx hb hts hown hE oc2 hM (hG.1 20 (by decide)) rfl (by decide) rfl (hG.2 (20, 2, 22) (by decide)) (by decide) tb_187 dX2_valueOf_37 ?_
            refine lv_iload hx hb dX2_valueOf_40 (lv_at hl 2 rfl) ?_
            refine lv_iload hx hb dX2_valueOf_42 (lv_at hl 0 rfl) ?_
            refine lv_if_lt (tgt := 53) hx hb dX2_valueOf_44 (by decide) (fun c51 => ?_) (fun c51 => ?_)
            · have hc51 := c51
              have q51 := q_lt hc51
              refine lv_aload_n hx hb dX2_valueOf_53 rfl (lv_at hl 3 rfl) ?_
              refine lv_aload_n hx hb dX2_valueOf_54 rfl (lv_at hl 4 rfl) ?_
              refine lv_iload hx hb dX2_valueOf_55 (lv_at hl 0 rfl) ?_
              refine lv_iload hx hb dX2_valueOf_57 (lv_at hl 8 rfl) ?_
              refine m_calll (m_runV (20) (As := [.ref (ad (110)), .int (Ia6 (w + 1) (x7_6).toNatClampNeg), .int (a2)]) (rest := [.int (x6_6), .ref (ad (22))]) hx hb hml hown hts hE hM hS hA ce_X2_wordValue tb_762 (V_X2_wordValue_110 l D A ad ns Ia6 La6 G (Ia6 (w + 1) (x7_6).toNatClampNeg) (a2) hG hI (by first | omega | decide)) rfl rfl ⟨Nat.le_of_ble_eq_true rfl, Nat.le_of_ble_eq_true rfl⟩ (hG.1 20 (by decide)) rfl rfl (by decide) rfl hl.1 rfl (Nat.le_of_ble_eq_true rfl) dX2_valueOf_59 ⟨Nat.le_of_ble_eq_true rfl, Nat.le_of_ble_eq_true rfl⟩) hS (fun r52 u H locs hw hM hS => ?_)
              obtain ⟨rfl, xr52⟩ := hw
              have hM : Mem D A ad ns Ia6 La6 G H := hM
              refine m_last (22) hx hb hE hM hS (hG.1 22 (by decide)) rfl (vp_in_iff.mpr (by omega)) dX2_valueOf_62 (fun H locs L53 eL53 hM hS => ?_)
              obtain ⟨v54, ev54⟩ : ∃ z : Int32, z = x6_6 + Int32.ofInt (1) := ⟨_, rfl⟩
              have tv54 := a_inc ev54 (by decide) (by omega) (by omega)
              refine lv_iinc (v := v54) (lv' := [(6, .int (v54)), (8, .int (Ia6 (w + 1) (x7_6).toNatClampNeg)), (7, .int (x7_6)), (0, .ref (ad (20))), (1, .ref (ad (110))), (2, .ref (ad (w))), (3, .int (a0)), (4, .int (a1)), (5, .int (a2))]) hx hb dX2_valueOf_63 hl (k := 2) rfl ev54.symm (by decide) rfl (fun ls hl => ?_)
              refine lv_goto (tgt := 144) hx hb dX2_valueOf_66 (by decide) ?_
              obtain ⟨v55, ev55⟩ : ∃ z : Int32, z = x7_6 + Int32.ofInt (1) := ⟨_, rfl⟩
              have tv55 := a_inc ev55 (by decide) (by omega) (by omega)
              refine lv_iinc (v := v55) (lv' := [(7, .int (v55)), (6, .int (v54)), (8, .int (Ia6 (w + 1) (x7_6).toNatClampNeg)), (0, .ref (ad (20))), (1, .ref (ad (110))), (2, .ref (ad (w))), (3, .int (a0)), (4, .int (a1)), (5, .int (a2))]) hx hb dX2_valueOf_144 hl (k := 2) rfl ev55.symm (by decide) rfl (fun ls hl => ?_)
              refine lv_goto (tgt := 6) hx hb dX2_valueOf_147 (by decide) ?_
              exact ih6 (v55) (v54) Ia6 L53 _ _ ls hI hK (by first | omega | decide) (by first | omega | decide) (by omega) hM hS (lv_sub hl [0, 1, 3, 4, 5, 6, 7, 8] rfl)
            · have hc51 := c51
              have q51 := q_nlt hc51
              refine lv_iload hx hb dX2_valueOf_47 (lv_at hl 0 rfl) ?_
              refine lv_i2l hx hb dX2_valueOf_49 rfl ?_
              refine lv_topl (fun v56 ev56 => ?_)
              have tv56 := q_i2l ev56
              refine lv_goto (tgt := 62) hx hb dX2_valueOf_50 (by decide) ?_
              refine m_last (22) hx hb hE hM hS (hG.1 22 (by decide)) rfl (vp_in_iff.mpr (by omega)) dX2_valueOf_62 (fun H locs L57 eL57 hM hS => ?_)
              obtain ⟨v58, ev58⟩ : ∃ z : Int32, z = x6_6 + Int32.ofInt (1) := ⟨_, rfl⟩
              have tv58 := a_inc ev58 (by decide) (by omega) (by omega)
              refine lv_iinc (v := v58) (lv' := [(6, .int (v58)), (8, .int (Ia6 (w + 1) (x7_6).toNatClampNeg)), (7, .int (x7_6)), (0, .ref (ad (20))), (1, .ref (ad (110))), (2, .ref (ad (w))), (3, .int (a0)), (4, .int (a1)), (5, .int (a2))]) hx hb dX2_valueOf_63 hl (k := 2) rfl ev58.symm (by decide) rfl (fun ls hl => ?_)
              refine lv_goto (tgt := 144) hx hb dX2_valueOf_66 (by decide) ?_
              obtain ⟨v59, ev59⟩ : ∃ z : Int32, z = x7_6 + Int32.ofInt (1) := ⟨_, rfl⟩
              have tv59 := a_inc ev59 (by decide) (by omega) (by omega)
              refine lv_iinc (v := v59) (lv' := [(7, .int (v59)), (6, .int (v58)), (8, .int (Ia6 (w + 1) (x7_6).toNatClampNeg)), (0, .ref (ad (20))), (1, .ref (ad (110))), (2, .ref (ad (w))), (3, .int (a0)), (4, .int (a1)), (5, .int (a2))]) hx hb dX2_valueOf_144 hl (k := 2) rfl ev59.symm (by decide) rfl (fun ls hl => ?_)
              refine lv_goto (tgt := 6) hx hb dX2_valueOf_147 (by decide) ?_
              exact ih6 (v59) (v58) Ia6 L57 _ _ ls hI hK (by first | omega | decide) (by first | omega | decide) (by omega) hM hS (lv_sub hl [0, 1, 3, 4, 5, 6, 7, 8] rfl)
  exact loop6 (_ + 1) (a0) (0) I L _ _ ls hI hK (by first | omega | decide) (by first | omega | decide) (Nat.lt_succ_self _) hM hS (lv_sub hl [0, 1, 2, 3, 4, 5, 6, 7] rfl)
set_option maxHeartbeats 4000000 in
set_option maxRecDepth 20000 in
theorem V_X2_holds_110 (l : Launch) (D : va_G) (A : Nat → Prop) (ad : Nat → Nat) (ns : List Nat) (I : MI) (L : ML) (G : MG) (w : Nat) (a0 : Int32) (hG : SGC ns G) (hI : INV I) (hW : LOK ns G w) (hmm : 0 ≤ (I (w + 2) a0.toNatClampNeg).toInt ∧ (I (w + 2) a0.toNatClampNeg).toInt < 24) (ha0 : 0 ≤ a0.toInt ∧ a0.toInt ≤ 11) : Met l yX2_holds (wd yX2_holds cX2_holds 6 (some .boolean)) ({ frames := 4, cells := 0, slots := 0, locals := 94 }) (va_Pc [.ref (ad (20)), .ref (ad (110)), .ref (ad (w)), .int a0] (PM D A ad ns I L G)) (va_Qi (fun r u => ∃ I2 L2, u = (ad, ns, I2, L2, G) ∧ INV I2 ∧ Kp [] [] I I2 ∧ (0 ≤ r.toInt ∧ r.toInt ≤ 1)) (BM D A) A) 0 0 A := by
  refine m_ofW (by decide) (Nat.le_of_ble_eq_true rfl) ?_
  intro p e s m below meth c ls args hC hE hM hA hS hl
  obtain ⟨hx, hb, hml, hown, hts, hr, hlocks, hin⟩ := hC
  have k0 : (0 : Int32).toInt = 0 := by decide
  have k1 : (1 : Int32).toInt = 1 := by decide
  have kl0 : (0 : Int64).toInt = 0 := by decide
  have hK : Kp [] [] I I := Kp.rf
  have hl : lv_has ls 6 [(0, .ref (ad (20))), (1, .ref (ad (110))), (2, .ref (ad (w))), (3, .int (a0))] := hl
  refine lv_aload_n hx hb dX2_holds_0 rfl (lv_at hl 2 rfl) ?_
  refine m_getr (w) 3 (w + 4) hx hb hts hown hE oc3 hM hW.l (kW _ hW.1).1 (by decide) rfl (hW.2.2 3 (by decide)) (by have := lbw hW.1; omega) tb_376 dX2_holds_1 ?_
  refine lv_iload_n hx hb dX2_holds_4 rfl (lv_at hl 3 rfl) ?_
  refine m_iald (w + 4) hx hb hE hM (hW.2.1 4 (by decide)) (kW _ hW.1).2.2.2.2.1 (vp_in_iff.mpr (by omega)) dX2_holds_5 ?_
  have g1 := hI.get (w + 4) ((a0).toNatClampNeg) (lo := 0) (hi := 400) (rgw4 hW.1 _)
  refine lv_istore (lv' := [(4, .int (I (w + 4) (a0).toNatClampNeg)), (0, .ref (ad (20))), (1, .ref (ad (110))), (2, .ref (ad (w))), (3, .int (a0))]) hx hb dX2_holds_6 hl (by decide) rfl (fun ls hl => ?_)
  refine lv_aload_n hx hb dX2_holds_8 rfl (lv_at hl 3 rfl) ?_
  refine m_getr (w) 4 (w + 5) hx hb hts hown hE oc3 hM hW.l (kW _ hW.1).1 (by decide) rfl (hW.2.2 4 (by decide)) (by have := lbw hW.1; omega) tb_378 dX2_holds_9 ?_
  refine lv_iload_n hx hb dX2_holds_12 rfl (lv_at hl 4 rfl) ?_
  refine m_iald (w + 5) hx hb hE hM (hW.2.1 5 (by decide)) (kW _ hW.1).2.2.2.2.2.1 (vp_in_iff.mpr (by omega)) dX2_holds_13 ?_
  have g2 := hI.get (w + 5) ((a0).toNatClampNeg) (lo := 0) (hi := 400) (rgw5 hW.1 _)
  refine lv_istore (lv' := [(5, .int (I (w + 5) (a0).toNatClampNeg)), (4, .int (I (w + 4) (a0).toNatClampNeg)), (0, .ref (ad (20))), (1, .ref (ad (110))), (2, .ref (ad (w))), (3, .int (a0))]) hx hb dX2_holds_14 hl (by decide) rfl (fun ls hl => ?_)
  refine lv_iload hx hb dX2_holds_16 (lv_at hl 1 rfl) ?_
  refine lv_iload hx hb dX2_holds_18 (lv_at hl 0 rfl) ?_
  refine lv_icmp_eq (tgt := 44) hx hb dX2_holds_20 (by decide) (fun c3 => ?_) (fun c3 => ?_)
  · have hc3 := c3
    have q3 := q_eq hc3
    refine lv_iconst (v := (1)) hx hb dX2_holds_44 (by decide) ?_
    refine lv_goto (tgt := 49) hx hb dX2_holds_45 (by decide) ?_
    exact m_zret hx hb hr rfl hlocks hM hS (Nat.le_of_ble_eq_true rfl) (Nat.le_of_ble_eq_true rfl) ⟨_, _, rfl, hI, hK, (by first | omega | decide)⟩ dX2_holds_49
  · have hc3 := c3
    have q3 := q_ne hc3
    refine lv_aload_n hx hb dX2_holds_23 rfl (lv_at hl 2 rfl) ?_
    refine lv_aload_n hx hb dX2_holds_24 rfl (lv_at hl 3 rfl) ?_
    refine lv_aload_n hx hb dX2_holds_25 rfl (lv_at hl 4 rfl) ?_
    refine lv_iload hx hb dX2_holds_26 (lv_at hl 1 rfl) ?_
    refine lv_iload hx hb dX2_holds_28 (lv_at hl 0 rfl) ?_
    refine lv_aload_n hx hb dX2_holds_30 rfl (lv_at hl 4 rfl) ?_
    refine m_getr (w) 1 (w + 2) hx hb hts hown hE oc3 hM hW.l (kW _ hW.1).1 (by decide) rfl (hW.2.2 1 (by decide)) (by have := lbw hW.1; omega) tb_372 dX2_holds_31 ?_
    refine lv_iload_n hx hb dX2_holds_34 rfl (lv_at hl 5 rfl) ?_
    refine m_iald (w + 2) hx hb hE hM (hW.2.1 2 (by decide)) (kW _ hW.1).2.2.1 (vp_in_iff.mpr (by omega)) dX2_holds_35 ?_
    refine m_calll (m_runV (20) (As := [.ref (ad (110)), .ref (ad (w)), .int (I (w + 4) (a0).toNatClampNeg), .int (I (w + 5) (a0).toNatClampNeg), .int (I (w + 2) (a0).toNatClampNeg)]) (rest := []) hx hb hml hown hts hE hM hS hA ce_X2_valueOf tb_758 (V_X2_valueOf_110 l D A ad ns I L G (w) (I (w + 4) (a0).toNatClampNeg) (I (w + 5) (a0).toNatClampNeg) (I (w + 2) (a0).toNatClampNeg) hG hI hW (by first | omega | decide) (by first | omega | decide) (by first | omega | decide)) rfl rfl ⟨Nat.le_of_ble_eq_true rfl, Nat.le_of_ble_eq_true rfl⟩ (hG.1 20 (by decide)) rfl rfl (by decide) rfl hl.1 rfl (Nat.le_of_ble_eq_true rfl) dX2_holds_36 ⟨Nat.le_of_ble_eq_true rfl, Nat.le_of_ble_eq_true rfl⟩) hS (fun r4 u H locs hw hM hS => ?_)
    obtain ⟨I5, L6, rfl, hI, hkI5⟩ := hw
    have hM : Mem D A ad ns I5 L6 G H := hM
    have hK := hK.trans hkI5 rfl
    refine lv_lconst (v := 0) hx hb dX2_holds_39 (by decide) ?_
    refine W.lcmp hx hb dX2_holds_40 ?_
    refine lv_if_eq (tgt := 48) hx hb dX2_holds_41 (by decide) (fun c7 => ?_) (fun c7 => ?_)
    · have hc7 := c7
      have q7 := l_eq hc7
      refine lv_iconst (v := (0)) hx hb dX2_holds_48 (by decide) ?_
      exact m_zret hx hb hr rfl hlocks hM hS (Nat.le_of_ble_eq_true rfl) (Nat.le_of_ble_eq_true rfl) ⟨_, _, rfl, hI, hK, (by first | omega | decide)⟩ dX2_holds_49
    · have hc7 := c7
      have q7 := l_ne hc7
      refine lv_iconst (v := (1)) hx hb dX2_holds_44 (by decide) ?_
      refine lv_goto (tgt := 49) hx hb dX2_holds_45 (by decide) ?_
      exact m_zret hx hb hr rfl hlocks hM hS (Nat.le_of_ble_eq_true rfl) (Nat.le_of_ble_eq_true rfl) ⟨_, _, rfl, hI, hK, (by first | omega | decide)⟩ dX2_holds_49
set_option maxHeartbeats 4000000 in
set_option maxRecDepth 20000 in
theorem V_X2_turnMirrors_110 (l : Launch) (D : va_G) (A : Nat → Prop) (ad : Nat → Nat) (ns : List Nat) (I : MI) (L : ML) (G : MG) (w : Nat) (hG : SGC ns G) (hI : INV I) (hW : LOK ns G w) : Met l yX2_turnMirrors (wd yX2_turnMirrors cX2_turnMirrors 8 none) ({ frames := 5, cells := 0, slots := 0, locals := 119 }) (va_Pc [.ref (ad (20)), .ref (ad (110)), .ref (ad (w))] (PM D A ad ns I L G)) (va_Qv (fun u => ∃ I2 L2, u = (ad, ns, I2, L2, G) ∧ INV I2 ∧ Kp [(117, 118)] [] I I2) (BM D A) A) 0 0 A := by
  refine m_ofW (by decide) (Nat.le_of_ble_eq_true rfl) ?_
  intro p e s m below meth c ls args hC hE hM hA hS hl
  obtain ⟨hx, hb, hml, hown, hts, hr, hlocks, hin⟩ := hC
  have k0 : (0 : Int32).toInt = 0 := by decide
  have k1 : (1 : Int32).toInt = 1 := by decide
  have kl7 : (7 : Int64).toInt = 7 := by decide
  have hK : Kp [(117, 118)] [] I I := Kp.rf
  have hl : lv_has ls 8 [(0, .ref (ad (20))), (1, .ref (ad (110))), (2, .ref (ad (w)))] := hl
  refine lv_iconst (v := (0)) hx hb dX2_turnMirrors_0 (by decide) ?_
  refine lv_istore_n (lv' := [(3, .int (0)), (0, .ref (ad (20))), (1, .ref (ad (110))), (2, .ref (ad (w)))]) hx hb dX2_turnMirrors_1 rfl hl (by decide) rfl (fun ls hl => ?_)
  refine lv_iconst (v := (0)) hx hb dX2_turnMirrors_2 (by decide) ?_
  refine lv_istore (lv' := [(4, .int (0)), (3, .int (0)), (0, .ref (ad (20))), (1, .ref (ad (110))), (2, .ref (ad (w)))]) hx hb dX2_turnMirrors_3 hl (by decide) rfl (fun ls hl => ?_)
  have loop5 : ∀ (n : Nat) (x4_5 : Int32) (x3_5 : Int32) (Ia5 : MI) (La5 : ML) (H : Heap) (locs : List Loc) (ls : Array Slot), INV Ia5 → Kp [(117, 118)] [] I Ia5 → (0 ≤ x4_5.toInt ∧ x4_5.toInt ≤ 12) → (12 - x4_5.toInt).toNat < n → Mem D A ad ns Ia5 La5 G H → va_S A s.heap H locs → lv_has ls 8 [(4, .int (x4_5)), (3, .int (x3_5)), (0, .ref (ad (20))), (1, .ref (ad (110))), (2, .ref (ad (w)))] → W p l e ({ frames := 5, cells := 0, slots := 0, locals := 119 } : Room) s m args below meth c H locs 0 0 (MQ below (va_Qv (fun u => ∃ I2 L2, u = (ad, ns, I2, L2, G) ∧ INV I2 ∧ Kp [(117, 118)] [] I I2) (BM D A) A) args s 0 0 A) (F0 m 5 ls []) := by
    intro n
    induction n with
    | zero =>
      intro x4_5 x3_5 Ia5 La5 H locs ls hI hK hr4_5 hmu
      exact absurd hmu (Nat.not_lt_zero _)
    | succ n ih5 =>
      intro x4_5 x3_5 Ia5 La5 H locs ls hI hK hr4_5 hmu5 hM hS hl
      refine lv_iload hx hb dX2_turnMirrors_5 (lv_at hl 0 rfl) ?_
      refine lv_aload_n hx hb dX2_turnMirrors_7 rfl (lv_at hl 4 rfl) ?_
      refine m_geti (w) 5 hx hb hts hown hE oc3 hM hW.l (kW _ hW.1).1 (by decide) rfl tb_380 dX2_turnMirrors_8 ?_
      have g1 := hI.get (w) 5 (lo := 0) (hi := 12) (rgw0 hW.1).1
      refine lv_icmp_ge (tgt := 102) hx hb dX2_turnMirrors_11 (by decide) (fun c2 => ?_) (fun c2 => ?_)
      · have hc2 := c2
        have q2 := q_le hc2
        exact m_vret hx hb hr hlocks hM hS (Nat.le_of_ble_eq_true rfl) (Nat.le_of_ble_eq_true rfl) ⟨_, _, rfl, hI, hK⟩ dX2_turnMirrors_102
      · have hc2 := c2
        have q2 := q_nle hc2
        refine lv_aload_n hx hb dX2_turnMirrors_14 rfl (lv_at hl 4 rfl) ?_
        refine m_getr (w) 1 (w + 2) hx hb hts hown hE oc3 hM hW.l (kW _ hW.1).1 (by decide) rfl (hW.2.2 1 (by decide)) (by have := lbw hW.1; omega) tb_372 dX2_turnMirrors_15 ?_
        refine lv_iload hx hb dX2_turnMirrors_18 (lv_at hl 0 rfl) ?_
        refine m_iald (w + 2) hx hb hE hM (hW.2.1 2 (by decide)) (kW _ hW.1).2.2.1 (vp_in_iff.mpr (by omega)) dX2_turnMirrors_20 ?_
        refine lv_istore (lv' := [(5, .int (Ia5 (w + 2) (x4_5).toNatClampNeg)), (4, .int (x4_5)), (3, .int (x3_5)), (0, .ref (ad (20))), (1, .ref (ad (110))), (2, .ref (ad (w)))]) hx hb dX2_turnMirrors_21 hl (by decide) rfl (fun ls hl => ?_)
        refine lv_aload_n hx hb dX2_turnMirrors_23 rfl (lv_at hl 4 rfl) ?_
        refine lv_iload hx hb dX2_turnMirrors_24 (lv_at hl 0 rfl) ?_
        refine m_calli (m_runV (110) (As := [.int (Ia5 (w + 2) (x4_5).toNatClampNeg)]) (rest := []) hx hb hml hown hts hE hM hS hA ce_X8_hasMirror tb_753 (V_X8_hasMirror_110 l D A ad ns Ia5 La5 G (Ia5 (w + 2) (x4_5).toNatClampNeg) hG hI) rfl rfl ⟨Nat.le_of_ble_eq_true rfl, Nat.le_of_ble_eq_true rfl⟩ (hG.1 110 (by decide)) rfl rfl (by decide) rfl hl.1 rfl (Nat.le_of_ble_eq_true rfl) dX2_turnMirrors_26 ⟨Nat.le_of_ble_eq_true rfl, Nat.le_of_ble_eq_true rfl⟩) hS (fun r3 u H locs hw hM hS => ?_)
        obtain ⟨rfl, xr3⟩ := hw
        have hM : Mem D A ad ns Ia5 La5 G H := hM
        have yr3 := bo01 xr3
        have g4 := hI.get 110 8 (lo := 0) (hi := 24) rfl
        refine lv_if_eq (tgt := 96) hx hb dX2_turnMirrors_29 (by decide) (fun c5 => ?_) (fun c5 => ?_)
        · have hc5 := c5
          have q5 := xr3.f hc5
          obtain ⟨v6, ev6⟩ : ∃ z : Int32, z = x4_5 + Int32.ofInt (1) := ⟨_, rfl⟩
          have tv6 := a_inc ev6 (by decide) (by omega) (by omega)
          refine lv_iinc (v := v6) (lv' := [(4, .int (v6)), (5, .int (Ia5 (w + 2) (x4_5).toNatClampNeg)), (3, .int (x3_5)), (0, .ref (ad (20))), (1, .ref (ad (110))), (2, .ref (ad (w)))]) hx hb dX2_turnMirrors_96 hl (k := 1) rfl ev6.symm (by decide) rfl (fun ls hl => ?_)
          refine lv_goto (tgt := 5) hx hb dX2_turnMirrors_99 (by decide) ?_
          exact ih5 (v6) (x3_5) Ia5 La5 _ _ ls hI hK (by first | omega | decide) (by omega) hM hS (lv_sub hl [0, 2, 3, 4, 5] rfl)
        · have hc5 := c5
          have q5 := xr3.t hc5
          refine lv_iload_n hx hb dX2_turnMirrors_32 rfl (lv_at hl 2 rfl) ?_
          refine lv_iload hx hb dX2_turnMirrors_33 (lv_at hl 0 rfl) ?_
          refine lv_ishr hx hb dX2_turnMirrors_35 ?_
          refine lv_topi (fun v7 ev7 => ?_)
          refine lv_iconst (v := (1)) hx hb dX2_turnMirrors_36 (by decide) ?_
          refine lv_iand hx hb dX2_turnMirrors_37 ?_
          refine lv_topi (fun v8 ev8 => ?_)
          have tv8 := a_and (c := 1) ev8 (by decide) (by decide)
          refine lv_if_ne (tgt := 96) hx hb dX2_turnMirrors_38 (by decide) (fun c9 => ?_) (fun c9 => ?_)
          · have hc9 := c9
            have q9 := q_ne hc9
            obtain ⟨v10, ev10⟩ : ∃ z : Int32, z = x4_5 + Int32.ofInt (1) := ⟨_, rfl⟩
            have tv10 := a_inc ev10 (by decide) (by omega) (by omega)
            refine lv_iinc (v := v10) (lv' := [(4, .int (v10)), (5, .int (Ia5 (w + 2) (x4_5).toNatClampNeg)), (3, .int (x3_5)), (0, .ref (ad (20))), (1, .ref (ad (110))), (2, .ref (ad (w)))]) hx hb dX2_turnMirrors_96 hl (k := 1) rfl ev10.symm (by decide) rfl (fun ls hl => ?_)
            refine lv_goto (tgt := 5) hx hb dX2_turnMirrors_99 (by decide) ?_
            exact ih5 (v10) (x3_5) Ia5 La5 _ _ ls hI hK (by first | omega | decide) (by omega) hM hS (lv_sub hl [0, 2, 3, 4, 5] rfl)
          · have hc9 := c9
            have q9 := q_eq hc9
            refine lv_aload_n hx hb dX2_turnMirrors_41 rfl (lv_at hl 3 rfl) ?_
            refine lv_aload_n hx hb dX2_turnMirrors_42 rfl (lv_at hl 4 rfl) ?_
            refine lv_aload_n hx hb dX2_turnMirrors_43 rfl (lv_at hl 5 rfl) ?_
            refine lv_iload hx hb dX2_turnMirrors_44 (lv_at hl 1 rfl) ?_
            refine m_calli (m_runV (20) (As := [.ref (ad (110)), .ref (ad (w)), .int (x4_5)]) (rest := []) hx hb hml hown hts hE hM hS hA ce_X2_holds tb_754 (V_X2_holds_110 l D A ad ns Ia5 La5 G (w) (x4_5) hG hI hW (by first | omega | decide) (by first | omega | decide)) rfl rfl ⟨Nat.le_of_ble_eq_true rfl, Nat.le_of_ble_eq_true rfl⟩ (hG.1 20 (by decide)) rfl rfl (by decide) rfl hl.1 rfl (Nat.le_of_ble_eq_true rfl) dX2_turnMirrors_46 ⟨Nat.le_of_ble_eq_true rfl, Nat.le_of_ble_eq_true rfl⟩) hS (fun r11 u H locs hw hM hS => ?_)
            obtain ⟨I12, L13, rfl, hI, hkI12, xr11⟩ := hw
            have hM : Mem D A ad ns I12 L13 G H := hM
            have hK := hK.trans hkI12 rfl
            refine lv_if_eq (tgt := 96) hx hb dX2_turnMirrors_49 (by decide) (fun c14 => ?_) (fun c14 => ?_)
            · have hc14 := c14
              have q14 := q_eq hc14
              obtain ⟨v15, ev15⟩ : ∃ z : Int32, z = x4_5 + Int32.ofInt (1) := ⟨_, rfl⟩
              have tv15 := a_inc ev15 (by decide) (by omega) (by omega)
              refine lv_iinc (v := v15) (lv' := [(4, .int (v15)), (5, .int (Ia5 (w + 2) (x4_5).toNatClampNeg)), (3, .int (x3_5)), (0, .ref (ad (20))), (1, .ref (ad (110))), (2, .ref (ad (w)))]) hx hb dX2_turnMirrors_96 hl (k := 1) rfl ev15.symm (by decide) rfl (fun ls hl => ?_)
              refine lv_goto (tgt := 5) hx hb dX2_turnMirrors_99 (by decide) ?_
              exact ih5 (v15) (x3_5) I12 L13 _ _ ls hI hK (by first | omega | decide) (by omega) hM hS (lv_sub hl [0, 2, 3, 4, 5] rfl)
            · have hc14 := c14
              have q14 := q_ne hc14
              refine lv_aload_n hx hb dX2_turnMirrors_52 rfl (lv_at hl 3 rfl) ?_
              refine lv_aload_n hx hb dX2_turnMirrors_53 rfl (lv_at hl 4 rfl) ?_
              refine lv_aload_n hx hb dX2_turnMirrors_54 rfl (lv_at hl 5 rfl) ?_
              refine lv_aload_n hx hb dX2_turnMirrors_55 rfl (lv_at hl 5 rfl) ?_
              refine m_getr (w) 2 (w + 3) hx hb hts hown hE oc3 hM hW.l (kW _ hW.1).1 (by decide) rfl (hW.2.2 2 (by decide)) (by have := lbw hW.1; omega) tb_374 dX2_turnMirrors_56 ?_
              refine lv_iload hx hb dX2_turnMirrors_59 (lv_at hl 1 rfl) ?_
              refine m_iald (w + 3) hx hb hE hM (hW.2.1 3 (by decide)) (kW _ hW.1).2.2.2.1 (vp_in_iff.mpr (by omega)) dX2_turnMirrors_61 ?_
              have g16 := hI.get (w + 3) ((x4_5).toNatClampNeg) (lo := 0) (hi := 400) (rgw3 hW.1 _)
              have z17 : I12 (w + 3) (x4_5).toNatClampNeg = Ia5 (w + 3) ((x4_5).toNatClampNeg) := (hkI12.getW (w + 3) ((x4_5).toNatClampNeg) (by decide) (by decide) (by have := lbw hW.1; omega))
              rw [z17] at g16 ⊢
              refine lv_aload_n hx hb dX2_turnMirrors_62 rfl (lv_at hl 5 rfl) ?_
              refine m_getr (w) 3 (w + 4) hx hb hts hown hE oc3 hM hW.l (kW _ hW.1).1 (by decide) rfl (hW.2.2 3 (by decide)) (by have := lbw hW.1; omega) tb_376 dX2_turnMirrors_63 ?_
              refine lv_iload hx hb dX2_turnMirrors_66 (lv_at hl 1 rfl) ?_
              refine m_iald (w + 4) hx hb hE hM (hW.2.1 4 (by decide)) (kW _ hW.1).2.2.2.2.1 (vp_in_iff.mpr (by omega)) dX2_turnMirrors_68 ?_
              have g18 := hI.get (w + 4) ((x4_5).toNatClampNeg) (lo := 0) (hi := 400) (rgw4 hW.1 _)
              have z19 : I12 (w + 4) (x4_5).toNatClampNeg = Ia5 (w + 4) ((x4_5).toNatClampNeg) := (hkI12.getW (w + 4) ((x4_5).toNatClampNeg) (by decide) (by decide) (by have := lbw hW.1; omega))
              rw [z19] at g18 ⊢
              refine lv_iload hx hb dX2_turnMirrors_69 (lv_at hl 0 rfl) ?_
              refine m_calll (m_runV (20) (As := [.ref (ad (110)), .ref (ad (w)), .int (Ia5 (w + 3) ((x4_5).toNatClampNeg)), .int (Ia5 (w + 4) ((x4_5).toNatClampNeg)), .int (Ia5 (w + 2) (x4_5).toNatClampNeg)]) (rest := []) hx hb hml hown hts hE hM hS hA ce_X2_valueOf tb_758 (V_X2_valueOf_110 l D A ad ns I12 L13 G (w) (Ia5 (w + 3) ((x4_5).toNatClampNeg)) (Ia5 (w + 4) ((x4_5).toNatClampNeg)) (Ia5 (w + 2) (x4_5).toNatClampNeg) hG hI hW (by first | omega | decide) (by first | omega | decide) (by first | omega | decide)) rfl rfl ⟨Nat.le_of_ble_eq_true rfl, Nat.le_of_ble_eq_true rfl⟩ (hG.1 20 (by decide)) rfl rfl (by decide) rfl hl.1 rfl (Nat.le_of_ble_eq_true rfl) dX2_turnMirrors_71 ⟨Nat.le_of_ble_eq_true rfl, Nat.le_of_ble_eq_true rfl⟩) hS (fun r20 u H locs hw hM hS => ?_)
              obtain ⟨I21, L22, rfl, hI, hkI21⟩ := hw
              have hM : Mem D A ad ns I21 L22 G H := hM
              have hK := hK.trans hkI21 rfl
              refine lv_lstore (lv' := [(6, .long (r20)), (5, .int (Ia5 (w + 2) (x4_5).toNatClampNeg)), (4, .int (x4_5)), (3, .int (x3_5)), (0, .ref (ad (20))), (1, .ref (ad (110))), (2, .ref (ad (w)))]) hx hb dX2_turnMirrors_74 hl (by decide) rfl (fun ls hl => ?_)
              refine lv_aload_n hx hb dX2_turnMirrors_76 rfl (lv_at hl 5 rfl) ?_
              refine lv_iload hx hb dX2_turnMirrors_77 (lv_at hl 1 rfl) ?_
              refine lv_lload hx hb dX2_turnMirrors_79 (lv_at hl 0 rfl) ?_
              refine lv_ldc2 (v := (7)) hx hb hown (hts _ tb_787) dX2_turnMirrors_81 ?_
              refine lv_land hx hb dX2_turnMirrors_84 ?_
              refine lv_topl (fun v23 ev23 => ?_)
              refine lv_l2i hx hb dX2_turnMirrors_85 rfl ?_
              refine lv_topi (fun v24 ev24 => ?_)
              refine m_callv (m_runV (110) (As := [.int (Ia5 (w + 2) (x4_5).toNatClampNeg), .int (v24)]) (rest := []) hx hb hml hown hts hE hM hS hA ce_X8_turnTowards tb_788 (V_X8_turnTowards_110 l D A ad ns I21 L22 G (Ia5 (w + 2) (x4_5).toNatClampNeg) (v24) hG hI (by first | omega | decide)) rfl rfl ⟨Nat.le_of_ble_eq_true rfl, Nat.le_of_ble_eq_true rfl⟩ (hG.1 110 (by decide)) rfl rfl (by decide) rfl hl.1 rfl (Nat.le_of_ble_eq_true rfl) dX2_turnMirrors_86 ⟨Nat.le_of_ble_eq_true rfl, Nat.le_of_ble_eq_true rfl⟩) hS (fun u H locs hw hM hS => ?_)
              obtain ⟨I25, L26, rfl, hI, hkI25⟩ := hw
              have hM : Mem D A ad ns I25 L26 G H := hM
              have hK := hK.trans hkI25 rfl
              refine lv_iload_n hx hb dX2_turnMirrors_89 rfl (lv_at hl 3 rfl) ?_
              refine lv_iconst (v := (1)) hx hb dX2_turnMirrors_90 (by decide) ?_
              refine lv_iload hx hb dX2_turnMirrors_91 (lv_at hl 1 rfl) ?_
              refine lv_ishl hx hb dX2_turnMirrors_93 ?_
              refine lv_topi (fun v27 ev27 => ?_)
              refine lv_ior hx hb dX2_turnMirrors_94 ?_
              refine lv_topi (fun v28 ev28 => ?_)
              refine lv_istore_n (lv' := [(3, .int (v28)), (6, .long (r20)), (5, .int (Ia5 (w + 2) (x4_5).toNatClampNeg)), (4, .int (x4_5)), (0, .ref (ad (20))), (1, .ref (ad (110))), (2, .ref (ad (w)))]) hx hb dX2_turnMirrors_95 rfl hl (by decide) rfl (fun ls hl => ?_)
              obtain ⟨v29, ev29⟩ : ∃ z : Int32, z = x4_5 + Int32.ofInt (1) := ⟨_, rfl⟩
              have tv29 := a_inc ev29 (by decide) (by omega) (by omega)
              refine lv_iinc (v := v29) (lv' := [(4, .int (v29)), (3, .int (v28)), (6, .long (r20)), (5, .int (Ia5 (w + 2) (x4_5).toNatClampNeg)), (0, .ref (ad (20))), (1, .ref (ad (110))), (2, .ref (ad (w)))]) hx hb dX2_turnMirrors_96 hl (k := 3) rfl ev29.symm (by decide) rfl (fun ls hl => ?_)
              refine lv_goto (tgt := 5) hx hb dX2_turnMirrors_99 (by decide) ?_
              exact ih5 (v29) (v28) I25 L26 _ _ ls hI hK (by first | omega | decide) (by omega) hM hS (lv_sub hl [0, 1, 4, 5, 6] rfl)
  exact loop5 (_ + 1) (0) (0) I L _ _ ls hI hK (by first | omega | decide) (Nat.lt_succ_self _) hM hS (lv_sub hl [0, 1, 2, 3, 4] rfl)
set_option maxHeartbeats 4000000 in
set_option maxRecDepth 20000 in
theorem V_X2_passDay_110 (l : Launch) (D : va_G) (A : Nat → Prop) (ad : Nat → Nat) (ns : List Nat) (I : MI) (L : ML) (G : MG) (w : Nat) (a0 : Int32) (hG : SGC ns G) (hI : INV I) (hW : LOK ns G w) (ha0 : 0 ≤ a0.toInt ∧ a0.toInt ≤ 1) : Met l yX2_passDay (wd yX2_passDay cX2_passDay 6 (some .int)) ({ frames := 6, cells := 0, slots := 0, locals := 146 }) (va_Pc [.ref (ad (20)), .ref (ad (110)), .ref (ad (w)), .int a0] (PM D A ad ns I L G)) (va_Qi (fun r u => ∃ I2 L2, u = (ad, ns, I2, L2, G) ∧ INV I2 ∧ Kp [(11, 15), (21, 22), (117, 119)] [(10, 2), (10, 3), (10, 4), (10, 5), (10, 6), (10, 7), (10, 8), (10, 11), (10, 12), (20, 3), (110, 6)] I I2) (BM D A) A) 0 0 A := by
  refine m_ofW (by decide) (Nat.le_of_ble_eq_true rfl) ?_
  intro p e s m below meth c ls args hC hE hM hA hS hl
  obtain ⟨hx, hb, hml, hown, hts, hr, hlocks, hin⟩ := hC
  have km2 : (-2 : Int32).toInt = -2 := by decide
  have k0 : (0 : Int32).toInt = 0 := by decide
  have k1 : (1 : Int32).toInt = 1 := by decide
  have k24 : (24 : Int32).toInt = 24 := by decide
  have hK : Kp [(11, 15), (21, 22), (117, 119)] [(10, 2), (10, 3), (10, 4), (10, 5), (10, 6), (10, 7), (10, 8), (10, 11), (10, 12), (20, 3), (110, 6)] I I := Kp.rf
  have hl : lv_has ls 6 [(0, .ref (ad (20))), (1, .ref (ad (110))), (2, .ref (ad (w))), (3, .int (a0))] := hl
  refine lv_aload_n hx hb dX2_passDay_0 rfl (lv_at hl 0 rfl) ?_
  refine m_getr (20) 1 (21) hx hb hts hown hE oc2 hM (hG.1 20 (by decide)) rfl (by decide) rfl (hG.2 (20, 1, 21) (by decide)) (by decide) tb_186 dX2_passDay_1 ?_
  refine lv_iconst (v := (0)) hx hb dX2_passDay_4 (by decide) ?_
  refine m_callv (m_runS (As := [.ref (ad (21)), .int (0)]) (rest := []) hx hb hml hown hts hE hM hS hA ce_J7_fill_53178 tb_748 (C_J7_fill_53178 l D A ad ns I L G (21) 8 (0) (hG.1 21 (by decide)) rfl (by decide)) rfl rfl ⟨Nat.le_of_ble_eq_true rfl, Nat.le_of_ble_eq_true rfl⟩  rfl hl.1 rfl (Nat.le_of_ble_eq_true rfl) dX2_passDay_5 ⟨Nat.le_of_ble_eq_true rfl, Nat.le_of_ble_eq_true rfl⟩) hS (fun u H locs hw hM hS => ?_)
  subst hw
  obtain ⟨I1, eI1⟩ : ∃ z : MI, z = fillI I 21 8 (0) := ⟨_, rfl⟩
  have hM : Mem D A ad ns I1 L G H := by rw [eI1]; exact hM
  have hkI1 : Kp [(21, 22)] [] I I1 := by rw [eI1]; exact Kp.rf.fill rfl
  have hI : INV I1 := by rw [eI1]; exact hI.fill (fun k _ => (by decide : (-2147483648 : Int) ≤ (0 : Int32).toInt ∧ (0 : Int32).toInt ≤ (2147483647 : Int)))
  have hK := hK.trans hkI1 rfl
  refine lv_iconst (v := (0)) hx hb dX2_passDay_8 (by decide) ?_
  refine lv_istore (lv' := [(4, .int (0)), (0, .ref (ad (20))), (1, .ref (ad (110))), (2, .ref (ad (w))), (3, .int (a0))]) hx hb dX2_passDay_9 hl (by decide) rfl (fun ls hl => ?_)
  refine lv_iconst (v := (0)) hx hb dX2_passDay_11 (by decide) ?_
  refine lv_istore (lv' := [(5, .int (0)), (4, .int (0)), (0, .ref (ad (20))), (1, .ref (ad (110))), (2, .ref (ad (w))), (3, .int (a0))]) hx hb dX2_passDay_12 hl (by decide) rfl (fun ls hl => ?_)
  have loop14 : ∀ (n : Nat) (x5_14 : Int32) (x4_14 : Int32) (Ia14 : MI) (La14 : ML) (H : Heap) (locs : List Loc) (ls : Array Slot), INV Ia14 → Kp [(11, 15), (21, 22), (117, 119)] [(10, 2), (10, 3), (10, 4), (10, 5), (10, 6), (10, 7), (10, 8), (10, 11), (10, 12), (20, 3), (110, 6)] I Ia14 → (0 ≤ x5_14.toInt ∧ x5_14.toInt ≤ 24) → (24 - x5_14.toInt).toNat < n → Mem D A ad ns Ia14 La14 G H → va_S A s.heap H locs → lv_has ls 6 [(5, .int (x5_14)), (4, .int (x4_14)), (0, .ref (ad (20))), (1, .ref (ad (110))), (2, .ref (ad (w))), (3, .int (a0))] → W p l e ({ frames := 6, cells := 0, slots := 0, locals := 146 } : Room) s m args below meth c H locs 0 0 (MQ below (va_Qi (fun r u => ∃ I2 L2, u = (ad, ns, I2, L2, G) ∧ INV I2 ∧ Kp [(11, 15), (21, 22), (117, 119)] [(10, 2), (10, 3), (10, 4), (10, 5), (10, 6), (10, 7), (10, 8), (10, 11), (10, 12), (20, 3), (110, 6)] I I2) (BM D A) A) args s 0 0 A) (F0 m 14 ls []) := by
    intro n
    induction n with
    | zero =>
      intro x5_14 x4_14 Ia14 La14 H locs ls hI hK hr5_14 hmu
      exact absurd hmu (Nat.not_lt_zero _)
    | succ n ih14 =>
      intro x5_14 x4_14 Ia14 La14 H locs ls hI hK hr5_14 hmu14 hM hS hl
      refine lv_iload hx hb dX2_passDay_14 (lv_at hl 0 rfl) ?_
      refine lv_bipush (v := (24)) hx hb dX2_passDay_16 (by decide) ?_
      refine lv_icmp_ge (tgt := 102) hx hb dX2_passDay_18 (by decide) (fun c2 => ?_) (fun c2 => ?_)
      · have hc2 := c2
        have q2 := q_le hc2
        refine lv_aload_n hx hb dX2_passDay_102 rfl (lv_at hl 3 rfl) ?_
        refine lv_aload_n hx hb dX2_passDay_103 rfl (lv_at hl 2 rfl) ?_
        refine m_getr (20) 1 (21) hx hb hts hown hE oc2 hM (hG.1 20 (by decide)) rfl (by decide) rfl (hG.2 (20, 1, 21) (by decide)) (by decide) tb_186 dX2_passDay_104 ?_
        refine m_callv (m_runV (110) (As := [.ref (ad (21))]) (rest := []) hx hb hml hown hts hE hM hS hA ce_X8_endDay tb_876 (V_X8_endDay_110 l D A ad ns Ia14 La14 G hG hI) rfl rfl ⟨Nat.le_of_ble_eq_true rfl, Nat.le_of_ble_eq_true rfl⟩ (hG.1 110 (by decide)) rfl rfl (by decide) rfl hl.1 rfl (Nat.le_of_ble_eq_true rfl) dX2_passDay_107 ⟨Nat.le_of_ble_eq_true rfl, Nat.le_of_ble_eq_true rfl⟩) hS (fun u H locs hw hM hS => ?_)
        obtain ⟨I3, L4, rfl, hI, hkI3⟩ := hw
        have hM : Mem D A ad ns I3 L4 G H := hM
        have hK := hK.trans hkI3 rfl
        refine lv_iload hx hb dX2_passDay_110 (lv_at hl 1 rfl) ?_
        exact m_iret hx hb hr hlocks hM hS (Nat.le_of_ble_eq_true rfl) (Nat.le_of_ble_eq_true rfl) ⟨_, _, rfl, hI, hK⟩ dX2_passDay_112
      · have hc2 := c2
        have q2 := q_nle hc2
        refine lv_aload_n hx hb dX2_passDay_21 rfl (lv_at hl 2 rfl) ?_
        refine lv_iload hx hb dX2_passDay_22 (lv_at hl 0 rfl) ?_
        refine m_puti (20) 3 hx hb hts hown hE oc2 hM hS (hG.1 20 (by decide)) rfl (by decide) rfl rfl rfl rfl tb_188 dX2_passDay_24 (fun H locs I5 eI5 hM hS => ?_)
        subst eI5
        have hI := hI.put (n := 20) (k := 3) (v := x5_14) (lo := 0) (hi := 23) rfl (by first | omega | decide)
        have hK := hK.put (n := 20) (k := 3) (v := x5_14) (by first | rfl | simp [inR])
        refine lv_aload_n hx hb dX2_passDay_27 rfl (lv_at hl 2 rfl) ?_
        refine lv_aload_n hx hb dX2_passDay_28 rfl (lv_at hl 3 rfl) ?_
        refine lv_aload_n hx hb dX2_passDay_29 rfl (lv_at hl 4 rfl) ?_
        refine m_callv (m_runV (20) (As := [.ref (ad (110)), .ref (ad (w))]) (rest := []) hx hb hml hown hts hE hM hS hA ce_X2_turnMirrors tb_749 (V_X2_turnMirrors_110 l D A ad ns (u2 Ia14 (20) 3 (x5_14)) La14 G (w) hG hI hW) rfl rfl ⟨Nat.le_of_ble_eq_true rfl, Nat.le_of_ble_eq_true rfl⟩ (hG.1 20 (by decide)) rfl rfl (by decide) rfl hl.1 rfl (Nat.le_of_ble_eq_true rfl) dX2_passDay_30 ⟨Nat.le_of_ble_eq_true rfl, Nat.le_of_ble_eq_true rfl⟩) hS (fun u H locs hw hM hS => ?_)
        obtain ⟨I6, L7, rfl, hI, hkI6⟩ := hw
        have hM : Mem D A ad ns I6 L7 G H := hM
        have hK := hK.trans hkI6 rfl
        refine lv_aload_n hx hb dX2_passDay_33 rfl (lv_at hl 3 rfl) ?_
        refine lv_iload hx hb dX2_passDay_34 (lv_at hl 0 rfl) ?_
        refine m_calli (m_runV (110) (As := [.int (x5_14)]) (rest := []) hx hb hml hown hts hE hM hS hA ce_X8_isLit tb_767 (V_X8_isLit_110 l D A ad ns I6 L7 G (x5_14) hG hI) rfl rfl ⟨Nat.le_of_ble_eq_true rfl, Nat.le_of_ble_eq_true rfl⟩ (hG.1 110 (by decide)) rfl rfl (by decide) rfl hl.1 rfl (Nat.le_of_ble_eq_true rfl) dX2_passDay_36 ⟨Nat.le_of_ble_eq_true rfl, Nat.le_of_ble_eq_true rfl⟩) hS (fun r8 u H locs hw hM hS => ?_)
        obtain ⟨rfl, xr8⟩ := hw
        have hM : Mem D A ad ns I6 L7 G H := hM
        have yr8 := bo01 xr8
        refine lv_if_eq (tgt := 96) hx hb dX2_passDay_39 (by decide) (fun c9 => ?_) (fun c9 => ?_)
        · have hc9 := c9
          have q9 := xr8.f hc9
          obtain ⟨v10, ev10⟩ : ∃ z : Int32, z = x5_14 + Int32.ofInt (1) := ⟨_, rfl⟩
          have tv10 := a_inc ev10 (by decide) (by omega) (by omega)
          refine lv_iinc (v := v10) (lv' := [(5, .int (v10)), (4, .int (x4_14)), (0, .ref (ad (20))), (1, .ref (ad (110))), (2, .ref (ad (w))), (3, .int (a0))]) hx hb dX2_passDay_96 hl (k := 0) rfl ev10.symm (by decide) rfl (fun ls hl => ?_)
          refine lv_goto (tgt := 14) hx hb dX2_passDay_99 (by decide) ?_
          exact ih14 (v10) (x4_14) I6 L7 _ _ ls hI hK (by first | omega | decide) (by omega) hM hS (lv_sub hl [0, 1, 2, 3, 4, 5] rfl)
        · have hc9 := c9
          have q9 := xr8.t hc9
          have lh9 := q9.2.1
          refine lv_iload_n hx hb dX2_passDay_42 rfl (lv_at hl 5 rfl) ?_
          refine lv_if_eq (tgt := 82) hx hb dX2_passDay_43 (by decide) (fun c11 => ?_) (fun c11 => ?_)
          · have hc11 := c11
            have q11 := q_eq hc11
            refine lv_aload_n hx hb dX2_passDay_82 rfl (lv_at hl 2 rfl) ?_
            refine m_getr (20) 0 (10) hx hb hts hown hE oc2 hM (hG.1 20 (by decide)) rfl (by decide) rfl (hG.2 (20, 0, 10) (by decide)) (by decide) tb_185 dX2_passDay_83 ?_
            refine lv_aload_n hx hb dX2_passDay_86 rfl (lv_at hl 3 rfl) ?_
            refine lv_iload hx hb dX2_passDay_87 (lv_at hl 0 rfl) ?_
            refine m_callv (m_runV (10) (As := [.ref (ad (110)), .int (x5_14)]) (rest := []) hx hb hml hown hts hE hM hS hA ce_X1_shine tb_871 (V_X1_shine_110 l D A ad ns I6 L7 G (x5_14) hG hI (q9.2) (by first | omega | decide)) rfl rfl ⟨Nat.le_of_ble_eq_true rfl, Nat.le_of_ble_eq_true rfl⟩ (hG.1 10 (by decide)) rfl rfl (by decide) rfl hl.1 rfl (Nat.le_of_ble_eq_true rfl) dX2_passDay_89 ⟨Nat.le_of_ble_eq_true rfl, Nat.le_of_ble_eq_true rfl⟩) hS (fun u H locs hw hM hS => ?_)
            obtain ⟨I12, L13, rfl, hI, hkI12⟩ := hw
            have hM : Mem D A ad ns I12 L13 G H := hM
            have hK := hK.trans hkI12 rfl
            refine lv_aload_n hx hb dX2_passDay_92 rfl (lv_at hl 2 rfl) ?_
            refine m_callv (m_runV (20) (As := []) (rest := []) hx hb hml hown hts hE hM hS hA ce_X2_addToday tb_872 (V_X2_addToday l D A ad ns I12 L13 G hG hI) rfl rfl ⟨Nat.le_of_ble_eq_true rfl, Nat.le_of_ble_eq_true rfl⟩ (hG.1 20 (by decide)) rfl rfl (by decide) rfl hl.1 rfl (Nat.le_of_ble_eq_true rfl) dX2_passDay_93 ⟨Nat.le_of_ble_eq_true rfl, Nat.le_of_ble_eq_true rfl⟩) hS (fun u H locs hw hM hS => ?_)
            obtain ⟨I14, L15, rfl, hI, hkI14⟩ := hw
            have hM : Mem D A ad ns I14 L15 G H := hM
            have hK := hK.trans hkI14 rfl
            obtain ⟨v16, ev16⟩ : ∃ z : Int32, z = x5_14 + Int32.ofInt (1) := ⟨_, rfl⟩
            have tv16 := a_inc ev16 (by decide) (by omega) (by omega)
            refine lv_iinc (v := v16) (lv' := [(5, .int (v16)), (4, .int (x4_14)), (0, .ref (ad (20))), (1, .ref (ad (110))), (2, .ref (ad (w))), (3, .int (a0))]) hx hb dX2_passDay_96 hl (k := 0) rfl ev16.symm (by decide) rfl (fun ls hl => ?_)
            refine lv_goto (tgt := 14) hx hb dX2_passDay_99 (by decide) ?_
            exact ih14 (v16) (x4_14) I14 L15 _ _ ls hI hK (by first | omega | decide) (by omega) hM hS (lv_sub hl [0, 1, 2, 3, 4, 5] rfl)
          · have hc11 := c11
            have q11 := q_ne hc11
            refine lv_aload_n hx hb dX2_passDay_46 rfl (lv_at hl 2 rfl) ?_
            refine m_getr (20) 0 (10) hx hb hts hown hE oc2 hM (hG.1 20 (by decide)) rfl (by decide) rfl (hG.2 (20, 0, 10) (by decide)) (by decide) tb_185 dX2_passDay_47 ?_
            refine lv_aload_n hx hb dX2_passDay_50 rfl (lv_at hl 3 rfl) ?_
            refine lv_iload hx hb dX2_passDay_51 (lv_at hl 0 rfl) ?_
            refine m_callv (m_runV (10) (As := [.ref (ad (110)), .int (x5_14)]) (rest := []) hx hb hml hown hts hE hM hS hA ce_X1_shineWatched tb_796 (V_X1_shineWatched_110 l D A ad ns I6 L7 G (x5_14) hG hI (q9.2) (by first | omega | decide)) rfl rfl ⟨Nat.le_of_ble_eq_true rfl, Nat.le_of_ble_eq_true rfl⟩ (hG.1 10 (by decide)) rfl rfl (by decide) rfl hl.1 rfl (Nat.le_of_ble_eq_true rfl) dX2_passDay_53 ⟨Nat.le_of_ble_eq_true rfl, Nat.le_of_ble_eq_true rfl⟩) hS (fun u H locs hw hM hS => ?_)
            obtain ⟨I17, L18, rfl, hI, hkI17⟩ := hw
            have hM : Mem D A ad ns I17 L18 G H := hM
            have hK := hK.trans hkI17 rfl
            refine lv_iload hx hb dX2_passDay_56 (lv_at hl 1 rfl) ?_
            refine lv_aload_n hx hb dX2_passDay_58 rfl (lv_at hl 2 rfl) ?_
            refine m_getr (20) 0 (10) hx hb hts hown hE oc2 hM (hG.1 20 (by decide)) rfl (by decide) rfl (hG.2 (20, 0, 10) (by decide)) (by decide) tb_185 dX2_passDay_59 ?_
            refine lv_aload_n hx hb dX2_passDay_62 rfl (lv_at hl 3 rfl) ?_
            refine m_calli (m_runV (10) (As := [.ref (ad (110))]) (rest := [.int (x4_14)]) hx hb hml hown hts hE hM hS hA ce_X1_firstBlind tb_863 (V_X1_firstBlind_110 l D A ad ns I17 L18 G hG hI) rfl rfl ⟨Nat.le_of_ble_eq_true rfl, Nat.le_of_ble_eq_true rfl⟩ (hG.1 10 (by decide)) rfl rfl (by decide) rfl hl.1 rfl (Nat.le_of_ble_eq_true rfl) dX2_passDay_63 ⟨Nat.le_of_ble_eq_true rfl, Nat.le_of_ble_eq_true rfl⟩) hS (fun r19 u H locs hw hM hS => ?_)
            obtain ⟨rfl, xr19⟩ := hw
            have hM : Mem D A ad ns I17 L18 G H := hM
            refine lv_bipush (v := (-2)) hx hb dX2_passDay_66 (by decide) ?_
            refine lv_icmp_ne (tgt := 75) hx hb dX2_passDay_68 (by decide) (fun c20 => ?_) (fun c20 => ?_)
            · have hc20 := c20
              have q20 := q_ne hc20
              refine lv_iconst (v := (1)) hx hb dX2_passDay_75 (by decide) ?_
              refine lv_iadd hx hb dX2_passDay_76 ?_
              refine lv_topi (fun v21 ev21 => ?_)
              refine lv_istore (lv' := [(4, .int (v21)), (5, .int (x5_14)), (0, .ref (ad (20))), (1, .ref (ad (110))), (2, .ref (ad (w))), (3, .int (a0))]) hx hb dX2_passDay_77 hl (by decide) rfl (fun ls hl => ?_)
              refine lv_goto (tgt := 92) hx hb dX2_passDay_79 (by decide) ?_
              refine lv_aload_n hx hb dX2_passDay_92 rfl (lv_at hl 2 rfl) ?_
              refine m_callv (m_runV (20) (As := []) (rest := []) hx hb hml hown hts hE hM hS hA ce_X2_addToday tb_872 (V_X2_addToday l D A ad ns I17 L18 G hG hI) rfl rfl ⟨Nat.le_of_ble_eq_true rfl, Nat.le_of_ble_eq_true rfl⟩ (hG.1 20 (by decide)) rfl rfl (by decide) rfl hl.1 rfl (Nat.le_of_ble_eq_true rfl) dX2_passDay_93 ⟨Nat.le_of_ble_eq_true rfl, Nat.le_of_ble_eq_true rfl⟩) hS (fun u H locs hw hM hS => ?_)
              obtain ⟨I22, L23, rfl, hI, hkI22⟩ := hw
              have hM : Mem D A ad ns I22 L23 G H := hM
              have hK := hK.trans hkI22 rfl
              obtain ⟨v24, ev24⟩ : ∃ z : Int32, z = x5_14 + Int32.ofInt (1) := ⟨_, rfl⟩
              have tv24 := a_inc ev24 (by decide) (by omega) (by omega)
              refine lv_iinc (v := v24) (lv' := [(5, .int (v24)), (4, .int (v21)), (0, .ref (ad (20))), (1, .ref (ad (110))), (2, .ref (ad (w))), (3, .int (a0))]) hx hb dX2_passDay_96 hl (k := 1) rfl ev24.symm (by decide) rfl (fun ls hl => ?_)
              refine lv_goto (tgt := 14) hx hb dX2_passDay_99 (by decide) ?_
              exact ih14 (v24) (v21) I22 L23 _ _ ls hI hK (by first | omega | decide) (by omega) hM hS (lv_sub hl [0, 1, 2, 3, 4, 5] rfl)
            · have hc20 := c20
              have q20 := q_eq hc20
              refine lv_iconst (v := (0)) hx hb dX2_passDay_71 (by decide) ?_
              refine lv_goto (tgt := 76) hx hb dX2_passDay_72 (by decide) ?_
              refine lv_iadd hx hb dX2_passDay_76 ?_
              refine lv_topi (fun v25 ev25 => ?_)
              refine lv_istore (lv' := [(4, .int (v25)), (5, .int (x5_14)), (0, .ref (ad (20))), (1, .ref (ad (110))), (2, .ref (ad (w))), (3, .int (a0))]) hx hb dX2_passDay_77 hl (by decide) rfl (fun ls hl => ?_)
              refine lv_goto (tgt := 92) hx hb dX2_passDay_79 (by decide) ?_
              refine lv_aload_n hx hb dX2_passDay_92 rfl (lv_at hl 2 rfl) ?_
              refine m_callv (m_runV (20) (As := []) (rest := []) hx hb hml hown hts hE hM hS hA ce_X2_addToday tb_872 (V_X2_addToday l D A ad ns I17 L18 G hG hI) rfl rfl ⟨Nat.le_of_ble_eq_true rfl, Nat.le_of_ble_eq_true rfl⟩ (hG.1 20 (by decide)) rfl rfl (by decide) rfl hl.1 rfl (Nat.le_of_ble_eq_true rfl) dX2_passDay_93 ⟨Nat.le_of_ble_eq_true rfl, Nat.le_of_ble_eq_true rfl⟩) hS (fun u H locs hw hM hS => ?_)
              obtain ⟨I26, L27, rfl, hI, hkI26⟩ := hw
              have hM : Mem D A ad ns I26 L27 G H := hM
              have hK := hK.trans hkI26 rfl
              obtain ⟨v28, ev28⟩ : ∃ z : Int32, z = x5_14 + Int32.ofInt (1) := ⟨_, rfl⟩
              have tv28 := a_inc ev28 (by decide) (by omega) (by omega)
              refine lv_iinc (v := v28) (lv' := [(5, .int (v28)), (4, .int (v25)), (0, .ref (ad (20))), (1, .ref (ad (110))), (2, .ref (ad (w))), (3, .int (a0))]) hx hb dX2_passDay_96 hl (k := 1) rfl ev28.symm (by decide) rfl (fun ls hl => ?_)
              refine lv_goto (tgt := 14) hx hb dX2_passDay_99 (by decide) ?_
              exact ih14 (v28) (v25) I26 L27 _ _ ls hI hK (by first | omega | decide) (by omega) hM hS (lv_sub hl [0, 1, 2, 3, 4, 5] rfl)
  exact loop14 (_ + 1) (0) (0) I1 L _ _ ls hI hK (by first | omega | decide) (Nat.lt_succ_self _) hM hS (lv_sub hl [0, 1, 2, 3, 4, 5] rfl)
