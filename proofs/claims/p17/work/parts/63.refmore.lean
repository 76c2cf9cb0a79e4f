theorem INV.putx {I : MI} (h : INV I) {n k : Nat} {v : Int32} (hz : (rg n k).1 ≤ v.toInt ∧ v.toInt ≤ (rg n k).2) : INV (u2 I n k v) := h.put rfl hz
theorem rg_1001 (k : Nat) : (rg 1001 k).1 ≤ (0 : Int32).toInt ∧ (0 : Int32).toInt ≤ (rg 1001 k).2 := by
  show (rgM_1 k).1 ≤ (0 : Int32).toInt ∧ (0 : Int32).toInt ≤ (rgM_1 k).2
  unfold rgM_1
  split <;> decide
theorem dX10_both_0 : decode cX10_both 0 = .ok (.iload_n 0, 1) := by decide +kernel
theorem dX10_both_1 : decode cX10_both 1 = .ok (.tableswitch 172 2 14 #[67, 71, 93, 108, 123, 138, 153, 172, 168, 172, 172, 75, 79], 67) := by decide +kernel
theorem dX10_both_68 : decode cX10_both 68 = .ok (.lload_n 1, 1) := by decide +kernel
theorem dX10_both_69 : decode cX10_both 69 = .ok (.lload_n 3, 1) := by decide +kernel
theorem dX10_both_70 : decode cX10_both 70 = .ok (.ladd, 1) := by decide +kernel
theorem dX10_both_71 : decode cX10_both 71 = .ok (.lreturn, 1) := by decide +kernel
theorem dX10_both_72 : decode cX10_both 72 = .ok (.lload_n 1, 1) := by decide +kernel
theorem dX10_both_73 : decode cX10_both 73 = .ok (.lload_n 3, 1) := by decide +kernel
theorem dX10_both_74 : decode cX10_both 74 = .ok (.lsub, 1) := by decide +kernel
theorem dX10_both_75 : decode cX10_both 75 = .ok (.lreturn, 1) := by decide +kernel
theorem dX10_both_76 : decode cX10_both 76 = .ok (.lload_n 1, 1) := by decide +kernel
theorem dX10_both_77 : decode cX10_both 77 = .ok (.lload_n 3, 1) := by decide +kernel
theorem dX10_both_78 : decode cX10_both 78 = .ok (.lmul, 1) := by decide +kernel
theorem dX10_both_79 : decode cX10_both 79 = .ok (.lreturn, 1) := by decide +kernel
theorem dX10_both_80 : decode cX10_both 80 = .ok (.lload_n 3, 1) := by decide +kernel
theorem dX10_both_81 : decode cX10_both 81 = .ok (.lconst 0, 1) := by decide +kernel
theorem dX10_both_82 : decode cX10_both 82 = .ok (.lcmp, 1) := by decide +kernel
theorem dX10_both_83 : decode cX10_both 83 = .ok (.ifCond .ne 7, 3) := by decide +kernel
theorem dX10_both_86 : decode cX10_both 86 = .ok (.lconst 0, 1) := by decide +kernel
theorem dX10_both_87 : decode cX10_both 87 = .ok (.goto 6, 3) := by decide +kernel
theorem dX10_both_90 : decode cX10_both 90 = .ok (.lload_n 1, 1) := by decide +kernel
theorem dX10_both_91 : decode cX10_both 91 = .ok (.lload_n 3, 1) := by decide +kernel
theorem dX10_both_92 : decode cX10_both 92 = .ok (.ldiv, 1) := by decide +kernel
theorem dX10_both_93 : decode cX10_both 93 = .ok (.lreturn, 1) := by decide +kernel
theorem dX10_both_94 : decode cX10_both 94 = .ok (.lload_n 1, 1) := by decide +kernel
theorem dX10_both_95 : decode cX10_both 95 = .ok (.lload_n 3, 1) := by decide +kernel
theorem dX10_both_96 : decode cX10_both 96 = .ok (.lcmp, 1) := by decide +kernel
theorem dX10_both_97 : decode cX10_both 97 = .ok (.ifCond .ge 7, 3) := by decide +kernel
theorem dX10_both_100 : decode cX10_both 100 = .ok (.iconst 1, 1) := by decide +kernel
theorem dX10_both_101 : decode cX10_both 101 = .ok (.goto 4, 3) := by decide +kernel
theorem dX10_both_104 : decode cX10_both 104 = .ok (.iconst 0, 1) := by decide +kernel
theorem dX10_both_105 : decode cX10_both 105 = .ok (.invokestatic 377, 3) := by decide +kernel
theorem dX10_both_108 : decode cX10_both 108 = .ok (.lreturn, 1) := by decide +kernel
theorem dX10_both_109 : decode cX10_both 109 = .ok (.lload_n 1, 1) := by decide +kernel
theorem dX10_both_110 : decode cX10_both 110 = .ok (.lload_n 3, 1) := by decide +kernel
theorem dX10_both_111 : decode cX10_both 111 = .ok (.lcmp, 1) := by decide +kernel
theorem dX10_both_112 : decode cX10_both 112 = .ok (.ifCond .gt 7, 3) := by decide +kernel
theorem dX10_both_115 : decode cX10_both 115 = .ok (.iconst 1, 1) := by decide +kernel
theorem dX10_both_116 : decode cX10_both 116 = .ok (.goto 4, 3) := by decide +kernel
theorem dX10_both_119 : decode cX10_both 119 = .ok (.iconst 0, 1) := by decide +kernel
theorem dX10_both_120 : decode cX10_both 120 = .ok (.invokestatic 377, 3) := by decide +kernel
theorem dX10_both_123 : decode cX10_both 123 = .ok (.lreturn, 1) := by decide +kernel
theorem dX10_both_124 : decode cX10_both 124 = .ok (.lload_n 1, 1) := by decide +kernel
theorem dX10_both_125 : decode cX10_both 125 = .ok (.lload_n 3, 1) := by decide +kernel
theorem dX10_both_126 : decode cX10_both 126 = .ok (.lcmp, 1) := by decide +kernel
theorem dX10_both_127 : decode cX10_both 127 = .ok (.ifCond .ne 7, 3) := by decide +kernel
theorem dX10_both_130 : decode cX10_both 130 = .ok (.iconst 1, 1) := by decide +kernel
theorem dX10_both_131 : decode cX10_both 131 = .ok (.goto 4, 3) := by decide +kernel
theorem dX10_both_134 : decode cX10_both 134 = .ok (.iconst 0, 1) := by decide +kernel
theorem dX10_both_135 : decode cX10_both 135 = .ok (.invokestatic 377, 3) := by decide +kernel
theorem dX10_both_138 : decode cX10_both 138 = .ok (.lreturn, 1) := by decide +kernel
theorem dX10_both_139 : decode cX10_both 139 = .ok (.lload_n 1, 1) := by decide +kernel
theorem dX10_both_140 : decode cX10_both 140 = .ok (.lload_n 3, 1) := by decide +kernel
theorem dX10_both_141 : decode cX10_both 141 = .ok (.lcmp, 1) := by decide +kernel
theorem dX10_both_142 : decode cX10_both 142 = .ok (.ifCond .lt 7, 3) := by decide +kernel
theorem dX10_both_145 : decode cX10_both 145 = .ok (.iconst 1, 1) := by decide +kernel
theorem dX10_both_146 : decode cX10_both 146 = .ok (.goto 4, 3) := by decide +kernel
theorem dX10_both_149 : decode cX10_both 149 = .ok (.iconst 0, 1) := by decide +kernel
theorem dX10_both_150 : decode cX10_both 150 = .ok (.invokestatic 377, 3) := by decide +kernel
theorem dX10_both_153 : decode cX10_both 153 = .ok (.lreturn, 1) := by decide +kernel
theorem dX10_both_154 : decode cX10_both 154 = .ok (.lload_n 1, 1) := by decide +kernel
theorem dX10_both_155 : decode cX10_both 155 = .ok (.lload_n 3, 1) := by decide +kernel
theorem dX10_both_156 : decode cX10_both 156 = .ok (.lcmp, 1) := by decide +kernel
theorem dX10_both_157 : decode cX10_both 157 = .ok (.ifCond .le 7, 3) := by decide +kernel
theorem dX10_both_160 : decode cX10_both 160 = .ok (.iconst 1, 1) := by decide +kernel
theorem dX10_both_161 : decode cX10_both 161 = .ok (.goto 4, 3) := by decide +kernel
theorem dX10_both_164 : decode cX10_both 164 = .ok (.iconst 0, 1) := by decide +kernel
theorem dX10_both_165 : decode cX10_both 165 = .ok (.invokestatic 377, 3) := by decide +kernel
theorem dX10_both_168 : decode cX10_both 168 = .ok (.lreturn, 1) := by decide +kernel
theorem dX10_both_169 : decode cX10_both 169 = .ok (.lload_n 1, 1) := by decide +kernel
theorem dX10_both_170 : decode cX10_both 170 = .ok (.lload_n 3, 1) := by decide +kernel
theorem dX10_both_171 : decode cX10_both 171 = .ok (.land, 1) := by decide +kernel
theorem dX10_both_172 : decode cX10_both 172 = .ok (.lreturn, 1) := by decide +kernel
theorem dX10_both_173 : decode cX10_both 173 = .ok (.lload_n 1, 1) := by decide +kernel
theorem dX10_both_174 : decode cX10_both 174 = .ok (.lload_n 3, 1) := by decide +kernel
theorem dX10_both_175 : decode cX10_both 175 = .ok (.lor, 1) := by decide +kernel
theorem dX10_both_176 : decode cX10_both 176 = .ok (.lreturn, 1) := by decide +kernel
theorem ce_X10_both : CeS yX10_both cX10_both 5 (some .long) 3 := ⟨tb_1635, tb_11, tb_1636, by decide, by decide, by decide +kernel⟩
set_option maxHeartbeats 4000000 in
set_option maxRecDepth 20000 in
theorem V_X10_both (l : Launch) (D : va_G) (A : Nat → Prop) (ad : Nat → Nat) (ns : List Nat) (I : MI) (L : ML) (G : MG) (a0 : Int32) (a1 : Int64) (a2 : Int64) (hI : INV I) : Met l yX10_both (wd yX10_both cX10_both 5 (some .long)) ({ frames := 1, cells := 0, slots := 0, locals := 20 }) (va_Pc [.int a0, .long a1, .long a2] (PM D A ad ns I L G)) (va_Ql (fun r u => u = (ad, ns, I, L, G) ∧ (True)) (BM D A) A) 0 0 A := by
  refine m_ofW (by decide) (Nat.le_of_ble_eq_true rfl) ?_
  intro p e s m below meth c ls args hC hE hM hA hS hl
  obtain ⟨hx, hb, hml, hown, hts, hr, hlocks, hin⟩ := hC
  have k0 : (0 : Int32).toInt = 0 := by decide
  have k1 : (1 : Int32).toInt = 1 := by decide
  have kl0 : (0 : Int64).toInt = 0 := by decide
  have hl : lv_has ls 5 [(0, .int (a0)), (1, .long (a1)), (3, .long (a2))] := hl
  refine lv_iload_n hx hb dX10_both_0 rfl (lv_at hl 0 rfl) ?_
  by_cases c1 : (a0).toInt < 2 ∨ 14 < (a0).toInt
  · refine lv_tableOut (tgt := 173) hx hb dX10_both_1 c1 (by decide) ?_
    refine lv_lload_n hx hb dX10_both_173 rfl (lv_at hl 1 rfl) ?_
    refine lv_lload_n hx hb dX10_both_174 rfl (lv_at hl 2 rfl) ?_
    refine lv_lor hx hb dX10_both_175 ?_
    refine lv_topl (fun v2 ev2 => ?_)
    exact m_lret hx hb hr hlocks hM hS (Nat.le_of_ble_eq_true rfl) (Nat.le_of_ble_eq_true rfl) ⟨rfl, trivial⟩ dX10_both_176
  · have qc1 : (a0).toInt = 2 ∨ (a0).toInt = 3 ∨ (a0).toInt = 4 ∨ (a0).toInt = 5 ∨ (a0).toInt = 6 ∨ (a0).toInt = 7 ∨ (a0).toInt = 8 ∨ (a0).toInt = 9 ∨ (a0).toInt = 10 ∨ (a0).toInt = 11 ∨ (a0).toInt = 12 ∨ (a0).toInt = 13 ∨ (a0).toInt = 14 := by omega
    rcases qc1 with qc1 | qc1 | qc1 | qc1 | qc1 | qc1 | qc1 | qc1 | qc1 | qc1 | qc1 | qc1 | qc1
    · refine lv_tableIn (off := 67) (tgt := 68) hx hb dX10_both_1 (by omega) (by omega) (by rw [qc1]; rfl) (by decide) ?_
      refine lv_lload_n hx hb dX10_both_68 rfl (lv_at hl 1 rfl) ?_
      refine lv_lload_n hx hb dX10_both_69 rfl (lv_at hl 2 rfl) ?_
      refine lv_ladd hx hb dX10_both_70 ?_
      refine lv_topl (fun v3 ev3 => ?_)
      exact m_lret hx hb hr hlocks hM hS (Nat.le_of_ble_eq_true rfl) (Nat.le_of_ble_eq_true rfl) ⟨rfl, trivial⟩ dX10_both_71
    · refine lv_tableIn (off := 71) (tgt := 72) hx hb dX10_both_1 (by omega) (by omega) (by rw [qc1]; rfl) (by decide) ?_
      refine lv_lload_n hx hb dX10_both_72 rfl (lv_at hl 1 rfl) ?_
      refine lv_lload_n hx hb dX10_both_73 rfl (lv_at hl 2 rfl) ?_
      refine lv_lsub hx hb dX10_both_74 ?_
      refine lv_topl (fun v4 ev4 => ?_)
      exact m_lret hx hb hr hlocks hM hS (Nat.le_of_ble_eq_true rfl) (Nat.le_of_ble_eq_true rfl) ⟨rfl, trivial⟩ dX10_both_75
    · refine lv_tableIn (off := 93) (tgt := 94) hx hb dX10_both_1 (by omega) (by omega) (by rw [qc1]; rfl) (by decide) ?_
      refine lv_lload_n hx hb dX10_both_94 rfl (lv_at hl 1 rfl) ?_
      refine lv_lload_n hx hb dX10_both_95 rfl (lv_at hl 2 rfl) ?_
      refine W.lcmp hx hb dX10_both_96 ?_
      refine lv_if_ge (tgt := 104) hx hb dX10_both_97 (by decide) (fun c5 => ?_) (fun c5 => ?_)
      · have hc5 := c5
        have q5 := l_ge hc5
        refine lv_iconst (v := (0)) hx hb dX10_both_104 (by decide) ?_
        refine m_calll (m_runS (As := [.int (0)]) (rest := []) hx hb hml hown hts hE hM hS hA ce_X10_truth tb_1637 (V_X10_truth l D A ad ns I L G (0) hI (by first | omega | decide)) rfl rfl ⟨Nat.le_of_ble_eq_true rfl, Nat.le_of_ble_eq_true rfl⟩  rfl hl.1 rfl (Nat.le_of_ble_eq_true rfl) dX10_both_105 ⟨Nat.le_of_ble_eq_true rfl, Nat.le_of_ble_eq_true rfl⟩) hS (fun r6 u H locs hw hM hS => ?_)
        obtain ⟨rfl, xr6⟩ := hw
        have hM : Mem D A ad ns I L G H := hM
        exact m_lret hx hb hr hlocks hM hS (Nat.le_of_ble_eq_true rfl) (Nat.le_of_ble_eq_true rfl) ⟨rfl, trivial⟩ dX10_both_108
      · have hc5 := c5
        have q5 := l_nge hc5
        refine lv_iconst (v := (1)) hx hb dX10_both_100 (by decide) ?_
        refine lv_goto (tgt := 105) hx hb dX10_both_101 (by decide) ?_
        refine m_calll (m_runS (As := [.int (1)]) (rest := []) hx hb hml hown hts hE hM hS hA ce_X10_truth tb_1637 (V_X10_truth l D A ad ns I L G (1) hI (by first | omega | decide)) rfl rfl ⟨Nat.le_of_ble_eq_true rfl, Nat.le_of_ble_eq_true rfl⟩  rfl hl.1 rfl (Nat.le_of_ble_eq_true rfl) dX10_both_105 ⟨Nat.le_of_ble_eq_true rfl, Nat.le_of_ble_eq_true rfl⟩) hS (fun r7 u H locs hw hM hS => ?_)
        obtain ⟨rfl, xr7⟩ := hw
        have hM : Mem D A ad ns I L G H := hM
        exact m_lret hx hb hr hlocks hM hS (Nat.le_of_ble_eq_true rfl) (Nat.le_of_ble_eq_true rfl) ⟨rfl, trivial⟩ dX10_both_108
    · refine lv_tableIn (off := 108) (tgt := 109) hx hb dX10_both_1 (by omega) (by omega) (by rw [qc1]; rfl) (by decide) ?_
      refine lv_lload_n hx hb dX10_both_109 rfl (lv_at hl 1 rfl) ?_
      refine lv_lload_n hx hb dX10_both_110 rfl (lv_at hl 2 rfl) ?_
      refine W.lcmp hx hb dX10_both_111 ?_
      refine lv_if_gt (tgt := 119) hx hb dX10_both_112 (by decide) (fun c8 => ?_) (fun c8 => ?_)
      · have hc8 := c8
        have q8 := l_gt hc8
        refine lv_iconst (v := (0)) hx hb dX10_both_119 (by decide) ?_
        refine m_calll (m_runS (As := [.int (0)]) (rest := []) hx hb hml hown hts hE hM hS hA ce_X10_truth tb_1637 (V_X10_truth l D A ad ns I L G (0) hI (by first | omega | decide)) rfl rfl ⟨Nat.le_of_ble_eq_true rfl, Nat.le_of_ble_eq_true rfl⟩  rfl hl.1 rfl (Nat.le_of_ble_eq_true rfl) dX10_both_120 ⟨Nat.le_of_ble_eq_true rfl, Nat.le_of_ble_eq_true rfl⟩) hS (fun r9 u H locs hw hM hS => ?_)
        obtain ⟨rfl, xr9⟩ := hw
        have hM : Mem D A ad ns I L G H := hM
        exact m_lret hx hb hr hlocks hM hS (Nat.le_of_ble_eq_true rfl) (Nat.le_of_ble_eq_true rfl) ⟨rfl, trivial⟩ dX10_both_123
      · have hc8 := c8
        have q8 := l_ngt hc8
        refine lv_iconst (v := (1)) hx hb dX10_both_115 (by decide) ?_
        refine lv_goto (tgt := 120) hx hb dX10_both_116 (by decide) ?_
        refine m_calll (m_runS (As := [.int (1)]) (rest := []) hx hb hml hown hts hE hM hS hA ce_X10_truth tb_1637 (V_X10_truth l D A ad ns I L G (1) hI (by first | omega | decide)) rfl rfl ⟨Nat.le_of_ble_eq_true rfl, Nat.le_of_ble_eq_true rfl⟩  rfl hl.1 rfl (Nat.le_of_ble_eq_true rfl) dX10_both_120 ⟨Nat.le_of_ble_eq_true rfl, Nat.le_of_ble_eq_true rfl⟩) hS (fun r10 u H locs hw hM hS => ?_)
        obtain ⟨rfl, xr10⟩ := hw
        have hM : Mem D A ad ns I L G H := hM
        exact m_lret hx hb hr hlocks hM hS (Nat.le_of_ble_eq_true rfl) (Nat.le_of_ble_eq_true rfl) ⟨rfl, trivial⟩ dX10_both_123
    · refine lv_tableIn (off := 123) (tgt := 124) hx hb dX10_both_1 (by omega) (by omega) (by rw [qc1]; rfl) (by decide) ?_
      refine lv_lload_n hx hb dX10_both_124 rfl (lv_at hl 1 rfl) ?_
      refine lv_lload_n hx hb dX10_both_125 rfl (lv_at hl 2 rfl) ?_
      refine W.lcmp hx hb dX10_both_126 ?_
      refine lv_if_ne (tgt := 134) hx hb dX10_both_127 (by decide) (fun c11 => ?_) (fun c11 => ?_)
      · have hc11 := c11
        have q11 := l_ne hc11
        refine lv_iconst (v := (0)) hx hb dX10_both_134 (by decide) ?_
        refine m_calll (m_runS (As := [.int (0)]) (rest := []) hx hb hml hown hts hE hM hS hA ce_X10_truth tb_1637 (V_X10_truth l D A ad ns I L G (0) hI (by first | omega | decide)) rfl rfl ⟨Nat.le_of_ble_eq_true rfl, Nat.le_of_ble_eq_true rfl⟩  rfl hl.1 rfl (Nat.le_of_ble_eq_true rfl) dX10_both_135 ⟨Nat.le_of_ble_eq_true rfl, Nat.le_of_ble_eq_true rfl⟩) hS (fun r12 u H locs hw hM hS => ?_)
        obtain ⟨rfl, xr12⟩ := hw
        have hM : Mem D A ad ns I L G H := hM
        exact m_lret hx hb hr hlocks hM hS (Nat.le_of_ble_eq_true rfl) (Nat.le_of_ble_eq_true rfl) ⟨rfl, trivial⟩ dX10_both_138
      · have hc11 := c11
        have q11 := l_eq hc11
        refine lv_iconst (v := (1)) hx hb dX10_both_130 (by decide) ?_
        refine lv_goto (tgt := 135) hx hb dX10_both_131 (by decide) ?_
        refine m_calll (m_runS (As := [.int (1)]) (rest := []) hx hb hml hown hts hE hM hS hA ce_X10_truth tb_1637 (V_X10_truth l D A ad ns I L G (1) hI (by first | omega | decide)) rfl rfl ⟨Nat.le_of_ble_eq_true rfl, Nat.le_of_ble_eq_true rfl⟩  rfl hl.1 rfl (Nat.le_of_ble_eq_true rfl) dX10_both_135 ⟨Nat.le_of_ble_eq_true rfl, Nat.le_of_ble_eq_true rfl⟩) hS (fun r13 u H locs hw hM hS => ?_)
        obtain ⟨rfl, xr13⟩ := hw
        have hM : Mem D A ad ns I L G H := hM
        exact m_lret hx hb hr hlocks hM hS (Nat.le_of_ble_eq_true rfl) (Nat.le_of_ble_eq_true rfl) ⟨rfl, trivial⟩ dX10_both_138
    · refine lv_tableIn (off := 138) (tgt := 139) hx hb dX10_both_1 (by omega) (by omega) (by rw [qc1]; rfl) (by decide) ?_
      refine lv_lload_n hx hb dX10_both_139 rfl (lv_at hl 1 rfl) ?_
      refine lv_lload_n hx hb dX10_both_140 rfl (lv_at hl 2 rfl) ?_
      refine W.lcmp hx hb dX10_both_141 ?_
      refine lv_if_lt (tgt := 149) hx hb dX10_both_142 (by decide) (fun c14 => ?_) (fun c14 => ?_)
      · have hc14 := c14
        have q14 := l_lt hc14
        refine lv_iconst (v := (0)) hx hb dX10_both_149 (by decide) ?_
        refine m_calll (m_runS (As := [.int (0)]) (rest := []) hx hb hml hown hts hE hM hS hA ce_X10_truth tb_1637 (V_X10_truth l D A ad ns I L G (0) hI (by first | omega | decide)) rfl rfl ⟨Nat.le_of_ble_eq_true rfl, Nat.le_of_ble_eq_true rfl⟩  rfl hl.1 rfl (Nat.le_of_ble_eq_true rfl) dX10_both_150 ⟨Nat.le_of_ble_eq_true rfl, Nat.le_of_ble_eq_true rfl⟩) hS (fun r15 u H locs hw hM hS => ?_)
        obtain ⟨rfl, xr15⟩ := hw
        have hM : Mem D A ad ns I L G H := hM
        exact m_lret hx hb hr hlocks hM hS (Nat.le_of_ble_eq_true rfl) (Nat.le_of_ble_eq_true rfl) ⟨rfl, trivial⟩ dX10_both_153
      · have hc14 := c14
        have q14 := l_nlt hc14
        refine lv_iconst (v := (1)) hx hb dX10_both_145 (by decide) ?_
        refine lv_goto (tgt := 150) hx hb dX10_both_146 (by decide) ?_
        refine m_calll (m_runS (As := [.int (1)]) (rest := []) hx hb hml hown hts hE hM hS hA ce_X10_truth tb_1637 (V_X10_truth l D A ad ns I L G (1) hI (by first | omega | decide)) rfl rfl ⟨Nat.le_of_ble_eq_true rfl, Nat.le_of_ble_eq_true rfl⟩  rfl hl.1 rfl (Nat.le_of_ble_eq_true rfl) dX10_both_150 ⟨Nat.le_of_ble_eq_true rfl, Nat.le_of_ble_eq_true rfl⟩) hS (fun r16 u H locs hw hM hS => ?_)
        obtain ⟨rfl, xr16⟩ := hw
        have hM : Mem D A ad ns I L G H := hM
        exact m_lret hx hb hr hlocks hM hS (Nat.le_of_ble_eq_true rfl) (Nat.le_of_ble_eq_true rfl) ⟨rfl, trivial⟩ dX10_both_153
    · refine lv_tableIn (off := 153) (tgt := 154) hx hb dX10_both_1 (by omega) (by omega) (by rw [qc1]; rfl) (by decide) ?_
      refine lv_lload_n hx hb dX10_both_154 rfl (lv_at hl 1 rfl) ?_
      refine lv_lload_n hx hb dX10_both_155 rfl (lv_at hl 2 rfl) ?_
      refine W.lcmp hx hb dX10_both_156 ?_
      refine lv_if_le (tgt := 164) hx hb dX10_both_157 (by decide) (fun c17 => ?_) (fun c17 => ?_)
      · have hc17 := c17
        have q17 := l_le hc17
        refine lv_iconst (v := (0)) hx hb dX10_both_164 (by decide) ?_
        refine m_calll (m_runS (As := [.int (0)]) (rest := []) hx hb hml hown hts hE hM hS hA ce_X10_truth tb_1637 (V_X10_truth l D A ad ns I L G (0) hI (by first | omega | decide)) rfl rfl ⟨Nat.le_of_ble_eq_true rfl, Nat.le_of_ble_eq_true rfl⟩  rfl hl.1 rfl (Nat.le_of_ble_eq_true rfl) dX10_both_165 ⟨Nat.le_of_ble_eq_true rfl, Nat.le_of_ble_eq_true rfl⟩) hS (fun r18 u H locs hw hM hS => ?_)
        obtain ⟨rfl, xr18⟩ := hw
        have hM : Mem D A ad ns I L G H := hM
        exact m_lret hx hb hr hlocks hM hS (Nat.le_of_ble_eq_true rfl) (Nat.le_of_ble_eq_true rfl) ⟨rfl, trivial⟩ dX10_both_168
      · have hc17 := c17
        have q17 := l_nle hc17
        refine lv_iconst (v := (1)) hx hb dX10_both_160 (by decide) ?_
        refine lv_goto (tgt := 165) hx hb dX10_both_161 (by decide) ?_
        refine m_calll (m_runS (As := [.int (1)]) (rest := []) hx hb hml hown hts hE hM hS hA ce_X10_truth tb_1637 (V_X10_truth l D A ad ns I L G (1) hI (by first | omega | decide)) rfl rfl ⟨Nat.le_of_ble_eq_true rfl, Nat.le_of_ble_eq_true rfl⟩  rfl hl.1 rfl (Nat.le_of_ble_eq_true rfl) dX10_both_165 ⟨Nat.le_of_ble_eq_true rfl, Nat.le_of_ble_eq_true rfl⟩) hS (fun r19 u H locs hw hM hS => ?_)
        obtain ⟨rfl, xr19⟩ := hw
        have hM : Mem D A ad ns I L G H := hM
        exact m_lret hx hb hr hlocks hM hS (Nat.le_of_ble_eq_true rfl) (Nat.le_of_ble_eq_true rfl) ⟨rfl, trivial⟩ dX10_both_168
    · refine lv_tableIn (off := 172) (tgt := 173) hx hb dX10_both_1 (by omega) (by omega) (by rw [qc1]; rfl) (by decide) ?_
      refine lv_lload_n hx hb dX10_both_173 rfl (lv_at hl 1 rfl) ?_
      refine lv_lload_n hx hb dX10_both_174 rfl (lv_at hl 2 rfl) ?_
      refine lv_lor hx hb dX10_both_175 ?_
      refine lv_topl (fun v20 ev20 => ?_)
      exact m_lret hx hb hr hlocks hM hS (Nat.le_of_ble_eq_true rfl) (Nat.le_of_ble_eq_true rfl) ⟨rfl, trivial⟩ dX10_both_176
    · refine lv_tableIn (off := 168) (tgt := 169) hx hb dX10_both_1 (by omega) (by omega) (by rw [qc1]; rfl) (by decide) ?_
      refine lv_lload_n hx hb dX10_both_169 rfl (lv_at hl 1 rfl) ?_
      refine lv_lload_n hx hb dX10_both_170 rfl (lv_at hl 2 rfl) ?_
      refine lv_land hx hb dX10_both_171 ?_
      refine lv_topl (fun v21 ev21 => ?_)
      exact m_lret hx hb hr hlocks hM hS (Nat.le_of_ble_eq_true rfl) (Nat.le_of_ble_eq_true rfl) ⟨rfl, trivial⟩ dX10_both_172
    · refine lv_tableIn (off := 172) (tgt := 173) hx hb dX10_both_1 (by omega) (by omega) (by rw [qc1]; rfl) (by decide) ?_
      refine lv_lload_n hx hb dX10_both_173 rfl (lv_at hl 1 rfl) ?_
      refine lv_lload_n hx hb dX10_both_174 rfl (lv_at hl 2 rfl) ?_
      refine lv_lor hx hb dX10_both_175 ?_
      refine lv_topl (fun v22 ev22 => ?_)
      exact m_lret hx hb hr hlocks hM hS (Nat.le_of_ble_eq_true rfl) (Nat.le_of_ble_eq_true rfl) ⟨rfl, trivial⟩ dX10_both_176
    · refine lv_tableIn (off := 172) (tgt := 173) hx hb dX10_both_1 (by omega) (by omega) (by rw [qc1]; rfl) (by decide) ?_
      refine lv_lload_n hx hb dX10_both_173 rfl (lv_at hl 1 rfl) ?_
      refine lv_lload_n hx hb dX10_both_174 rfl (lv_at hl 2 rfl) ?_
      refine lv_lor hx hb dX10_both_175 ?_
      refine lv_topl (fun v23 ev23 => ?_)
      exact m_lret hx hb hr hlocks hM hS (Nat.le_of_ble_eq_true rfl) (Nat.le_of_ble_eq_true rfl) ⟨rfl, trivial⟩ dX10_both_176
    · refine lv_tableIn (off := 75) (tgt := 76) hx hb dX10_both_1 (by omega) (by omega) (by rw [qc1]; rfl) (by decide) ?_
      refine lv_lload_n hx hb dX10_both_76 rfl (lv_at hl 1 rfl) ?_
      refine lv_lload_n hx hb dX10_both_77 rfl (lv_at hl 2 rfl) ?_
      refine lv_lmul hx hb dX10_both_78 ?_
      refine lv_topl (fun v24 ev24 => ?_)
      exact m_lret hx hb hr hlocks hM hS (Nat.le_of_ble_eq_true rfl) (Nat.le_of_ble_eq_true rfl) ⟨rfl, trivial⟩ dX10_both_79
    · refine lv_tableIn (off := 79) (tgt := 80) hx hb dX10_both_1 (by omega) (by omega) (by rw [qc1]; rfl) (by decide) ?_
      refine lv_lload_n hx hb dX10_both_80 rfl (lv_at hl 2 rfl) ?_
      refine lv_lconst (v := 0) hx hb dX10_both_81 (by decide) ?_
      refine W.lcmp hx hb dX10_both_82 ?_
      refine lv_if_ne (tgt := 90) hx hb dX10_both_83 (by decide) (fun c25 => ?_) (fun c25 => ?_)
      · have hc25 := c25
        have q25 := l_ne hc25
        refine lv_lload_n hx hb dX10_both_90 rfl (lv_at hl 1 rfl) ?_
        refine lv_lload_n hx hb dX10_both_91 rfl (lv_at hl 2 rfl) ?_
        refine lv_ldiv hx hb dX10_both_92 (lz_ne (by assumption)) ?_
        refine lv_topl (fun v26 ev26 => ?_)
        exact m_lret hx hb hr hlocks hM hS (Nat.le_of_ble_eq_true rfl) (Nat.le_of_ble_eq_true rfl) ⟨rfl, trivial⟩ dX10_both_93
      · have hc25 := c25
        have q25 := l_eq hc25
        refine lv_lconst (v := 0) hx hb dX10_both_86 (by decide) ?_
        refine lv_goto (tgt := 93) hx hb dX10_both_87 (by decide) ?_
        exact m_lret hx hb hr hlocks hM hS (Nat.le_of_ble_eq_true rfl) (Nat.le_of_ble_eq_true rfl) ⟨rfl, trivial⟩ dX10_both_93
theorem dX10_isLaw_0 : decode cX10_isLaw 0 = .ok (.aload_n 0, 1) := by decide +kernel
theorem dX10_isLaw_1 : decode cX10_isLaw 1 = .ok (.invokevirtual 188, 3) := by decide +kernel
theorem dX10_isLaw_4 : decode cX10_isLaw 4 = .ok (.ifCond .eq 23, 3) := by decide +kernel
theorem dX10_isLaw_7 : decode cX10_isLaw 7 = .ok (.iload_n 1, 1) := by decide +kernel
theorem dX10_isLaw_8 : decode cX10_isLaw 8 = .ok (.i2l, 1) := by decide +kernel
theorem dX10_isLaw_9 : decode cX10_isLaw 9 = .ok (.lconst 0, 1) := by decide +kernel
theorem dX10_isLaw_10 : decode cX10_isLaw 10 = .ok (.aload_n 0, 1) := by decide +kernel
theorem dX10_isLaw_11 : decode cX10_isLaw 11 = .ok (.getfield 371, 3) := by decide +kernel
theorem dX10_isLaw_14 : decode cX10_isLaw 14 = .ok (.iconst 1, 1) := by decide +kernel
theorem dX10_isLaw_15 : decode cX10_isLaw 15 = .ok (.isub, 1) := by decide +kernel
theorem dX10_isLaw_16 : decode cX10_isLaw 16 = .ok (.i2l, 1) := by decide +kernel
theorem dX10_isLaw_17 : decode cX10_isLaw 17 = .ok (.invokestatic 192, 3) := by decide +kernel
theorem dX10_isLaw_20 : decode cX10_isLaw 20 = .ok (.ifCond .eq 7, 3) := by decide +kernel
theorem dX10_isLaw_23 : decode cX10_isLaw 23 = .ok (.iconst 1, 1) := by decide +kernel
theorem dX10_isLaw_24 : decode cX10_isLaw 24 = .ok (.goto 4, 3) := by decide +kernel
theorem dX10_isLaw_27 : decode cX10_isLaw 27 = .ok (.iconst 0, 1) := by decide +kernel
theorem dX10_isLaw_28 : decode cX10_isLaw 28 = .ok (.ireturn, 1) := by decide +kernel
theorem ce_X10_isLaw : CeV RX10 yX10_isLaw cX10_isLaw 2 (some .boolean) 1 := ⟨tb_1610, tp_80, tb_11, tb_1611, rfl, by decide, by decide, by decide +kernel⟩
set_option maxHeartbeats 4000000 in
set_option maxRecDepth 20000 in
theorem V_X10_isLaw (l : Launch) (D : va_G) (A : Nat → Prop) (ad : Nat → Nat) (ns : List Nat) (I : MI) (L : ML) (G : MG) (a0 : Int32) (hJ : SGM ns G) (hI : INV I) : Met l yX10_isLaw (wd yX10_isLaw cX10_isLaw 2 (some .boolean)) ({ frames := 1, cells := 0, slots := 0, locals := 25 }) (va_Pc [.ref (ad (1000)), .int a0] (PM D A ad ns I L G)) (va_Qi (fun r u => u = (ad, ns, I, L, G) ∧ (Bo r ((I 1001 0).toInt = 1 ∧ 0 ≤ a0.toInt ∧ a0.toInt < (I 1000 28).toInt))) (BM D A) A) 0 0 A := by
  refine m_ofW (by decide) (Nat.le_of_ble_eq_true rfl) ?_
  intro p e s m below meth c ls args hC hE hM hA hS hl
  obtain ⟨hx, hb, hml, hown, hts, hr, hlocks, hin⟩ := hC
  have k0 : (0 : Int32).toInt = 0 := by decide
  have k1 : (1 : Int32).toInt = 1 := by decide
  have kl0 : (0 : Int64).toInt = 0 := by decide
  have hl : lv_has ls 2 [(0, .ref (ad (1000))), (1, .int (a0))] := hl
  refine lv_aload_n hx hb dX10_isLaw_0 rfl (lv_at hl 0 rfl) ?_
  refine m_calli (m_runV (1000) (As := []) (rest := []) hx hb hml hown hts hE hM hS hA ce_X10_isTown tb_1441 (V_X10_isTown l D A ad ns I L G hJ hI) rfl rfl ⟨Nat.le_of_ble_eq_true rfl, Nat.le_of_ble_eq_true rfl⟩ hJ.1 rfl rfl (by decide) rfl hl.1 rfl (Nat.le_of_ble_eq_true rfl) dX10_isLaw_1 ⟨Nat.le_of_ble_eq_true rfl, Nat.le_of_ble_eq_true rfl⟩) hS (fun r1 u H locs hw hM hS => ?_)
  obtain ⟨rfl, xr1⟩ := hw
  have hM : Mem D A ad ns I L G H := hM
  have yr1 := bo01 xr1
  refine lv_if_eq (tgt := 27) hx hb dX10_isLaw_4 (by decide) (fun c2 => ?_) (fun c2 => ?_)
  · have hc2 := c2
    have q2 := xr1.f hc2
    refine lv_iconst (v := (0)) hx hb dX10_isLaw_27 (by decide) ?_
    exact m_zret hx hb hr rfl hlocks hM hS (Nat.le_of_ble_eq_true rfl) (Nat.le_of_ble_eq_true rfl) ⟨rfl, (Bo.n (by omega))⟩ dX10_isLaw_28
  · have hc2 := c2
    have q2 := xr1.t hc2
    refine lv_iload_n hx hb dX10_isLaw_7 rfl (lv_at hl 1 rfl) ?_
    refine lv_i2l hx hb dX10_isLaw_8 rfl ?_
    refine lv_topl (fun v3 ev3 => ?_)
    have tv3 := q_i2l ev3
    refine lv_lconst (v := 0) hx hb dX10_isLaw_9 (by decide) ?_
    refine lv_aload_n hx hb dX10_isLaw_10 rfl (lv_at hl 0 rfl) ?_
    refine m_geti (1000) 28 hx hb hts hown hE oc10 hM hJ.1 rfl (by decide) rfl tb_1205 dX10_isLaw_11 ?_
    have g4 := hI.get (1000) 28 (lo := 0) (hi := 6) rfl
    refine lv_iconst (v := (1)) hx hb dX10_isLaw_14 (by decide) ?_
    refine lv_isub hx hb dX10_isLaw_15 ?_
    refine lv_topi (fun v5 ev5 => ?_)
    have tv5 := a_sub ev5 (by omega) (by omega)
    refine lv_i2l hx hb dX10_isLaw_16 rfl ?_
    refine lv_topl (fun v6 ev6 => ?_)
    have tv6 := q_i2l ev6
    refine m_calli (m_runS (As := [.long (v3), .long (0), .long (v6)]) (rest := []) hx hb hml hown hts hE hM hS hA ce_X10_in tb_1425 (V_X10_in l D A ad ns I L G (v3) (0) (v6) hI) rfl rfl ⟨Nat.le_of_ble_eq_true rfl, Nat.le_of_ble_eq_true rfl⟩  rfl hl.1 rfl (Nat.le_of_ble_eq_true rfl) dX10_isLaw_17 ⟨Nat.le_of_ble_eq_true rfl, Nat.le_of_ble_eq_true rfl⟩) hS (fun r7 u H locs hw hM hS => ?_)
    obtain ⟨rfl, xr7⟩ := hw
    have hM : Mem D A ad ns I L G H := hM
    have yr7 := bo01 xr7
    refine lv_if_eq (tgt := 27) hx hb dX10_isLaw_20 (by decide) (fun c8 => ?_) (fun c8 => ?_)
    · have hc8 := c8
      have q8 := xr7.f hc8
      refine lv_iconst (v := (0)) hx hb dX10_isLaw_27 (by decide) ?_
      exact m_zret hx hb hr rfl hlocks hM hS (Nat.le_of_ble_eq_true rfl) (Nat.le_of_ble_eq_true rfl) ⟨rfl, (Bo.n (by omega))⟩ dX10_isLaw_28
    · have hc8 := c8
      have q8 := xr7.t hc8
      refine lv_iconst (v := (1)) hx hb dX10_isLaw_23 (by decide) ?_
      refine lv_goto (tgt := 28) hx hb dX10_isLaw_24 (by decide) ?_
      exact m_zret hx hb hr rfl hlocks hM hS (Nat.le_of_ble_eq_true rfl) (Nat.le_of_ble_eq_true rfl) ⟨rfl, (Bo.y (by omega))⟩ dX10_isLaw_28
theorem dX10_asks_0 : decode cX10_asks 0 = .ok (.aload_n 0, 1) := by decide +kernel
theorem dX10_asks_1 : decode cX10_asks 1 = .ok (.getfield 111, 3) := by decide +kernel
theorem dX10_asks_4 : decode cX10_asks 4 = .ok (.iconst 0, 1) := by decide +kernel
theorem dX10_asks_5 : decode cX10_asks 5 = .ok (.iload_n 1, 1) := by decide +kernel
theorem dX10_asks_6 : decode cX10_asks 6 = .ok (.i2l, 1) := by decide +kernel
theorem dX10_asks_7 : decode cX10_asks 7 = .ok (.lastore, 1) := by decide +kernel
theorem dX10_asks_8 : decode cX10_asks 8 = .ok (.aload_n 0, 1) := by decide +kernel
theorem dX10_asks_9 : decode cX10_asks 9 = .ok (.getfield 111, 3) := by decide +kernel
theorem dX10_asks_12 : decode cX10_asks 12 = .ok (.iconst 1, 1) := by decide +kernel
theorem dX10_asks_13 : decode cX10_asks 13 = .ok (.aload_n 0, 1) := by decide +kernel
theorem dX10_asks_14 : decode cX10_asks 14 = .ok (.getfield 7, 3) := by decide +kernel
theorem dX10_asks_17 : decode cX10_asks 17 = .ok (.iconst 5, 1) := by decide +kernel
theorem dX10_asks_18 : decode cX10_asks 18 = .ok (.iaload, 1) := by decide +kernel
theorem dX10_asks_19 : decode cX10_asks 19 = .ok (.i2l, 1) := by decide +kernel
theorem dX10_asks_20 : decode cX10_asks 20 = .ok (.lastore, 1) := by decide +kernel
theorem dX10_asks_21 : decode cX10_asks 21 = .ok (.aload_n 0, 1) := by decide +kernel
theorem dX10_asks_22 : decode cX10_asks 22 = .ok (.getfield 111, 3) := by decide +kernel
theorem dX10_asks_25 : decode cX10_asks 25 = .ok (.iconst 2, 1) := by decide +kernel
theorem dX10_asks_26 : decode cX10_asks 26 = .ok (.aload_n 0, 1) := by decide +kernel
theorem dX10_asks_27 : decode cX10_asks 27 = .ok (.getfield 7, 3) := by decide +kernel
theorem dX10_asks_30 : decode cX10_asks 30 = .ok (.bipush 6, 2) := by decide +kernel
theorem dX10_asks_32 : decode cX10_asks 32 = .ok (.iaload, 1) := by decide +kernel
theorem dX10_asks_33 : decode cX10_asks 33 = .ok (.i2l, 1) := by decide +kernel
theorem dX10_asks_34 : decode cX10_asks 34 = .ok (.lastore, 1) := by decide +kernel
theorem dX10_asks_35 : decode cX10_asks 35 = .ok (.aload_n 0, 1) := by decide +kernel
theorem dX10_asks_36 : decode cX10_asks 36 = .ok (.getfield 111, 3) := by decide +kernel
theorem dX10_asks_39 : decode cX10_asks 39 = .ok (.iconst 3, 1) := by decide +kernel
theorem dX10_asks_40 : decode cX10_asks 40 = .ok (.iload_n 2, 1) := by decide +kernel
theorem dX10_asks_41 : decode cX10_asks 41 = .ok (.aload_n 0, 1) := by decide +kernel
theorem dX10_asks_42 : decode cX10_asks 42 = .ok (.getfield 7, 3) := by decide +kernel
theorem dX10_asks_45 : decode cX10_asks 45 = .ok (.bipush 8, 2) := by decide +kernel
theorem dX10_asks_47 : decode cX10_asks 47 = .ok (.iaload, 1) := by decide +kernel
theorem dX10_asks_48 : decode cX10_asks 48 = .ok (.if_icmp .ge 13, 3) := by decide +kernel
theorem dX10_asks_51 : decode cX10_asks 51 = .ok (.aload_n 0, 1) := by decide +kernel
theorem dX10_asks_52 : decode cX10_asks 52 = .ok (.getfield 34, 3) := by decide +kernel
theorem dX10_asks_55 : decode cX10_asks 55 = .ok (.iload_n 2, 1) := by decide +kernel
theorem dX10_asks_56 : decode cX10_asks 56 = .ok (.iaload, 1) := by decide +kernel
theorem dX10_asks_57 : decode cX10_asks 57 = .ok (.i2l, 1) := by decide +kernel
theorem dX10_asks_58 : decode cX10_asks 58 = .ok (.goto 4, 3) := by decide +kernel
theorem dX10_asks_61 : decode cX10_asks 61 = .ok (.lconst 0, 1) := by decide +kernel
theorem dX10_asks_62 : decode cX10_asks 62 = .ok (.lastore, 1) := by decide +kernel
theorem dX10_asks_63 : decode cX10_asks 63 = .ok (.aload_n 0, 1) := by decide +kernel
theorem dX10_asks_64 : decode cX10_asks 64 = .ok (.getfield 111, 3) := by decide +kernel
theorem dX10_asks_67 : decode cX10_asks 67 = .ok (.iconst 4, 1) := by decide +kernel
theorem dX10_asks_68 : decode cX10_asks 68 = .ok (.aload_n 0, 1) := by decide +kernel
theorem dX10_asks_69 : decode cX10_asks 69 = .ok (.iload_n 1, 1) := by decide +kernel
theorem dX10_asks_70 : decode cX10_asks 70 = .ok (.invokevirtual 433, 3) := by decide +kernel
theorem dX10_asks_73 : decode cX10_asks 73 = .ok (.iconst (-1), 1) := by decide +kernel
theorem dX10_asks_74 : decode cX10_asks 74 = .ok (.if_icmp .ne 9, 3) := by decide +kernel
theorem dX10_asks_77 : decode cX10_asks 77 = .ok (.ldc2_w 440, 3) := by decide +kernel
theorem dX10_asks_80 : decode cX10_asks 80 = .ok (.goto 9, 3) := by decide +kernel
theorem dX10_asks_83 : decode cX10_asks 83 = .ok (.aload_n 0, 1) := by decide +kernel
theorem dX10_asks_84 : decode cX10_asks 84 = .ok (.iload_n 1, 1) := by decide +kernel
theorem dX10_asks_85 : decode cX10_asks 85 = .ok (.invokevirtual 433, 3) := by decide +kernel
theorem dX10_asks_88 : decode cX10_asks 88 = .ok (.i2l, 1) := by decide +kernel
theorem dX10_asks_89 : decode cX10_asks 89 = .ok (.lastore, 1) := by decide +kernel
theorem dX10_asks_90 : decode cX10_asks 90 = .ok (.iconst 0, 1) := by decide +kernel
theorem dX10_asks_91 : decode cX10_asks 91 = .ok (.istore_n 3, 1) := by decide +kernel
theorem dX10_asks_92 : decode cX10_asks 92 = .ok (.iload_n 3, 1) := by decide +kernel
theorem dX10_asks_93 : decode cX10_asks 93 = .ok (.bipush 8, 2) := by decide +kernel
theorem dX10_asks_95 : decode cX10_asks 95 = .ok (.if_icmp .ge 39, 3) := by decide +kernel
theorem dX10_asks_98 : decode cX10_asks 98 = .ok (.aload_n 0, 1) := by decide +kernel
theorem dX10_asks_99 : decode cX10_asks 99 = .ok (.getfield 111, 3) := by decide +kernel
theorem dX10_asks_102 : decode cX10_asks 102 = .ok (.iconst 5, 1) := by decide +kernel
theorem dX10_asks_103 : decode cX10_asks 103 = .ok (.iload_n 3, 1) := by decide +kernel
theorem dX10_asks_104 : decode cX10_asks 104 = .ok (.iadd, 1) := by decide +kernel
theorem dX10_asks_105 : decode cX10_asks 105 = .ok (.iload_n 3, 1) := by decide +kernel
theorem dX10_asks_106 : decode cX10_asks 106 = .ok (.aload_n 0, 1) := by decide +kernel
theorem dX10_asks_107 : decode cX10_asks 107 = .ok (.getfield 7, 3) := by decide +kernel
theorem dX10_asks_110 : decode cX10_asks 110 = .ok (.bipush 9, 2) := by decide +kernel
theorem dX10_asks_112 : decode cX10_asks 112 = .ok (.iaload, 1) := by decide +kernel
theorem dX10_asks_113 : decode cX10_asks 113 = .ok (.if_icmp .ge 13, 3) := by decide +kernel
theorem dX10_asks_116 : decode cX10_asks 116 = .ok (.aload_n 0, 1) := by decide +kernel
theorem dX10_asks_117 : decode cX10_asks 117 = .ok (.getfield 152, 3) := by decide +kernel
theorem dX10_asks_120 : decode cX10_asks 120 = .ok (.iload_n 3, 1) := by decide +kernel
theorem dX10_asks_121 : decode cX10_asks 121 = .ok (.iaload, 1) := by decide +kernel
theorem dX10_asks_122 : decode cX10_asks 122 = .ok (.i2l, 1) := by decide +kernel
theorem dX10_asks_123 : decode cX10_asks 123 = .ok (.goto 4, 3) := by decide +kernel
theorem dX10_asks_126 : decode cX10_asks 126 = .ok (.lconst 0, 1) := by decide +kernel
theorem dX10_asks_127 : decode cX10_asks 127 = .ok (.lastore, 1) := by decide +kernel
theorem dX10_asks_128 : decode cX10_asks 128 = .ok (.iinc 3 1, 3) := by decide +kernel
theorem dX10_asks_131 : decode cX10_asks 131 = .ok (.goto (-39), 3) := by decide +kernel
theorem dX10_asks_134 : decode cX10_asks 134 = .ok (.return_, 1) := by decide +kernel
theorem ce_X10_asks : CeV RX10 yX10_asks cX10_asks 4 none 2 := ⟨tb_1623, tp_83, tb_11, tb_1624, rfl, by decide, by decide, by decide +kernel⟩
set_option maxHeartbeats 4000000 in
set_option maxRecDepth 20000 in
theorem V_X10_asks (l : Launch) (D : va_G) (A : Nat → Prop) (ad : Nat → Nat) (ns : List Nat) (I : MI) (L : ML) (G : MG) (a0 : Int32) (a1 : Int32) (hJ : SGM ns G) (hI : INV I) (ha0 : 0 ≤ a0.toInt ∧ a0.toInt ≤ 23) (ha1 : 0 ≤ a1.toInt ∧ a1.toInt ≤ 23) : Met l yX10_asks (wd yX10_asks cX10_asks 4 none) ({ frames := 1, cells := 0, slots := 0, locals := 21 }) (va_Pc [.ref (ad (1000)), .int a0, .int a1] (PM D A ad ns I L G)) (va_Qv (fun u => ∃ I2 L2, u = (ad, ns, I2, L2, G) ∧ INV I2 ∧ Kp [] [] I I2) (BM D A) A) 0 0 A := by
  refine m_ofW (by decide) (Nat.le_of_ble_eq_true rfl) ?_
  intro p e s m below meth c ls args hC hE hM hA hS hl
  obtain ⟨hx, hb, hml, hown, hts, hr, hlocks, hin⟩ := hC
  have km1 : (-1 : Int32).toInt = -1 := by decide
  have k0 : (0 : Int32).toInt = 0 := by decide
  have k1 : (1 : Int32).toInt = 1 := by decide
  have k2 : (2 : Int32).toInt = 2 := by decide
  have k3 : (3 : Int32).toInt = 3 := by decide
  have k4 : (4 : Int32).toInt = 4 := by decide
  have k5 : (5 : Int32).toInt = 5 := by decide
  have k6 : (6 : Int32).toInt = 6 := by decide
  have k8 : (8 : Int32).toInt = 8 := by decide
  have k9 : (9 : Int32).toInt = 9 := by decide
  have kl0 : (0 : Int64).toInt = 0 := by decide
  have kl8 : (8 : Int64).toInt = 8 := by decide
  have hK : Kp [] [] I I := Kp.rf
  have hl : lv_has ls 4 [(0, .ref (ad (1000))), (1, .int (a0)), (2, .int (a1))] := hl
  refine lv_aload_n hx hb dX10_asks_0 rfl (lv_at hl 0 rfl) ?_
  refine m_getr (1000) 43 (1043) hx hb hts hown hE oc10 hM hJ.1 rfl (by decide) rfl (hJ.2 43 (by decide)).2 (by decide) tb_1220 dX10_asks_1 ?_
  refine lv_iconst (v := (0)) hx hb dX10_asks_4 (by decide) ?_
  refine lv_iload_n hx hb dX10_asks_5 rfl (lv_at hl 1 rfl) ?_
  refine lv_i2l hx hb dX10_asks_6 rfl ?_
  refine lv_topl (fun v1 ev1 => ?_)
  have tv1 := q_i2l ev1
  refine m_last (1043) hx hb hE hM hS (hJ.2 43 (by decide)).1 rfl (vp_in_iff.mpr (by decide)) dX10_asks_7 (fun H locs L2 eL2 hM hS => ?_)
  refine lv_aload_n hx hb dX10_asks_8 rfl (lv_at hl 0 rfl) ?_
  refine m_getr (1000) 43 (1043) hx hb hts hown hE oc10 hM hJ.1 rfl (by decide) rfl (hJ.2 43 (by decide)).2 (by decide) tb_1220 dX10_asks_9 ?_
  refine lv_iconst (v := (1)) hx hb dX10_asks_12 (by decide) ?_
  refine lv_aload_n hx hb dX10_asks_13 rfl (lv_at hl 0 rfl) ?_
  refine m_getr (1000) 1 (1001) hx hb hts hown hE oc10 hM hJ.1 rfl (by decide) rfl (hJ.2 1 (by decide)).2 (by decide) tb_1178 dX10_asks_14 ?_
  refine lv_iconst (v := (5)) hx hb dX10_asks_17 (by decide) ?_
  refine m_iald (1001) hx hb hE hM (hJ.2 1 (by decide)).1 rfl (vp_in_iff.mpr (by decide)) dX10_asks_18 ?_
  rw [show (5 : Int32).toNatClampNeg = 5 from rfl]
  have g3 := hI.get (1001) 5 (lo := 0) (hi := 11) rfl
  refine lv_i2l hx hb dX10_asks_19 rfl ?_
  refine lv_topl (fun v4 ev4 => ?_)
  have tv4 := q_i2l ev4
  refine m_last (1043) hx hb hE hM hS (hJ.2 43 (by decide)).1 rfl (vp_in_iff.mpr (by decide)) dX10_asks_20 (fun H locs L5 eL5 hM hS => ?_)
  refine lv_aload_n hx hb dX10_asks_21 rfl (lv_at hl 0 rfl) ?_
  refine m_getr (1000) 43 (1043) hx hb hts hown hE oc10 hM hJ.1 rfl (by decide) rfl (hJ.2 43 (by decide)).2 (by decide) tb_1220 dX10_asks_22 ?_
  refine lv_iconst (v := (2)) hx hb dX10_asks_25 (by decide) ?_
  refine lv_aload_n hx hb dX10_asks_26 rfl (lv_at hl 0 rfl) ?_
  refine m_getr (1000) 1 (1001) hx hb hts hown hE oc10 hM hJ.1 rfl (by decide) rfl (hJ.2 1 (by decide)).2 (by decide) tb_1178 dX10_asks_27 ?_
  refine lv_bipush (v := (6)) hx hb dX10_asks_30 (by decide) ?_
  refine m_iald (1001) hx hb hE hM (hJ.2 1 (by decide)).1 rfl (vp_in_iff.mpr (by decide)) dX10_asks_32 ?_
  rw [show (6 : Int32).toNatClampNeg = 6 from rfl]
  refine lv_i2l hx hb dX10_asks_33 rfl ?_
  refine lv_topl (fun v6 ev6 => ?_)
  have tv6 := q_i2l ev6
  refine m_last (1043) hx hb hE hM hS (hJ.2 43 (by decide)).1 rfl (vp_in_iff.mpr (by decide)) dX10_asks_34 (fun H locs L7 eL7 hM hS => ?_)
  refine lv_aload_n hx hb dX10_asks_35 rfl (lv_at hl 0 rfl) ?_
  refine m_getr (1000) 43 (1043) hx hb hts hown hE oc10 hM hJ.1 rfl (by decide) rfl (hJ.2 43 (by decide)).2 (by decide) tb_1220 dX10_asks_36 ?_
  refine lv_iconst (v := (3)) hx hb dX10_asks_39 (by decide) ?_
  refine lv_iload_n hx hb dX10_asks_40 rfl (lv_at hl 2 rfl) ?_
  refine lv_aload_n hx hb dX10_asks_41 rfl (lv_at hl 0 rfl) ?_
  refine m_getr (1000) 1 (1001) hx hb hts hown hE oc10 hM hJ.1 rfl (by decide) rfl (hJ.2 1 (by decide)).2 (by decide) tb_1178 dX10_asks_42 ?_
  refine lv_bipush (v := (8)) hx hb dX10_asks_45 (by decide) ?_
  refine m_iald (1001) hx hb hE hM (hJ.2 1 (by decide)).1 rfl (vp_in_iff.mpr (by decide)) dX10_asks_47 ?_
  rw [show (8 : Int32).toNatClampNeg = 8 from rfl]
  have g8 := hI.get (1001) 8 (lo := 0) (hi := 24) rfl
  refine lv_icmp_ge (tgt := 61) hx hb dX10_asks_48 (by decide) (fun c9 => ?_) (fun c9 => ?_)
  · have hc9 := c9
    have q9 := q_le hc9
    refine lv_lconst (v := 0) hx hb dX10_asks_61 (by decide) ?_
    refine m_last (1043) hx hb hE hM hS (hJ.2 43 (by decide)).1 rfl (vp_in_iff.mpr (by decide)) dX10_asks_62 (fun H locs L10 eL10 hM hS => ?_)
    refine lv_aload_n hx hb dX10_asks_63 rfl (lv_at hl 0 rfl) ?_
    refine m_getr (1000) 43 (1043) hx hb hts hown hE oc10 hM hJ.1 rfl (by decide) rfl (hJ.2 43 (by decide)).2 (by decide) tb_1220 dX10_asks_64 ?_
    refine lv_iconst (v := (4)) hx hb dX10_asks_67 (by decide) ?_
    refine lv_aload_n hx hb dX10_asks_68 rfl (lv_at hl 0 rfl) ?_
    refine lv_iload_n hx hb dX10_asks_69 rfl (lv_at hl 1 rfl) ?_
    refine m_calli (m_runV (1000) (As := [.int (a0)]) (rest := [.int (4), .ref (ad (1043))]) hx hb hml hown hts hE hM hS hA ce_X10_sunOf tb_1625 (V_X10_sunOf l D A ad ns I L10 G (a0) hJ hI (by first | omega | decide)) rfl rfl ⟨Nat.le_of_ble_eq_true rfl, Nat.le_of_ble_eq_true rfl⟩ hJ.1 rfl rfl (by decide) rfl hl.1 rfl (Nat.le_of_ble_eq_true rfl) dX10_asks_70 ⟨Nat.le_of_ble_eq_true rfl, Nat.le_of_ble_eq_true rfl⟩) hS (fun r11 u H locs hw hM hS => ?_)
    obtain ⟨rfl, xr11⟩ := hw
    have hM : Mem D A ad ns I L10 G H := hM
    refine lv_iconst (v := (-1)) hx hb dX10_asks_73 (by decide) ?_
    refine lv_icmp_ne (tgt := 83) hx hb dX10_asks_74 (by decide) (fun c12 => ?_) (fun c12 => ?_)
    · have hc12 := c12
      have q12 := q_ne hc12
      refine lv_aload_n hx hb dX10_asks_83 rfl (lv_at hl 0 rfl) ?_
      refine lv_iload_n hx hb dX10_asks_84 rfl (lv_at hl 1 rfl) ?_
      refine m_calli (m_runV (1000) (As := [.int (a0)]) (rest := [.int (4), .ref (ad (1043))]) hx hb hml hown hts hE hM hS hA ce_X10_sunOf tb_1625 (V_X10_sunOf l D A ad ns I L10 G (a0) hJ hI (by first | omega | decide)) rfl rfl ⟨Nat.le_of_ble_eq_true rfl, Nat.le_of_ble_eq_true rfl⟩ hJ.1 rfl rfl (by decide) rfl hl.1 rfl (Nat.le_of_ble_eq_true rfl) dX10_asks_85 ⟨Nat.le_of_ble_eq_true rfl, Nat.le_of_ble_eq_true rfl⟩) hS (fun r13 u H locs hw hM hS => ?_)
      obtain ⟨rfl, xr13⟩ := hw
      have hM : Mem D A ad ns I L10 G H := hM
      refine lv_i2l hx hb dX10_asks_88 rfl ?_
      refine lv_topl (fun v14 ev14 => ?_)
      have tv14 := q_i2l ev14
      refine m_last (1043) hx hb hE hM hS (hJ.2 43 (by decide)).1 rfl (vp_in_iff.mpr (by decide)) dX10_asks_89 (fun H locs L15 eL15 hM hS => ?_)
      refine lv_iconst (v := (0)) hx hb dX10_asks_90 (by decide) ?_
      refine lv_istore_n (lv' := [(3, .int (0)), (0, .ref (ad (1000))), (1, .int (a0)), (2, .int (a1))]) hx hb dX10_asks_91 rfl hl (by decide) rfl (fun ls hl => ?_)
      have loop92 : ∀ (n : Nat) (x3_92 : Int32) (Ia92 : MI) (La92 : ML) (H : Heap) (locs : List Loc) (ls : Array Slot), INV Ia92 → Kp [] [] I Ia92 → (0 ≤ x3_92.toInt ∧ x3_92.toInt ≤ 8) → (8 - x3_92.toInt).toNat < n → Mem D A ad ns Ia92 La92 G H → va_S A s.heap H locs → lv_has ls 4 [(3, .int (x3_92)), (0, .ref (ad (1000))), (1, .int (a0)), (2, .int (a1))] → W p l e ({ frames := 1, cells := 0, slots := 0, locals := 21 } : Room) s m args below meth c H locs 0 0 (MQ below (va_Qv (fun u => ∃ I2 L2, u = (ad, ns, I2, L2, G) ∧ INV I2 ∧ Kp [] [] I I2) (BM D A) A) args s 0 0 A) (F0 m 92 ls []) := by
        intro n
        induction n with
        | zero =>
          intro x3_92 Ia92 La92 H locs ls hI hK hr3_92 hmu
          exact absurd hmu (Nat.not_lt_zero _)
        | succ n ih92 =>
          intro x3_92 Ia92 La92 H locs ls hI hK hr3_92 hmu92 hM hS hl
          refine lv_iload_n hx hb dX10_asks_92 rfl (lv_at hl 0 rfl) ?_
          refine lv_bipush (v := (8)) hx hb dX10_asks_93 (by decide) ?_
          refine lv_icmp_ge (tgt := 134) hx hb dX10_asks_95 (by decide) (fun c16 => ?_) (fun c16 => ?_)
          · have hc16 := c16
            have q16 := q_le hc16
            exact m_vret hx hb hr hlocks hM hS (Nat.le_of_ble_eq_true rfl) (Nat.le_of_ble_eq_true rfl) ⟨_, _, rfl, hI, hK⟩ dX10_asks_134
          · have hc16 := c16
            have q16 := q_nle hc16
            refine lv_aload_n hx hb dX10_asks_98 rfl (lv_at hl 1 rfl) ?_
            refine m_getr (1000) 43 (1043) hx hb hts hown hE oc10 hM hJ.1 rfl (by decide) rfl (hJ.2 43 (by decide)).2 (by decide) tb_1220 dX10_asks_99 ?_
            refine lv_iconst (v := (5)) hx hb dX10_asks_102 (by decide) ?_
            refine lv_iload_n hx hb dX10_asks_103 rfl (lv_at hl 0 rfl) ?_
            refine lv_iadd hx hb dX10_asks_104 ?_
            refine lv_topi (fun v17 ev17 => ?_)
            have tv17 := a_add ev17 (by omega) (by omega)
            refine lv_iload_n hx hb dX10_asks_105 rfl (lv_at hl 0 rfl) ?_
            refine lv_aload_n hx hb dX10_asks_106 rfl (lv_at hl 1 rfl) ?_
            refine m_getr (1000) 1 (1001) hx hb hts hown hE oc10 hM hJ.1 rfl (by decide) rfl (hJ.2 1 (by decide)).2 (by decide) tb_1178 dX10_asks_107 ?_
            refine lv_bipush (v := (9)) hx hb dX10_asks_110 (by decide) ?_
            refine m_iald (1001) hx hb hE hM (hJ.2 1 (by decide)).1 rfl (vp_in_iff.mpr (by decide)) dX10_asks_112 ?_
            rw [show (9 : Int32).toNatClampNeg = 9 from rfl]
            have g18 := hI.get (1001) 9 (lo := 0) (hi := 8) rfl
            refine lv_icmp_ge (tgt := 126) hx hb dX10_asks_113 (by decide) (fun c19 => ?_) (fun c19 => ?_)
            · have hc19 := c19
              have q19 := q_le hc19
              refine lv_lconst (v := 0) hx hb dX10_asks_126 (by decide) ?_
              refine m_last (1043) hx hb hE hM hS (hJ.2 43 (by decide)).1 rfl (vp_in_iff.mpr (by omega)) dX10_asks_127 (fun H locs L20 eL20 hM hS => ?_)
              obtain ⟨v21, ev21⟩ : ∃ z : Int32, z = x3_92 + Int32.ofInt (1) := ⟨_, rfl⟩
              have tv21 := a_inc ev21 (by decide) (by omega) (by omega)
              refine lv_iinc (v := v21) (lv' := [(3, .int (v21)), (0, .ref (ad (1000))), (1, .int (a0)), (2, .int (a1))]) hx hb dX10_asks_128 hl (k := 0) rfl ev21.symm (by decide) rfl (fun ls hl => ?_)
              refine lv_goto (tgt := 92) hx hb dX10_asks_131 (by decide) ?_
              exact ih92 (v21) Ia92 L20 _ _ ls hI hK (by first | omega | decide) (by omega) hM hS (lv_sub hl [0, 1, 2, 3] rfl)
            · have hc19 := c19
              have q19 := q_nle hc19
              refine lv_aload_n hx hb dX10_asks_116 rfl (lv_at hl 1 rfl) ?_
              refine m_getr (1000) 64 (1064) hx hb hts hown hE oc10 hM hJ.1 rfl (by decide) rfl (hJ.2 64 (by decide)).2 (by decide) tb_1241 dX10_asks_117 ?_
              refine lv_iload_n hx hb dX10_asks_120 rfl (lv_at hl 0 rfl) ?_
              refine m_iald (1064) hx hb hE hM (hJ.2 64 (by decide)).1 rfl (vp_in_iff.mpr (by omega)) dX10_asks_121 ?_
              refine lv_i2l hx hb dX10_asks_122 rfl ?_
              refine lv_topl (fun v22 ev22 => ?_)
              have tv22 := q_i2l ev22
              refine lv_goto (tgt := 127) hx hb dX10_asks_123 (by decide) ?_
              refine m_last (1043) hx hb hE hM hS (hJ.2 43 (by decide)).1 rfl (vp_in_iff.mpr (by omega)) dX10_asks_127 (fun H locs L23 eL23 hM hS => ?_)
              obtain ⟨v24, ev24⟩ : ∃ z : Int32, z = x3_92 + Int32.ofInt (1) := ⟨_, rfl⟩
              have tv24 := a_inc ev24 (by decide) (by omega) (by omega)
              refine lv_iinc (v := v24) (lv' := [(3, .int (v24)), (0, .ref (ad (1000))), (1, .int (a0)), (2, .int (a1))]) hx hb dX10_asks_128 hl (k := 0) rfl ev24.symm (by decide) rfl (fun ls hl => ?_)
              refine lv_goto (tgt := 92) hx hb dX10_asks_131 (by decide) ?_
              exact ih92 (v24) Ia92 L23 _ _ ls hI hK (by first | omega | decide) (by omega) hM hS (lv_sub hl [0, 1, 2, 3] rfl)
      exact loop92 (_ + 1) (0) I L15 _ _ ls hI hK (by first | omega | decide) (Nat.lt_succ_self _) hM hS (lv_sub hl [0, 1, 2, 3] rfl)
    · have hc12 := c12
      have q12 := q_eq hc12
      refine lv_ldc2 (v := (8)) hx hb hown (hts _ tb_1629) dX10_asks_77 ?_
      refine lv_goto (tgt := 89) hx hb dX10_asks_80 (by decide) ?_
      refine m_last (1043) hx hb hE hM hS (hJ.2 43 (by decide)).1 rfl (vp_in_iff.mpr (by decide)) dX10_asks_89 (fun H locs L25 eL25 hM hS => ?_)
      refine lv_iconst (v := (0)) hx hb dX10_asks_90 (by decide) ?_
      refine lv_istore_n (lv' := [(3, .int (0)), (0, .ref (ad (1000))), (1, .int (a0)), (2, .int (a1))]) hx hb dX10_asks_91 rfl hl (by decide) rfl (fun ls hl => ?_)
      have loop92 : ∀ (n : Nat) (x3_92 : Int32) (Ia92 : MI) (La92 : ML) (H : Heap) (locs : List Loc) (ls : Array Slot), INV Ia92 → Kp [] [] I Ia92 → (0 ≤ x3_92.toInt ∧ x3_92.toInt ≤ 8) → (8 - x3_92.toInt).toNat < n → Mem D A ad ns Ia92 La92 G H → va_S A s.heap H locs → lv_has ls 4 [(3, .int (x3_92)), (0, .ref (ad (1000))), (1, .int (a0)), (2, .int (a1))] → W p l e ({ frames := 1, cells := 0, slots := 0, locals := 21 } : Room) s m args below meth c H locs 0 0 (MQ below (va_Qv (fun u => ∃ I2 L2, u = (ad, ns, I2, L2, G) ∧ INV I2 ∧ Kp [] [] I I2) (BM D A) A) args s 0 0 A) (F0 m 92 ls []) := by
        intro n
        induction n with
        | zero =>
          intro x3_92 Ia92 La92 H locs ls hI hK hr3_92 hmu
          exact absurd hmu (Nat.not_lt_zero _)
        | succ n ih92 =>
          intro x3_92 Ia92 La92 H locs ls hI hK hr3_92 hmu92 hM hS hl
          refine lv_iload_n hx hb dX10_asks_92 rfl (lv_at hl 0 rfl) ?_
          refine lv_bipush (v := (8)) hx hb dX10_asks_93 (by decide) ?_
          refine lv_icmp_ge (tgt := 134) hx hb dX10_asks_95 (by decide) (fun c26 => ?_) (fun c26 => ?_)
          · have hc26 := c26
            have q26 := q_le hc26
            exact m_vret hx hb hr hlocks hM hS (Nat.le_of_ble_eq_true rfl) (Nat.le_of_ble_eq_true rfl) ⟨_, _, rfl, hI, hK⟩ dX10_asks_134
          · have hc26 := c26
            have q26 := q_nle hc26
            refine lv_aload_n hx hb dX10_asks_98 rfl (lv_at hl 1 rfl) ?_
            refine m_getr (1000) 43 (1043) hx hb hts hown hE oc10 hM hJ.1 rfl (by decide) rfl (hJ.2 43 (by decide)).2 (by decide) tb_1220 dX10_asks_99 ?_
            refine lv_iconst (v := (5)) hx hb dX10_asks_102 (by decide) ?_
            refine lv_iload_n hx hb dX10_asks_103 rfl (lv_at hl 0 rfl) ?_
            refine lv_iadd hx hb dX10_asks_104 ?_
            refine lv_topi (fun v27 ev27 => ?_)
            have tv27 := a_add ev27 (by omega) (by omega)
            refine lv_iload_n hx hb dX10_asks_105 rfl (lv_at hl 0 rfl) ?_
            refine lv_aload_n hx hb dX10_asks_106 rfl (lv_at hl 1 rfl) ?_
            refine m_getr (1000) 1 (1001) hx hb hts hown hE oc10 hM hJ.1 rfl (by decide) rfl (hJ.2 1 (by decide)).2 (by decide) tb_1178 dX10_asks_107 ?_
            refine lv_bipush (v := (9)) hx hb dX10_asks_110 (by decide) ?_
            refine m_iald (1001) hx hb hE hM (hJ.2 1 (by decide)).1 rfl (vp_in_iff.mpr (by decide)) dX10_asks_112 ?_
            rw [show (9 : Int32).toNatClampNeg = 9 from rfl]
            have g28 := hI.get (1001) 9 (lo := 0) (hi := 8) rfl
            refine lv_icmp_ge (tgt := 126) hx hb dX10_asks_113 (by decide) (fun c29 => ?_) (fun c29 => ?_)
            · have hc29 := c29
              have q29 := q_le hc29
              refine lv_lconst (v := 0) hx hb dX10_asks_126 (by decide) ?_
              refine m_last (1043) hx hb hE hM hS (hJ.2 43 (by decide)).1 rfl (vp_in_iff.mpr (by omega)) dX10_asks_127 (fun H locs L30 eL30 hM hS => ?_)
              obtain ⟨v31, ev31⟩ : ∃ z : Int32, z = x3_92 + Int32.ofInt (1) := ⟨_, rfl⟩
              have tv31 := a_inc ev31 (by decide) (by omega) (by omega)
              refine lv_iinc (v := v31) (lv' := [(3, .int (v31)), (0, .ref (ad (1000))), (1, .int (a0)), (2, .int (a1))]) hx hb dX10_asks_128 hl (k := 0) rfl ev31.symm (by decide) rfl (fun ls hl => ?_)
              refine lv_goto (tgt := 92) hx hb dX10_asks_131 (by decide) ?_
              exact ih92 (v31) Ia92 L30 _ _ ls hI hK (by first | omega | decide) (by omega) hM hS (lv_sub hl [0, 1, 2, 3] rfl)
            · have hc29 := c29
              have q29 := q_nle hc29
              refine lv_aload_n hx hb dX10_asks_116 rfl (lv_at hl 1 rfl) ?_
              refine m_getr (1000) 64 (1064) hx hb hts hown hE oc10 hM hJ.1 rfl (by decide) rfl (hJ.2 64 (by decide)).2 (by decide) tb_1241 dX10_asks_117 ?_
              refine lv_iload_n hx hb dX10_asks_120 rfl (lv_at hl 0 rfl) ?_
              refine m_iald (1064) hx hb hE hM (hJ.2 64 (by decide)).1 rfl (vp_in_iff.mpr (by omega)) dX10_asks_121 ?_
              refine lv_i2l hx hb dX10_asks_122 rfl ?_
              refine lv_topl (fun v32 ev32 => ?_)
              have tv32 := q_i2l ev32
              refine lv_goto (tgt := 127) hx hb dX10_asks_123 (by decide) ?_
              refine m_last (1043) hx hb hE hM hS (hJ.2 43 (by decide)).1 rfl (vp_in_iff.mpr (by omega)) dX10_asks_127 (fun H locs L33 eL33 hM hS => ?_)
              obtain ⟨v34, ev34⟩ : ∃ z : Int32, z = x3_92 + Int32.ofInt (1) := ⟨_, rfl⟩
              have tv34 := a_inc ev34 (by decide) (by omega) (by omega)
              refine lv_iinc (v := v34) (lv' := [(3, .int (v34)), (0, .ref (ad (1000))), (1, .int (a0)), (2, .int (a1))]) hx hb dX10_asks_128 hl (k := 0) rfl ev34.symm (by decide) rfl (fun ls hl => ?_)
              refine lv_goto (tgt := 92) hx hb dX10_asks_131 (by decide) ?_
              exact ih92 (v34) Ia92 L33 _ _ ls hI hK (by first | omega | decide) (by omega) hM hS (lv_sub hl [0, 1, 2, 3] rfl)
      exact loop92 (_ + 1) (0) I L25 _ _ ls hI hK (by first | omega | decide) (Nat.lt_succ_self _) hM hS (lv_sub hl [0, 1, 2, 3] rfl)
  · have hc9 := c9
    have q9 := q_nle hc9
    refine lv_aload_n hx hb dX10_asks_51 rfl (lv_at hl 0 rfl) ?_
    refine m_getr (1000) 9 (1009) hx hb hts hown hE oc10 hM hJ.1 rfl (by decide) rfl (hJ.2 9 (by decide)).2 (by decide) tb_1186 dX10_asks_52 ?_
    refine lv_iload_n hx hb dX10_asks_55 rfl (lv_at hl 2 rfl) ?_
    refine m_iald (1009) hx hb hE hM (hJ.2 9 (by decide)).1 rfl (vp_in_iff.mpr (by omega)) dX10_asks_56 ?_
    refine lv_i2l hx hb dX10_asks_57 rfl ?_
    refine lv_topl (fun v35 ev35 => ?_)
    have tv35 := q_i2l ev35
    refine lv_goto (tgt := 62) hx hb dX10_asks_58 (by decide) ?_
    refine m_last (1043) hx hb hE hM hS (hJ.2 43 (by decide)).1 rfl (vp_in_iff.mpr (by decide)) dX10_asks_62 (fun H locs L36 eL36 hM hS => ?_)
    refine lv_aload_n hx hb dX10_asks_63 rfl (lv_at hl 0 rfl) ?_
    refine m_getr (1000) 43 (1043) hx hb hts hown hE oc10 hM hJ.1 rfl (by decide) rfl (hJ.2 43 (by decide)).2 (by decide) tb_1220 dX10_asks_64 ?_
    refine lv_iconst (v := (4)) hx hb dX10_asks_67 (by decide) ?_
    refine lv_aload_n hx hb dX10_asks_68 rfl (lv_at hl 0 rfl) ?_
    refine lv_iload_n hx hb dX10_asks_69 rfl (lv_at hl 1 rfl) ?_
    refine m_calli (m_runV (1000) (As := [.int (a0)]) (rest := [.int (4), .ref (ad (1043))]) hx hb hml hown hts hE hM hS hA ce_X10_sunOf tb_1625 (V_X10_sunOf l D A ad ns I L36 G (a0) hJ hI (by first | omega | decide)) rfl rfl ⟨Nat.le_of_ble_eq_true rfl, Nat.le_of_ble_eq_true rfl⟩ hJ.1 rfl rfl (by decide) rfl hl.1 rfl (Nat.le_of_ble_eq_true rfl) dX10_asks_70 ⟨Nat.le_of_ble_eq_true rfl, Nat.le_of_ble_eq_true rfl⟩) hS (fun r37 u H locs hw hM hS => ?_)
    obtain ⟨rfl, xr37⟩ := hw
    have hM : Mem D A ad ns I L36 G H := hM
    refine lv_iconst (v := (-1)) hx hb dX10_asks_73 (by decide) ?_
    refine lv_icmp_ne (tgt := 83) hx hb dX10_asks_74 (by decide) (fun c38 => ?_) (fun c38 => ?_)
    · have hc38 := c38
      have q38 := q_ne hc38
      refine lv_aload_n hx hb dX10_asks_83 rfl (lv_at hl 0 rfl) ?_
      refine lv_iload_n hx hb dX10_asks_84 rfl (lv_at hl 1 rfl) ?_
      refine m_calli (m_runV (1000) (As := [.int (a0)]) (rest := [.int (4), .ref (ad (1043))]) hx hb hml hown hts hE hM hS hA ce_X10_sunOf tb_1625 (V_X10_sunOf l D A ad ns I L36 G (a0) hJ hI (by first | omega | decide)) rfl rfl ⟨Nat.le_of_ble_eq_true rfl, Nat.le_of_ble_eq_true rfl⟩ hJ.1 rfl rfl (by decide) rfl hl.1 rfl (Nat.le_of_ble_eq_true rfl) dX10_asks_85 ⟨Nat.le_of_ble_eq_true rfl, Nat.le_of_ble_eq_true rfl⟩) hS (fun r39 u H locs hw hM hS => ?_)
      obtain ⟨rfl, xr39⟩ := hw
      have hM : Mem D A ad ns I L36 G H := hM
      refine lv_i2l hx hb dX10_asks_88 rfl ?_
      refine lv_topl (fun v40 ev40 => ?_)
      have tv40 := q_i2l ev40
      refine m_last (1043) hx hb hE hM hS (hJ.2 43 (by decide)).1 rfl (vp_in_iff.mpr (by decide)) dX10_asks_89 (fun H locs L41 eL41 hM hS => ?_)
      refine lv_iconst (v := (0)) hx hb dX10_asks_90 (by decide) ?_
      refine lv_istore_n (lv' := [(3, .int (0)), (0, .ref (ad (1000))), (1, .int (a0)), (2, .int (a1))]) hx hb dX10_asks_91 rfl hl (by decide) rfl (fun ls hl => ?_)
      have loop92 : ∀ (n : Nat) (x3_92 : Int32) (Ia92 : MI) (La92 : ML) (H : Heap) (locs : List Loc) (ls : Array Slot), INV Ia92 → Kp [] [] I Ia92 → (0 ≤ x3_92.toInt ∧ x3_92.toInt ≤ 8) → (8 - x3_92.toInt).toNat < n → Mem D A ad ns Ia92 La92 G H → va_S A s.heap H locs → lv_has ls 4 [(3, .int (x3_92)), (0, .ref (ad (1000))), (1, .int (a0)), (2, .int (a1))] → W p l e ({ frames := 1, cells := 0, slots := 0, locals := 21 } : Room) s m args below meth c H locs 0 0 (MQ below (va_Qv (fun u => ∃ I2 L2, u = (ad, ns, I2, L2, G) ∧ INV I2 ∧ Kp [] [] I I2) (BM D A) A) args s 0 0 A) (F0 m 92 ls []) := by
        intro n
        induction n with
        | zero =>
          intro x3_92 Ia92 La92 H locs ls hI hK hr3_92 hmu
          exact absurd hmu (Nat.not_lt_zero _)
        | succ n ih92 =>
          intro x3_92 Ia92 La92 H locs ls hI hK hr3_92 hmu92 hM hS hl
          refine lv_iload_n hx hb dX10_asks_92 rfl (lv_at hl 0 rfl) ?_
          refine lv_bipush (v := (8)) hx hb dX10_asks_93 (by decide) ?_
          refine lv_icmp_ge (tgt := 134) hx hb dX10_asks_95 (by decide) (fun c42 => ?_) (fun c42 => ?_)
          · have hc42 := c42
            have q42 := q_le hc42
            exact m_vret hx hb hr hlocks hM hS (Nat.le_of_ble_eq_true rfl) (Nat.le_of_ble_eq_true rfl) ⟨_, _, rfl, hI, hK⟩ dX10_asks_134
          · have hc42 := c42
            have q42 := q_nle hc42
            refine lv_aload_n hx hb dX10_asks_98 rfl (lv_at hl 1 rfl) ?_
            refine m_getr (1000) 43 (1043) hx hb hts hown hE oc10 hM hJ.1 rfl (by decide) rfl (hJ.2 43 (by decide)).2 (by decide) tb_1220 dX10_asks_99 ?_
            refine lv_iconst (v := (5)) hx hb dX10_asks_102 (by decide) ?_
            refine lv_iload_n hx hb dX10_asks_103 rfl (lv_at hl 0 rfl) ?_
            refine lv_iadd hx hb dX10_asks_104 ?_
            refine lv_topi (fun v43 ev43 => ?_)
            have tv43 := a_add ev43 (by omega) (by omega)
            refine lv_iload_n hx hb dX10_asks_105 rfl (lv_at hl 0 rfl) ?_
            refine lv_aload_n hx hb dX10_asks_106 rfl (lv_at hl 1 rfl) ?_
            refine m_getr (1000) 1 (1001) hx hb hts hown hE oc10 hM hJ.1 rfl (by decide) rfl (hJ.2 1 (by decide)).2 (by decide) tb_1178 dX10_asks_107 ?_
            refine lv_bipush (v := (9)) hx hb dX10_asks_110 (by decide) ?_
            refine m_iald (1001) hx hb hE hM (hJ.2 1 (by decide)).1 rfl (vp_in_iff.mpr (by decide)) dX10_asks_112 ?_
            rw [show (9 : Int32).toNatClampNeg = 9 from rfl]
            have g44 := hI.get (1001) 9 (lo := 0) (hi := 8) rfl
            refine lv_icmp_ge (tgt := 126) hx hb dX10_asks_113 (by decide) (fun c45 => ?_) (fun c45 => ?_)
            · have hc45 := c45
              have q45 := q_le hc45
              refine lv_lconst (v := 0) hx hb dX10_asks_126 (by decide) ?_
              refine m_last (1043) hx hb hE hM hS (hJ.2 43 (by decide)).1 rfl (vp_in_iff.mpr (by omega)) dX10_asks_127 (fun H locs L46 eL46 hM hS => ?_)
              obtain ⟨v47, ev47⟩ : ∃ z : Int32, z = x3_92 + Int32.ofInt (1) := ⟨_, rfl⟩
              have tv47 := a_inc ev47 (by decide) (by omega) (by omega)
              refine lv_iinc (v := v47) (lv' := [(3, .int (v47)), (0, .ref (ad (1000))), (1, .int (a0)), (2, .int (a1))]) hx hb dX10_asks_128 hl (k := 0) rfl ev47.symm (by decide) rfl (fun ls hl => ?_)
              refine lv_goto (tgt := 92) hx hb dX10_asks_131 (by decide) ?_
              exact ih92 (v47) Ia92 L46 _ _ ls hI hK (by first | omega | decide) (by omega) hM hS (lv_sub hl [0, 1, 2, 3] rfl)
            · have hc45 := c45
              have q45 := q_nle hc45
              refine lv_aload_n hx hb dX10_asks_116 rfl (lv_at hl 1 rfl) ?_
              refine m_getr (1000) 64 (1064) hx hb hts hown hE oc10 hM hJ.1 rfl (by decide) rfl (hJ.2 64 (by decide)).2 (by decide) tb_1241 dX10_asks_117 ?_
              refine lv_iload_n hx hb dX10_asks_120 rfl (lv_at hl 0 rfl) ?_
              refine m_iald (1064) hx hb hE hM (hJ.2 64 (by decide)).1 rfl (vp_in_iff.mpr (by omega)) dX10_asks_121 ?_
              refine lv_i2l hx hb dX10_asks_122 rfl ?_
              refine lv_topl (fun v48 ev48 => ?_)
              have tv48 := q_i2l ev48
              refine lv_goto (tgt := 127) hx hb dX10_asks_123 (by decide) ?_
              refine m_last (1043) hx hb hE hM hS (hJ.2 43 (by decide)).1 rfl (vp_in_iff.mpr (by omega)) dX10_asks_127 (fun H locs L49 eL49 hM hS => ?_)
              obtain ⟨v50, ev50⟩ : ∃ z : Int32, z = x3_92 + Int32.ofInt (1) := ⟨_, rfl⟩
              have tv50 := a_inc ev50 (by decide) (by omega) (by omega)
              refine lv_iinc (v := v50) (lv' := [(3, .int (v50)), (0, .ref (ad (1000))), (1, .int (a0)), (2, .int (a1))]) hx hb dX10_asks_128 hl (k := 0) rfl ev50.symm (by decide) rfl (fun ls hl => ?_)
              refine lv_goto (tgt := 92) hx hb dX10_asks_131 (by decide) ?_
              exact ih92 (v50) Ia92 L49 _ _ ls hI hK (by first | omega | decide) (by omega) hM hS (lv_sub hl [0, 1, 2, 3] rfl)
      exact loop92 (_ + 1) (0) I L41 _ _ ls hI hK (by first | omega | decide) (Nat.lt_succ_self _) hM hS (lv_sub hl [0, 1, 2, 3] rfl)
    · have hc38 := c38
      have q38 := q_eq hc38
      refine lv_ldc2 (v := (8)) hx hb hown (hts _ tb_1629) dX10_asks_77 ?_
      refine lv_goto (tgt := 89) hx hb dX10_asks_80 (by decide) ?_
      refine m_last (1043) hx hb hE hM hS (hJ.2 43 (by decide)).1 rfl (vp_in_iff.mpr (by decide)) dX10_asks_89 (fun H locs L51 eL51 hM hS => ?_)
      refine lv_iconst (v := (0)) hx hb dX10_asks_90 (by decide) ?_
      refine lv_istore_n (lv' := [(3, .int (0)), (0, .ref (ad (1000))), (1, .int (a0)), (2, .int (a1))]) hx hb dX10_asks_91 rfl hl (by decide) rfl (fun ls hl => ?_)
      have loop92 : ∀ (n : Nat) (x3_92 : Int32) (Ia92 : MI) (La92 : ML) (H : Heap) (locs : List Loc) (ls : Array Slot), INV Ia92 → Kp [] [] I Ia92 → (0 ≤ x3_92.toInt ∧ x3_92.toInt ≤ 8) → (8 - x3_92.toInt).toNat < n → Mem D A ad ns Ia92 La92 G H → va_S A s.heap H locs → lv_has ls 4 [(3, .int (x3_92)), (0, .ref (ad (1000))), (1, .int (a0)), (2, .int (a1))] → W p l e ({ frames := 1, cells := 0, slots := 0, locals := 21 } : Room) s m args below meth c H locs 0 0 (MQ below (va_Qv (fun u => ∃ I2 L2, u = (ad, ns, I2, L2, G) ∧ INV I2 ∧ Kp [] [] I I2) (BM D A) A) args s 0 0 A) (F0 m 92 ls []) := by
        intro n
        induction n with
        | zero =>
          intro x3_92 Ia92 La92 H locs ls hI hK hr3_92 hmu
          exact absurd hmu (Nat.not_lt_zero _)
        | succ n ih92 =>
          intro x3_92 Ia92 La92 H locs ls hI hK hr3_92 hmu92 hM hS hl
          refine lv_iload_n hx hb dX10_asks_92 rfl (lv_at hl 0 rfl) ?_
          refine lv_bipush (v := (8)) hx hb dX10_asks_93 (by decide) ?_
          refine lv_icmp_ge (tgt := 134) hx hb dX10_asks_95 (by decide) (fun c52 => ?_) (fun c52 => ?_)
          · have hc52 := c52
            have q52 := q_le hc52
            exact m_vret hx hb hr hlocks hM hS (Nat.le_of_ble_eq_true rfl) (Nat.le_of_ble_eq_true rfl) ⟨_, _, rfl, hI, hK⟩ dX10_asks_134
          · have hc52 := c52
            have q52 := q_nle hc52
            refine lv_aload_n hx hb dX10_asks_98 rfl (lv_at hl 1 rfl) ?_
            refine m_getr (1000) 43 (1043) hx hb hts hown hE oc10 hM hJ.1 rfl (by decide) rfl (hJ.2 43 (by decide)).2 (by decide) tb_1220 dX10_asks_99 ?_
            refine lv_iconst (v := (5)) hx hb dX10_asks_102 (by decide) ?_
            refine lv_iload_n hx hb dX10_asks_103 rfl (lv_at hl 0 rfl) ?_
            refine lv_iadd hx hb dX10_asks_104 ?_
            refine lv_topi (fun v53 ev53 => ?_)
            have tv53 := a_add ev53 (by omega) (by omega)
            refine lv_iload_n hx hb dX10_asks_105 rfl (lv_at hl 0 rfl) ?_
            refine lv_aload_n hx hb dX10_asks_106 rfl (lv_at hl 1 rfl) ?_
            refine m_getr (1000) 1 (1001) hx hb hts hown hE oc10 hM hJ.1 rfl (by decide) rfl (hJ.2 1 (by decide)).2 (by decide) tb_1178 dX10_asks_107 ?_
            refine lv_bipush (v := (9)) hx hb dX10_asks_110 (by decide) ?_
            refine m_iald (1001) hx hb hE hM (hJ.2 1 (by decide)).1 rfl (vp_in_iff.mpr (by decide)) dX10_asks_112 ?_
            rw [show (9 : Int32).toNatClampNeg = 9 from rfl]
            have g54 := hI.get (1001) 9 (lo := 0) (hi := 8) rfl
            refine lv_icmp_ge (tgt := 126) hx hb dX10_asks_113 (by decide) (fun c55 => ?_) (fun c55 => ?_)
            · have hc55 := c55
              have q55 := q_le hc55
              refine lv_lconst (v := 0) hx hb dX10_asks_126 (by decide) ?_
              refine m_last (1043) hx hb hE hM hS (hJ.2 43 (by decide)).1 rfl (vp_in_iff.mpr (by omega)) dX10_asks_127 (fun H locs L56 eL56 hM hS => ?_)
              obtain ⟨v57, ev57⟩ : ∃ z : Int32, z = x3_92 + Int32.ofInt (1) := ⟨_, rfl⟩
              have tv57 := a_inc ev57 (by decide) (by omega) (by omega)
              refine lv_iinc (v := v57) (lv' := [(3, .int (v57)), (0, .ref (ad (1000))), (1, .int (a0)), (2, .int (a1))]) hx hb dX10_asks_128 hl (k := 0) rfl ev57.symm (by decide) rfl (fun ls hl => ?_)
              refine lv_goto (tgt := 92) hx hb dX10_asks_131 (by decide) ?_
              exact ih92 (v57) Ia92 L56 _ _ ls hI hK (by first | omega | decide) (by omega) hM hS (lv_sub hl [0, 1, 2, 3] rfl)
            · have hc55 := c55
              have q55 := q_nle hc55
              refine lv_aload_n hx hb dX10_asks_116 rfl (lv_at hl 1 rfl) ?_
              refine m_getr (1000) 64 (1064) hx hb hts hown hE oc10 hM hJ.1 rfl (by decide) rfl (hJ.2 64 (by decide)).2 (by decide) tb_1241 dX10_asks_117 ?_
              refine lv_iload_n hx hb dX10_asks_120 rfl (lv_at hl 0 rfl) ?_
              refine m_iald (1064) hx hb hE hM (hJ.2 64 (by decide)).1 rfl (vp_in_iff.mpr (by omega)) dX10_asks_121 ?_
              refine lv_i2l hx hb dX10_asks_122 rfl ?_
              refine lv_topl (fun v58 ev58 => ?_)
              have tv58 := q_i2l ev58
              refine lv_goto (tgt := 127) hx hb dX10_asks_123 (by decide) ?_
              refine m_last (1043) hx hb hE hM hS (hJ.2 43 (by decide)).1 rfl (vp_in_iff.mpr (by omega)) dX10_asks_127 (fun H locs L59 eL59 hM hS => ?_)
              obtain ⟨v60, ev60⟩ : ∃ z : Int32, z = x3_92 + Int32.ofInt (1) := ⟨_, rfl⟩
              have tv60 := a_inc ev60 (by decide) (by omega) (by omega)
              refine lv_iinc (v := v60) (lv' := [(3, .int (v60)), (0, .ref (ad (1000))), (1, .int (a0)), (2, .int (a1))]) hx hb dX10_asks_128 hl (k := 0) rfl ev60.symm (by decide) rfl (fun ls hl => ?_)
              refine lv_goto (tgt := 92) hx hb dX10_asks_131 (by decide) ?_
              exact ih92 (v60) Ia92 L59 _ _ ls hI hK (by first | omega | decide) (by omega) hM hS (lv_sub hl [0, 1, 2, 3] rfl)
      exact loop92 (_ + 1) (0) I L51 _ _ ls hI hK (by first | omega | decide) (Nat.lt_succ_self _) hM hS (lv_sub hl [0, 1, 2, 3] rfl)
theorem dX10_second_0 : decode cX10_second 0 = .ok (.aload_n 0, 1) := by decide +kernel
theorem dX10_second_1 : decode cX10_second 1 = .ok (.iload_n 1, 1) := by decide +kernel
theorem dX10_second_2 : decode cX10_second 2 = .ok (.invokevirtual 472, 3) := by decide +kernel
theorem dX10_second_5 : decode cX10_second 5 = .ok (.ifCond .eq 15, 3) := by decide +kernel
theorem dX10_second_8 : decode cX10_second 8 = .ok (.iload_n 2, 1) := by decide +kernel
theorem dX10_second_9 : decode cX10_second 9 = .ok (.i2l, 1) := by decide +kernel
theorem dX10_second_10 : decode cX10_second 10 = .ok (.lconst 0, 1) := by decide +kernel
theorem dX10_second_11 : decode cX10_second 11 = .ok (.ldc2_w 521, 3) := by decide +kernel
theorem dX10_second_14 : decode cX10_second 14 = .ok (.invokestatic 192, 3) := by decide +kernel
theorem dX10_second_17 : decode cX10_second 17 = .ok (.ifCond .ne 5, 3) := by decide +kernel
theorem dX10_second_20 : decode cX10_second 20 = .ok (.iconst (-1), 1) := by decide +kernel
theorem dX10_second_21 : decode cX10_second 21 = .ok (.ireturn, 1) := by decide +kernel
theorem dX10_second_22 : decode cX10_second 22 = .ok (.bipush (-2), 2) := by decide +kernel
theorem dX10_second_24 : decode cX10_second 24 = .ok (.istore_n 3, 1) := by decide +kernel
theorem dX10_second_25 : decode cX10_second 25 = .ok (.iconst 0, 1) := by decide +kernel
theorem dX10_second_26 : decode cX10_second 26 = .ok (.istore 4, 2) := by decide +kernel
theorem dX10_second_28 : decode cX10_second 28 = .ok (.iconst 0, 1) := by decide +kernel
theorem dX10_second_29 : decode cX10_second 29 = .ok (.istore 5, 2) := by decide +kernel
theorem dX10_second_31 : decode cX10_second 31 = .ok (.iconst 0, 1) := by decide +kernel
theorem dX10_second_32 : decode cX10_second 32 = .ok (.istore 6, 2) := by decide +kernel
theorem dX10_second_34 : decode cX10_second 34 = .ok (.iload 6, 2) := by decide +kernel
theorem dX10_second_36 : decode cX10_second 36 = .ok (.sipush 576, 3) := by decide +kernel
theorem dX10_second_39 : decode cX10_second 39 = .ok (.if_icmp .ge 220, 3) := by decide +kernel
theorem dX10_second_42 : decode cX10_second 42 = .ok (.iload 6, 2) := by decide +kernel
theorem dX10_second_44 : decode cX10_second 44 = .ok (.bipush 24, 2) := by decide +kernel
theorem dX10_second_46 : decode cX10_second 46 = .ok (.irem, 1) := by decide +kernel
theorem dX10_second_47 : decode cX10_second 47 = .ok (.istore 7, 2) := by decide +kernel
theorem dX10_second_49 : decode cX10_second 49 = .ok (.iload 6, 2) := by decide +kernel
theorem dX10_second_51 : decode cX10_second 51 = .ok (.bipush 24, 2) := by decide +kernel
theorem dX10_second_53 : decode cX10_second 53 = .ok (.idiv, 1) := by decide +kernel
theorem dX10_second_54 : decode cX10_second 54 = .ok (.istore 8, 2) := by decide +kernel
theorem dX10_second_56 : decode cX10_second 56 = .ok (.aload_n 0, 1) := by decide +kernel
theorem dX10_second_57 : decode cX10_second 57 = .ok (.iload 7, 2) := by decide +kernel
theorem dX10_second_59 : decode cX10_second 59 = .ok (.iload 8, 2) := by decide +kernel
theorem dX10_second_61 : decode cX10_second 61 = .ok (.invokevirtual 196, 3) := by decide +kernel
theorem dX10_second_64 : decode cX10_second 64 = .ok (.ifCond .eq 43, 3) := by decide +kernel
theorem dX10_second_67 : decode cX10_second 67 = .ok (.iload 7, 2) := by decide +kernel
theorem dX10_second_69 : decode cX10_second 69 = .ok (.ifCond .eq 34, 3) := by decide +kernel
theorem dX10_second_72 : decode cX10_second 72 = .ok (.iload 8, 2) := by decide +kernel
theorem dX10_second_74 : decode cX10_second 74 = .ok (.ifCond .eq 29, 3) := by decide +kernel
theorem dX10_second_77 : decode cX10_second 77 = .ok (.iload 7, 2) := by decide +kernel
theorem dX10_second_79 : decode cX10_second 79 = .ok (.aload_n 0, 1) := by decide +kernel
theorem dX10_second_80 : decode cX10_second 80 = .ok (.getfield 7, 3) := by decide +kernel
theorem dX10_second_83 : decode cX10_second 83 = .ok (.iconst 1, 1) := by decide +kernel
theorem dX10_second_84 : decode cX10_second 84 = .ok (.iaload, 1) := by decide +kernel
theorem dX10_second_85 : decode cX10_second 85 = .ok (.iconst 1, 1) := by decide +kernel
theorem dX10_second_86 : decode cX10_second 86 = .ok (.isub, 1) := by decide +kernel
theorem dX10_second_87 : decode cX10_second 87 = .ok (.if_icmp .eq 16, 3) := by decide +kernel
theorem dX10_second_90 : decode cX10_second 90 = .ok (.iload 8, 2) := by decide +kernel
theorem dX10_second_92 : decode cX10_second 92 = .ok (.aload_n 0, 1) := by decide +kernel
theorem dX10_second_93 : decode cX10_second 93 = .ok (.getfield 7, 3) := by decide +kernel
theorem dX10_second_96 : decode cX10_second 96 = .ok (.iconst 2, 1) := by decide +kernel
theorem dX10_second_97 : decode cX10_second 97 = .ok (.iaload, 1) := by decide +kernel
theorem dX10_second_98 : decode cX10_second 98 = .ok (.iconst 1, 1) := by decide +kernel
theorem dX10_second_99 : decode cX10_second 99 = .ok (.isub, 1) := by decide +kernel
theorem dX10_second_100 : decode cX10_second 100 = .ok (.if_icmp .ne 7, 3) := by decide +kernel
theorem dX10_second_103 : decode cX10_second 103 = .ok (.iconst 1, 1) := by decide +kernel
theorem dX10_second_104 : decode cX10_second 104 = .ok (.goto 4, 3) := by decide +kernel
theorem dX10_second_107 : decode cX10_second 107 = .ok (.iconst 0, 1) := by decide +kernel
theorem dX10_second_108 : decode cX10_second 108 = .ok (.istore 9, 2) := by decide +kernel
theorem dX10_second_110 : decode cX10_second 110 = .ok (.iconst 0, 1) := by decide +kernel
theorem dX10_second_111 : decode cX10_second 111 = .ok (.istore 10, 2) := by decide +kernel
theorem dX10_second_113 : decode cX10_second 113 = .ok (.iload 10, 2) := by decide +kernel
theorem dX10_second_115 : decode cX10_second 115 = .ok (.bipush 8, 2) := by decide +kernel
theorem dX10_second_117 : decode cX10_second 117 = .ok (.if_icmp .ge 136, 3) := by decide +kernel
theorem dX10_second_120 : decode cX10_second 120 = .ok (.iload 9, 2) := by decide +kernel
theorem dX10_second_122 : decode cX10_second 122 = .ok (.ifCond .eq 131, 3) := by decide +kernel
theorem dX10_second_125 : decode cX10_second 125 = .ok (.aload_n 0, 1) := by decide +kernel
theorem dX10_second_126 : decode cX10_second 126 = .ok (.getfield 13, 3) := by decide +kernel
theorem dX10_second_129 : decode cX10_second 129 = .ok (.iload 6, 2) := by decide +kernel
theorem dX10_second_131 : decode cX10_second 131 = .ok (.iaload, 1) := by decide +kernel
theorem dX10_second_132 : decode cX10_second 132 = .ok (.ifCond .ne 121, 3) := by decide +kernel
theorem dX10_second_135 : decode cX10_second 135 = .ok (.iload 6, 2) := by decide +kernel
theorem dX10_second_137 : decode cX10_second 137 = .ok (.aload_n 0, 1) := by decide +kernel
theorem dX10_second_138 : decode cX10_second 138 = .ok (.getfield 7, 3) := by decide +kernel
theorem dX10_second_141 : decode cX10_second 141 = .ok (.iconst 3, 1) := by decide +kernel
theorem dX10_second_142 : decode cX10_second 142 = .ok (.iaload, 1) := by decide +kernel
theorem dX10_second_143 : decode cX10_second 143 = .ok (.if_icmp .eq 110, 3) := by decide +kernel
theorem dX10_second_146 : decode cX10_second 146 = .ok (.aload_n 0, 1) := by decide +kernel
theorem dX10_second_147 : decode cX10_second 147 = .ok (.iload 7, 2) := by decide +kernel
theorem dX10_second_149 : decode cX10_second 149 = .ok (.iload 10, 2) := by decide +kernel
theorem dX10_second_151 : decode cX10_second 151 = .ok (.invokestatic 420, 3) := by decide +kernel
theorem dX10_second_154 : decode cX10_second 154 = .ok (.iadd, 1) := by decide +kernel
theorem dX10_second_155 : decode cX10_second 155 = .ok (.iload 8, 2) := by decide +kernel
theorem dX10_second_157 : decode cX10_second 157 = .ok (.iload 10, 2) := by decide +kernel
theorem dX10_second_159 : decode cX10_second 159 = .ok (.invokestatic 423, 3) := by decide +kernel
theorem dX10_second_162 : decode cX10_second 162 = .ok (.iadd, 1) := by decide +kernel
theorem dX10_second_163 : decode cX10_second 163 = .ok (.invokevirtual 196, 3) := by decide +kernel
theorem dX10_second_166 : decode cX10_second 166 = .ok (.ifCond .eq 81, 3) := by decide +kernel
theorem dX10_second_169 : decode cX10_second 169 = .ok (.iconst 0, 1) := by decide +kernel
theorem dX10_second_170 : decode cX10_second 170 = .ok (.istore 11, 2) := by decide +kernel
theorem dX10_second_172 : decode cX10_second 172 = .ok (.iload 11, 2) := by decide +kernel
theorem dX10_second_174 : decode cX10_second 174 = .ok (.bipush 8, 2) := by decide +kernel
theorem dX10_second_176 : decode cX10_second 176 = .ok (.if_icmp .ge 17, 3) := by decide +kernel
theorem dX10_second_179 : decode cX10_second 179 = .ok (.aload_n 0, 1) := by decide +kernel
theorem dX10_second_180 : decode cX10_second 180 = .ok (.getfield 133, 3) := by decide +kernel
theorem dX10_second_183 : decode cX10_second 183 = .ok (.iload 11, 2) := by decide +kernel
theorem dX10_second_185 : decode cX10_second 185 = .ok (.iconst 0, 1) := by decide +kernel
theorem dX10_second_186 : decode cX10_second 186 = .ok (.iastore, 1) := by decide +kernel
theorem dX10_second_187 : decode cX10_second 187 = .ok (.iinc 11 1, 3) := by decide +kernel
theorem dX10_second_190 : decode cX10_second 190 = .ok (.goto (-18), 3) := by decide +kernel
theorem dX10_second_193 : decode cX10_second 193 = .ok (.aload_n 0, 1) := by decide +kernel
theorem dX10_second_194 : decode cX10_second 194 = .ok (.iload 6, 2) := by decide +kernel
theorem dX10_second_196 : decode cX10_second 196 = .ok (.iload 10, 2) := by decide +kernel
theorem dX10_second_198 : decode cX10_second 198 = .ok (.aload_n 0, 1) := by decide +kernel
theorem dX10_second_199 : decode cX10_second 199 = .ok (.getfield 22, 3) := by decide +kernel
theorem dX10_second_202 : decode cX10_second 202 = .ok (.bipush 24, 2) := by decide +kernel
theorem dX10_second_204 : decode cX10_second 204 = .ok (.aload_n 0, 1) := by decide +kernel
theorem dX10_second_205 : decode cX10_second 205 = .ok (.getfield 7, 3) := by decide +kernel
theorem dX10_second_208 : decode cX10_second 208 = .ok (.iconst 5, 1) := by decide +kernel
theorem dX10_second_209 : decode cX10_second 209 = .ok (.iaload, 1) := by decide +kernel
theorem dX10_second_210 : decode cX10_second 210 = .ok (.imul, 1) := by decide +kernel
theorem dX10_second_211 : decode cX10_second 211 = .ok (.iload_n 1, 1) := by decide +kernel
theorem dX10_second_212 : decode cX10_second 212 = .ok (.iadd, 1) := by decide +kernel
theorem dX10_second_213 : decode cX10_second 213 = .ok (.iaload, 1) := by decide +kernel
theorem dX10_second_214 : decode cX10_second 214 = .ok (.invokevirtual 436, 3) := by decide +kernel
theorem dX10_second_217 : decode cX10_second 217 = .ok (.aload_n 0, 1) := by decide +kernel
theorem dX10_second_218 : decode cX10_second 218 = .ok (.invokevirtual 477, 3) := by decide +kernel
theorem dX10_second_221 : decode cX10_second 221 = .ok (.istore 11, 2) := by decide +kernel
theorem dX10_second_223 : decode cX10_second 223 = .ok (.iload_n 3, 1) := by decide +kernel
theorem dX10_second_224 : decode cX10_second 224 = .ok (.bipush (-2), 2) := by decide +kernel
theorem dX10_second_226 : decode cX10_second 226 = .ok (.if_icmp .eq 10, 3) := by decide +kernel
theorem dX10_second_229 : decode cX10_second 229 = .ok (.iload 11, 2) := by decide +kernel
theorem dX10_second_231 : decode cX10_second 231 = .ok (.iload 5, 2) := by decide +kernel
theorem dX10_second_233 : decode cX10_second 233 = .ok (.if_icmp .le 14, 3) := by decide +kernel
theorem dX10_second_236 : decode cX10_second 236 = .ok (.iload 6, 2) := by decide +kernel
theorem dX10_second_238 : decode cX10_second 238 = .ok (.istore_n 3, 1) := by decide +kernel
theorem dX10_second_239 : decode cX10_second 239 = .ok (.iload 10, 2) := by decide +kernel
theorem dX10_second_241 : decode cX10_second 241 = .ok (.istore 4, 2) := by decide +kernel
theorem dX10_second_243 : decode cX10_second 243 = .ok (.iload 11, 2) := by decide +kernel
theorem dX10_second_245 : decode cX10_second 245 = .ok (.istore 5, 2) := by decide +kernel
theorem dX10_second_247 : decode cX10_second 247 = .ok (.iinc 10 1, 3) := by decide +kernel
theorem dX10_second_250 : decode cX10_second 250 = .ok (.goto (-137), 3) := by decide +kernel
theorem dX10_second_253 : decode cX10_second 253 = .ok (.iinc 6 1, 3) := by decide +kernel
theorem dX10_second_256 : decode cX10_second 256 = .ok (.goto (-222), 3) := by decide +kernel
theorem dX10_second_259 : decode cX10_second 259 = .ok (.iload_n 3, 1) := by decide +kernel
theorem dX10_second_260 : decode cX10_second 260 = .ok (.bipush (-2), 2) := by decide +kernel
theorem dX10_second_262 : decode cX10_second 262 = .ok (.if_icmp .eq 7, 3) := by decide +kernel
theorem dX10_second_265 : decode cX10_second 265 = .ok (.iload_n 2, 1) := by decide +kernel
theorem dX10_second_266 : decode cX10_second 266 = .ok (.ifCond .ne 7, 3) := by decide +kernel
theorem dX10_second_269 : decode cX10_second 269 = .ok (.iload_n 3, 1) := by decide +kernel
theorem dX10_second_270 : decode cX10_second 270 = .ok (.goto 15, 3) := by decide +kernel
theorem dX10_second_273 : decode cX10_second 273 = .ok (.iload_n 2, 1) := by decide +kernel
theorem dX10_second_274 : decode cX10_second 274 = .ok (.iconst 1, 1) := by decide +kernel
theorem dX10_second_275 : decode cX10_second 275 = .ok (.if_icmp .ne 8, 3) := by decide +kernel
theorem dX10_second_278 : decode cX10_second 278 = .ok (.iload 4, 2) := by decide +kernel
theorem dX10_second_280 : decode cX10_second 280 = .ok (.goto 5, 3) := by decide +kernel
theorem dX10_second_283 : decode cX10_second 283 = .ok (.iload 5, 2) := by decide +kernel
theorem dX10_second_285 : decode cX10_second 285 = .ok (.ireturn, 1) := by decide +kernel
theorem ce_X10_second : CeV RX10 yX10_second cX10_second 12 (some .int) 2 := ⟨tb_1786, tb_1787, tb_11, tb_1788, rfl, by decide, by decide, by decide +kernel⟩
set_option maxHeartbeats 4000000 in
set_option maxRecDepth 20000 in
theorem V_X10_second (l : Launch) (D : va_G) (A : Nat → Prop) (ad : Nat → Nat) (ns : List Nat) (I : MI) (L : ML) (G : MG) (a0 : Int32) (a1 : Int32) (hJ : SGM ns G) (hI : INV I) : Met l yX10_second (wd yX10_second cX10_second 12 (some .int)) ({ frames := 4, cells := 0, slots := 0, locals := 106 }) (va_Pc [.ref (ad (1000)), .int a0, .int a1] (PM D A ad ns I L G)) (va_Qi (fun r u => ∃ I2 L2, u = (ad, ns, I2, L2, G) ∧ INV I2 ∧ Kp [(1045, 1051), (1058, 1059), (1061, 1063)] [(1000, 51), (1000, 52), (1000, 53), (1000, 54), (1000, 55), (1000, 56), (1000, 59), (1000, 63)] I I2) (BM D A) A) 0 0 A := by
  refine m_ofW (by decide) (Nat.le_of_ble_eq_true rfl) ?_
  intro p e s m below meth c ls args hC hE hM hA hS hl
  obtain ⟨hx, hb, hml, hown, hts, hr, hlocks, hin⟩ := hC
  have km2 : (-2 : Int32).toInt = -2 := by decide
  have km1 : (-1 : Int32).toInt = -1 := by decide
  have k0 : (0 : Int32).toInt = 0 := by decide
  have k1 : (1 : Int32).toInt = 1 := by decide
  have k2 : (2 : Int32).toInt = 2 := by decide
  have k3 : (3 : Int32).toInt = 3 := by decide
  have k5 : (5 : Int32).toInt = 5 := by decide
  have k8 : (8 : Int32).toInt = 8 := by decide
  have k24 : (24 : Int32).toInt = 24 := by decide
  have k576 : (576 : Int32).toInt = 576 := by decide
  have kl0 : (0 : Int64).toInt = 0 := by decide
  have kl2 : (2 : Int64).toInt = 2 := by decide
  have hK : Kp [(1045, 1051), (1058, 1059), (1061, 1063)] [(1000, 51), (1000, 52), (1000, 53), (1000, 54), (1000, 55), (1000, 56), (1000, 59), (1000, 63)] I I := Kp.rf
  have hl : lv_has ls 12 [(0, .ref (ad (1000))), (1, .int (a0)), (2, .int (a1))] := hl
  refine lv_aload_n hx hb dX10_second_0 rfl (lv_at hl 0 rfl) ?_
  refine lv_iload_n hx hb dX10_second_1 rfl (lv_at hl 1 rfl) ?_
  refine m_calli (m_runV (1000) (As := [.int (a0)]) (rest := []) hx hb hml hown hts hE hM hS hA ce_X10_isBright tb_1698 (V_X10_isBright l D A ad ns I L G (a0) hJ hI) rfl rfl ⟨Nat.le_of_ble_eq_true rfl, Nat.le_of_ble_eq_true rfl⟩ hJ.1 rfl rfl (by decide) rfl hl.1 rfl (Nat.le_of_ble_eq_true rfl) dX10_second_2 ⟨Nat.le_of_ble_eq_true rfl, Nat.le_of_ble_eq_true rfl⟩) hS (fun r1 u H locs hw hM hS => ?_)
  obtain ⟨rfl, xr1⟩ := hw
  have hM : Mem D A ad ns I L G H := hM
  refine lv_if_eq (tgt := 20) hx hb dX10_second_5 (by decide) (fun c2 => ?_) (fun c2 => ?_)
  · have hc2 := c2
    have q2 := q_eq hc2
    refine lv_iconst (v := (-1)) hx hb dX10_second_20 (by decide) ?_
    exact m_iret hx hb hr hlocks hM hS (Nat.le_of_ble_eq_true rfl) (Nat.le_of_ble_eq_true rfl) ⟨_, _, rfl, hI, hK⟩ dX10_second_21
  · have hc2 := c2
    have q2 := q_ne hc2
    refine lv_iload_n hx hb dX10_second_8 rfl (lv_at hl 2 rfl) ?_
    refine lv_i2l hx hb dX10_second_9 rfl ?_
    refine lv_topl (fun v3 ev3 => ?_)
    have tv3 := q_i2l ev3
    refine lv_lconst (v := 0) hx hb dX10_second_10 (by decide) ?_
    refine lv_ldc2 (v := (2)) hx hb hown (hts _ tb_1789) dX10_second_11 ?_
    refine m_calli (m_runS (As := [.long (v3), .long (0), .long ((2 : Int64))]) (rest := []) hx hb hml hown hts hE hM hS hA ce_X10_in tb_1425 (V_X10_in l D A ad ns I L G (v3) (0) ((2 : Int64)) hI) rfl rfl ⟨Nat.le_of_ble_eq_true rfl, Nat.le_of_ble_eq_true rfl⟩  rfl hl.1 rfl (Nat.le_of_ble_eq_true rfl) dX10_second_14 ⟨Nat.le_of_ble_eq_true rfl, Nat.le_of_ble_eq_true rfl⟩) hS (fun r4 u H locs hw hM hS => ?_)
    obtain ⟨rfl, xr4⟩ := hw
    have hM : Mem D A ad ns I L G H := hM
    have yr4 := bo01 xr4
    refine lv_if_ne (tgt := 22) hx hb dX10_second_17 (by decide) (fun c5 => ?_) (fun c5 => ?_)
    · have hc5 := c5
      have q5 := xr4.t hc5
      refine lv_bipush (v := (-2)) hx hb dX10_second_22 (by decide) ?_
      refine lv_istore_n (lv' := [(3, .int ((-2 : Int32))), (0, .ref (ad (1000))), (1, .int (a0)), (2, .int (a1))]) hx hb dX10_second_24 rfl hl (by decide) rfl (fun ls hl => ?_)
      refine lv_iconst (v := (0)) hx hb dX10_second_25 (by decide) ?_
      refine lv_istore (lv' := [(4, .int (0)), (3, .int ((-2 : Int32))), (0, .ref (ad (1000))), (1, .int (a0)), (2, .int (a1))]) hx hb dX10_second_26 hl (by decide) rfl (fun ls hl => ?_)
      refine lv_iconst (v := (0)) hx hb dX10_second_28 (by decide) ?_
      refine lv_istore (lv' := [(5, .int (0)), (4, .int (0)), (3, .int ((-2 : Int32))), (0, .ref (ad (1000))), (1, .int (a0)), (2, .int (a1))]) hx hb dX10_second_29 hl (by decide) rfl (fun ls hl => ?_)
      refine lv_iconst (v := (0)) hx hb dX10_second_31 (by decide) ?_
      refine lv_istore (lv' := [(6, .int (0)), (5, .int (0)), (4, .int (0)), (3, .int ((-2 : Int32))), (0, .ref (ad (1000))), (1, .int (a0)), (2, .int (a1))]) hx hb dX10_second_32 hl (by decide) rfl (fun ls hl => ?_)
      have loop34 : ∀ (n : Nat) (x6_34 : Int32) (x5_34 : Int32) (x4_34 : Int32) (x3_34 : Int32) (Ia34 : MI) (La34 : ML) (H : Heap) (locs : List Loc) (ls : Array Slot), INV Ia34 → Kp [(1045, 1051), (1058, 1059), (1061, 1063)] [(1000, 51), (1000, 52), (1000, 53), (1000, 54), (1000, 55), (1000, 56), (1000, 59), (1000, 63)] I Ia34 → (0 ≤ x6_34.toInt ∧ x6_34.toInt ≤ 576) → (576 - x6_34.toInt).toNat < n → Mem D A ad ns Ia34 La34 G H → va_S A s.heap H locs → lv_has ls 12 [(6, .int (x6_34)), (5, .int (x5_34)), (4, .int (x4_34)), (3, .int (x3_34)), (0, .ref (ad (1000))), (1, .int (a0)), (2, .int (a1))] → W p l e ({ frames := 4, cells := 0, slots := 0, locals := 106 } : Room) s m args below meth c H locs 0 0 (MQ below (va_Qi (fun r u => ∃ I2 L2, u = (ad, ns, I2, L2, G) ∧ INV I2 ∧ Kp [(1045, 1051), (1058, 1059), (1061, 1063)] [(1000, 51), (1000, 52), (1000, 53), (1000, 54), (1000, 55), (1000, 56), (1000, 59), (1000, 63)] I I2) (BM D A) A) args s 0 0 A) (F0 m 34 ls []) := by
        intro n
        induction n with
        | zero =>
          intro x6_34 x5_34 x4_34 x3_34 Ia34 La34 H locs ls hI hK hr6_34 hmu
          exact absurd hmu (Nat.not_lt_zero _)
        | succ n ih34 =>
          intro x6_34 x5_34 x4_34 x3_34 Ia34 La34 H locs ls hI hK hr6_34 hmu34 hM hS hl
          refine lv_iload hx hb dX10_second_34 (lv_at hl 0 rfl) ?_
          refine lv_sipush (v := (576)) hx hb dX10_second_36 (by decide) ?_
          refine lv_icmp_ge (tgt := 259) hx hb dX10_second_39 (by decide) (fun c6 => ?_) (fun c6 => ?_)
          · have hc6 := c6
            have q6 := q_le hc6
            refine lv_iload_n hx hb dX10_second_259 rfl (lv_at hl 3 rfl) ?_
            refine lv_bipush (v := (-2)) hx hb dX10_second_260 (by decide) ?_
            refine lv_icmp_eq (tgt := 269) hx hb dX10_second_262 (by decide) (fun c7 => ?_) (fun c7 => ?_)
            · have hc7 := c7
              have q7 := q_eq hc7
              refine lv_iload_n hx hb dX10_second_269 rfl (lv_at hl 3 rfl) ?_
              refine lv_goto (tgt := 285) hx hb dX10_second_270 (by decide) ?_
              exact m_iret hx hb hr hlocks hM hS (Nat.le_of_ble_eq_true rfl) (Nat.le_of_ble_eq_true rfl) ⟨_, _, rfl, hI, hK⟩ dX10_second_285
            · have hc7 := c7
              have q7 := q_ne hc7
              refine lv_iload_n hx hb dX10_second_265 rfl (lv_at hl 6 rfl) ?_
              refine lv_if_ne (tgt := 273) hx hb dX10_second_266 (by decide) (fun c8 => ?_) (fun c8 => ?_)
              · have hc8 := c8
                have q8 := q_ne hc8
                refine lv_iload_n hx hb dX10_second_273 rfl (lv_at hl 6 rfl) ?_
                refine lv_iconst (v := (1)) hx hb dX10_second_274 (by decide) ?_
                refine lv_icmp_ne (tgt := 283) hx hb dX10_second_275 (by decide) (fun c9 => ?_) (fun c9 => ?_)
                · have hc9 := c9
                  have q9 := q_ne hc9
                  refine lv_iload hx hb dX10_second_283 (lv_at hl 1 rfl) ?_
                  exact m_iret hx hb hr hlocks hM hS (Nat.le_of_ble_eq_true rfl) (Nat.le_of_ble_eq_true rfl) ⟨_, _, rfl, hI, hK⟩ dX10_second_285
                · have hc9 := c9
                  have q9 := q_eq hc9
                  refine lv_iload hx hb dX10_second_278 (lv_at hl 2 rfl) ?_
                  refine lv_goto (tgt := 285) hx hb dX10_second_280 (by decide) ?_
                  exact m_iret hx hb hr hlocks hM hS (Nat.le_of_ble_eq_true rfl) (Nat.le_of_ble_eq_true rfl) ⟨_, _, rfl, hI, hK⟩ dX10_second_285
              · have hc8 := c8
                have q8 := q_eq hc8
                refine lv_iload_n hx hb dX10_second_269 rfl (lv_at hl 3 rfl) ?_
                refine lv_goto (tgt := 285) hx hb dX10_second_270 (by decide) ?_
                exact m_iret hx hb hr hlocks hM hS (Nat.le_of_ble_eq_true rfl) (Nat.le_of_ble_eq_true rfl) ⟨_, _, rfl, hI, hK⟩ dX10_second_285
          · have hc6 := c6
            have q6 := q_nle hc6
            refine lv_iload hx hb dX10_second_42 (lv_at hl 0 rfl) ?_
            refine lv_bipush (v := (24)) hx hb dX10_second_44 (by decide) ?_
            refine lv_irem hx hb dX10_second_46 (by decide) ?_
            refine lv_topi (fun v10 ev10 => ?_)
            have tv10 := a_rem (c := 24) ev10 (by decide) (by decide) (by omega)
            refine lv_istore (lv' := [(7, .int (v10)), (6, .int (x6_34)), (5, .int (x5_34)), (4, .int (x4_34)), (3, .int (x3_34)), (0, .ref (ad (1000))), (1, .int (a0)), (2, .int (a1))]) hx hb dX10_second_47 hl (by decide) rfl (fun ls hl => ?_)
            refine lv_iload hx hb dX10_second_49 (lv_at hl 1 rfl) ?_
            refine lv_bipush (v := (24)) hx hb dX10_second_51 (by decide) ?_
            refine lv_idiv hx hb dX10_second_53 (by decide) ?_
            refine lv_topi (fun v11 ev11 => ?_)
            have tv11 := a_div (c := 24) ev11 (by decide) (by decide) (by omega)
            refine lv_istore (lv' := [(8, .int (v11)), (7, .int (v10)), (6, .int (x6_34)), (5, .int (x5_34)), (4, .int (x4_34)), (3, .int (x3_34)), (0, .ref (ad (1000))), (1, .int (a0)), (2, .int (a1))]) hx hb dX10_second_54 hl (by decide) rfl (fun ls hl => ?_)
            refine lv_aload_n hx hb dX10_second_56 rfl (lv_at hl 6 rfl) ?_
            refine lv_iload hx hb dX10_second_57 (lv_at hl 1 rfl) ?_
            refine lv_iload hx hb dX10_second_59 (lv_at hl 0 rfl) ?_
            refine m_calli (m_runV (1000) (As := [.int (v10), .int (v11)]) (rest := []) hx hb hml hown hts hE hM hS hA ce_X10_isCell tb_1437 (V_X10_isCell l D A ad ns Ia34 La34 G (v10) (v11) hJ hI) rfl rfl ⟨Nat.le_of_ble_eq_true rfl, Nat.le_of_ble_eq_true rfl⟩ hJ.1 rfl rfl (by decide) rfl hl.1 rfl (Nat.le_of_ble_eq_true rfl) dX10_second_61 ⟨Nat.le_of_ble_eq_true rfl, Nat.le_of_ble_eq_true rfl⟩) hS (fun r12 u H locs hw hM hS => ?_)
            obtain ⟨rfl, xr12⟩ := hw
            have hM : Mem D A ad ns Ia34 La34 G H := hM
            have yr12 := bo01 xr12
            have g13 := hI.get 1001 1 (lo := 0) (hi := 24) rfl
            have g14 := hI.get 1001 2 (lo := 0) (hi := 24) rfl
            refine lv_if_eq (tgt := 107) hx hb dX10_second_64 (by decide) (fun c15 => ?_) (fun c15 => ?_)
            · have hc15 := c15
              have q15 := xr12.f hc15
              refine lv_iconst (v := (0)) hx hb dX10_second_107 (by decide) ?_
              refine lv_istore (lv' := [(9, .int (0)), (8, .int (v11)), (7, .int (v10)), (6, .int (x6_34)), (5, .int (x5_34)), (4, .int (x4_34)), (3, .int (x3_34)), (0, .ref (ad (1000))), (1, .int (a0)), (2, .int (a1))]) hx hb dX10_second_108 hl (by decide) rfl (fun ls hl => ?_)
              refine lv_iconst (v := (0)) hx hb dX10_second_110 (by decide) ?_
              refine lv_istore (lv' := [(10, .int (0)), (9, .int (0)), (8, .int (v11)), (7, .int (v10)), (6, .int (x6_34)), (5, .int (x5_34)), (4, .int (x4_34)), (3, .int (x3_34)), (0, .ref (ad (1000))), (1, .int (a0)), (2, .int (a1))]) hx hb dX10_second_111 hl (by decide) rfl (fun ls hl => ?_)
              have loop113 : ∀ (n : Nat) (x10_113 : Int32) (x5_113 : Int32) (x4_113 : Int32) (x3_113 : Int32) (Ia113 : MI) (La113 : ML) (H : Heap) (locs : List Loc) (ls : Array Slot), INV Ia113 → Kp [(1045, 1051), (1058, 1059), (1061, 1063)] [(1000, 51), (1000, 52), (1000, 53), (1000, 54), (1000, 55), (1000, 56), (1000, 59), (1000, 63)] I Ia113 → (0 ≤ x10_113.toInt ∧ x10_113.toInt ≤ 8) → (8 - x10_113.toInt).toNat < n → Mem D A ad ns Ia113 La113 G H → va_S A s.heap H locs → lv_has ls 12 [(10, .int (x10_113)), (9, .int (0)), (8, .int (v11)), (7, .int (v10)), (6, .int (x6_34)), (5, .int (x5_113)), (4, .int (x4_113)), (3, .int (x3_113)), (0, .ref (ad (1000))), (1, .int (a0)), (2, .int (a1))] → W p l e ({ frames := 4, cells := 0, slots := 0, locals := 106 } : Room) s m args below meth c H locs 0 0 (MQ below (va_Qi (fun r u => ∃ I2 L2, u = (ad, ns, I2, L2, G) ∧ INV I2 ∧ Kp [(1045, 1051), (1058, 1059), (1061, 1063)] [(1000, 51), (1000, 52), (1000, 53), (1000, 54), (1000, 55), (1000, 56), (1000, 59), (1000, 63)] I I2) (BM D A) A) args s 0 0 A) (F0 m 113 ls []) := by
                intro n
                induction n with
                | zero =>
                  intro x10_113 x5_113 x4_113 x3_113 Ia113 La113 H locs ls hI hK hr10_113 hmu
                  exact absurd hmu (Nat.not_lt_zero _)
                | succ n ih113 =>
                  intro x10_113 x5_113 x4_113 x3_113 Ia113 La113 H locs ls hI hK hr10_113 hmu113 hM hS hl
                  refine lv_iload hx hb dX10_second_113 (lv_at hl 0 rfl) ?_
                  refine lv_bipush (v := (8)) hx hb dX10_second_115 (by decide) ?_
                  refine lv_icmp_ge (tgt := 253) hx hb dX10_second_117 (by decide) (fun c16 => ?_) (fun c16 => ?_)
                  · have hc16 := c16
                    have q16 := q_le hc16
                    obtain ⟨v17, ev17⟩ : ∃ z : Int32, z = x6_34 + Int32.ofInt (1) := ⟨_, rfl⟩
                    have tv17 := a_inc ev17 (by decide) (by omega) (by omega)
                    refine lv_iinc (v := v17) (lv' := [(6, .int (v17)), (10, .int (x10_113)), (9, .int (0)), (8, .int (v11)), (7, .int (v10)), (5, .int (x5_113)), (4, .int (x4_113)), (3, .int (x3_113)), (0, .ref (ad (1000))), (1, .int (a0)), (2, .int (a1))]) hx hb dX10_second_253 hl (k := 4) rfl ev17.symm (by decide) rfl (fun ls hl => ?_)
                    refine lv_goto (tgt := 34) hx hb dX10_second_256 (by decide) ?_
                    exact ih34 (v17) (x5_113) (x4_113) (x3_113) Ia113 La113 _ _ ls hI hK (by first | omega | decide) (by omega) hM hS (lv_sub hl [0, 5, 6, 7, 8, 9, 10] rfl)
                  · have hc16 := c16
                    have q16 := q_nle hc16
                    refine lv_iload hx hb dX10_second_120 (lv_at hl 1 rfl) ?_
                    refine lv_if_eq (tgt := 253) hx hb dX10_second_122 (by decide) (fun c18 => ?_) (fun c18 => ?_)
                    · have hc18 := c18
                      have q18 := q_eq hc18
                      obtain ⟨v19, ev19⟩ : ∃ z : Int32, z = x6_34 + Int32.ofInt (1) := ⟨_, rfl⟩
                      have tv19 := a_inc ev19 (by decide) (by omega) (by omega)
                      refine lv_iinc (v := v19) (lv' := [(6, .int (v19)), (10, .int (x10_113)), (9, .int (0)), (8, .int (v11)), (7, .int (v10)), (5, .int (x5_113)), (4, .int (x4_113)), (3, .int (x3_113)), (0, .ref (ad (1000))), (1, .int (a0)), (2, .int (a1))]) hx hb dX10_second_253 hl (k := 4) rfl ev19.symm (by decide) rfl (fun ls hl => ?_)
                      refine lv_goto (tgt := 34) hx hb dX10_second_256 (by decide) ?_
                      exact ih34 (v19) (x5_113) (x4_113) (x3_113) Ia113 La113 _ _ ls hI hK (by first | omega | decide) (by omega) hM hS (lv_sub hl [0, 5, 6, 7, 8, 9, 10] rfl)
                    · exact absurd c18 (by decide)
              exact loop113 (_ + 1) (0) (x5_34) (x4_34) (x3_34) Ia34 La34 _ _ ls hI hK (by first | omega | decide) (Nat.lt_succ_self _) hM hS (lv_sub hl [0, 1, 2, 3, 4, 5, 6, 7, 8, 9, 10] rfl)
            · have hc15 := c15
              have q15 := xr12.t hc15
              refine lv_iload hx hb dX10_second_67 (lv_at hl 1 rfl) ?_
              refine lv_if_eq (tgt := 103) hx hb dX10_second_69 (by decide) (fun c20 => ?_) (fun c20 => ?_)
              · have hc20 := c20
                have q20 := q_eq hc20
                refine lv_iconst (v := (1)) hx hb dX10_second_103 (by decide) ?_
                refine lv_goto (tgt := 108) hx hb dX10_second_104 (by decide) ?_
                refine lv_istore (lv' := [(9, .int (1)), (8, .int (v11)), (7, .int (v10)), (6, .int (x6_34)), (5, .int (x5_34)), (4, .int (x4_34)), (3, .int (x3_34)), (0, .ref (ad (1000))), (1, .int (a0)), (2, .int (a1))]) hx hb dX10_second_108 hl (by decide) rfl (fun ls hl => ?_)
                refine lv_iconst (v := (0)) hx hb dX10_second_110 (by decide) ?_
                refine lv_istore (lv' := [(10, .int (0)), (9, .int (1)), (8, .int (v11)), (7, .int (v10)), (6, .int (x6_34)), (5, .int (x5_34)), (4, .int (x4_34)), (3, .int (x3_34)), (0, .ref (ad (1000))), (1, .int (a0)), (2, .int (a1))]) hx hb dX10_second_111 hl (by decide) rfl (fun ls hl => ?_)
                have loop113 : ∀ (n : Nat) (x10_113 : Int32) (x5_113 : Int32) (x4_113 : Int32) (x3_113 : Int32) (Ia113 : MI) (La113 : ML) (H : Heap) (locs : List Loc) (ls : Array Slot), INV Ia113 → Kp [(1045, 1051), (1058, 1059), (1061, 1063)] [(1000, 51), (1000, 52), (1000, 53), (1000, 54), (1000, 55), (1000, 56), (1000, 59), (1000, 63)] I Ia113 → (0 ≤ x10_113.toInt ∧ x10_113.toInt ≤ 8) → (8 - x10_113.toInt).toNat < n → Mem D A ad ns Ia113 La113 G H → va_S A s.heap H locs → lv_has ls 12 [(10, .int (x10_113)), (9, .int (1)), (8, .int (v11)), (7, .int (v10)), (6, .int (x6_34)), (5, .int (x5_113)), (4, .int (x4_113)), (3, .int (x3_113)), (0, .ref (ad (1000))), (1, .int (a0)), (2, .int (a1))] → W p l e ({ frames := 4, cells := 0, slots := 0, locals := 106 } : Room) s m args below meth c H locs 0 0 (MQ below (va_Qi (fun r u => ∃ I2 L2, u = (ad, ns, I2, L2, G) ∧ INV I2 ∧ Kp [(1045, 1051), (1058, 1059), (1061, 1063)] [(1000, 51), (1000, 52), (1000, 53), (1000, 54), (1000, 55), (1000, 56), (1000, 59), (1000, 63)] I I2) (BM D A) A) args s 0 0 A) (F0 m 113 ls []) := by
                  intro n
                  induction n with
                  | zero =>
                    intro x10_113 x5_113 x4_113 x3_113 Ia113 La113 H locs ls hI hK hr10_113 hmu
                    exact absurd hmu (Nat.not_lt_zero _)
                  | succ n ih113 =>
                    intro x10_113 x5_113 x4_113 x3_113 Ia113 La113 H locs ls hI hK hr10_113 hmu113 hM hS hl
                    refine lv_iload hx hb dX10_second_113 (lv_at hl 0 rfl) ?_
                    refine lv_bipush (v := (8)) hx hb dX10_second_115 (by decide) ?_
                    refine lv_icmp_ge (tgt := 253) hx hb dX10_second_117 (by decide) (fun c21 => ?_) (fun c21 => ?_)
                    · have hc21 := c21
                      have q21 := q_le hc21
                      obtain ⟨v22, ev22⟩ : ∃ z : Int32, z = x6_34 + Int32.ofInt (1) := ⟨_, rfl⟩
                      have tv22 := a_inc ev22 (by decide) (by omega) (by omega)
                      refine lv_iinc (v := v22) (lv' := [(6, .int (v22)), (10, .int (x10_113)), (9, .int (1)), (8, .int (v11)), (7, .int (v10)), (5, .int (x5_113)), (4, .int (x4_113)), (3, .int (x3_113)), (0, .ref (ad (1000))), (1, .int (a0)), (2, .int (a1))]) hx hb dX10_second_253 hl (k := 4) rfl ev22.symm (by decide) rfl (fun ls hl => ?_)
                      refine lv_goto (tgt := 34) hx hb dX10_second_256 (by decide) ?_
                      exact ih34 (v22) (x5_113) (x4_113) (x3_113) Ia113 La113 _ _ ls hI hK (by first | omega | decide) (by omega) hM hS (lv_sub hl [0, 5, 6, 7, 8, 9, 10] rfl)
                    · have hc21 := c21
                      have q21 := q_nle hc21
                      refine lv_iload hx hb dX10_second_120 (lv_at hl 1 rfl) ?_
                      refine lv_if_eq (tgt := 253) hx hb dX10_second_122 (by decide) (fun c23 => ?_) (fun c23 => ?_)
                      · exact absurd c23 (by decide)
                      · have hc23 := c23
                        have q23 := q_ne hc23
                        refine lv_aload_n hx hb dX10_second_125 rfl (lv_at hl 8 rfl) ?_
                        refine m_getr (1000) 2 (1002) hx hb hts hown hE oc10 hM hJ.1 rfl (by decide) rfl (hJ.2 2 (by decide)).2 (by decide) tb_1179 dX10_second_126 ?_
                        refine lv_iload hx hb dX10_second_129 (lv_at hl 4 rfl) ?_
                        refine m_iald (1002) hx hb hE hM (hJ.2 2 (by decide)).1 rfl (vp_in_iff.mpr (by omega)) dX10_second_131 ?_
                        refine lv_if_ne (tgt := 253) hx hb dX10_second_132 (by decide) (fun c24 => ?_) (fun c24 => ?_)
                        · have hc24 := c24
                          have q24 := q_ne hc24
                          obtain ⟨v25, ev25⟩ : ∃ z : Int32, z = x6_34 + Int32.ofInt (1) := ⟨_, rfl⟩
                          have tv25 := a_inc ev25 (by decide) (by omega) (by omega)
                          refine lv_iinc (v := v25) (lv' := [(6, .int (v25)), (10, .int (x10_113)), (9, .int (1)), (8, .int (v11)), (7, .int (v10)), (5, .int (x5_113)), (4, .int (x4_113)), (3, .int (x3_113)), (0, .ref (ad (1000))), (1, .int (a0)), (2, .int (a1))]) hx hb dX10_second_253 hl (k := 4) rfl ev25.symm (by decide) rfl (fun ls hl => ?_)
                          refine lv_goto (tgt := 34) hx hb dX10_second_256 (by decide) ?_
                          exact ih34 (v25) (x5_113) (x4_113) (x3_113) Ia113 La113 _ _ ls hI hK (by first | omega | decide) (by omega) hM hS (lv_sub hl [0, 5, 6, 7, 8, 9, 10] rfl)
                        · have hc24 := c24
                          have q24 := q_eq hc24
                          refine lv_iload hx hb dX10_second_135 (lv_at hl 4 rfl) ?_
                          refine lv_aload_n hx hb dX10_second_137 rfl (lv_at hl 8 rfl) ?_
                          refine m_getr (1000) 1 (1001) hx hb hts hown hE oc10 hM hJ.1 rfl (by decide) rfl (hJ.2 1 (by decide)).2 (by decide) tb_1178 dX10_second_138 ?_
                          refine lv_iconst (v := (3)) hx hb dX10_second_141 (by decide) ?_
                          refine m_iald (1001) hx hb hE hM (hJ.2 1 (by decide)).1 rfl (vp_in_iff.mpr (by decide)) dX10_second_142 ?_
                          rw [show (3 : Int32).toNatClampNeg = 3 from rfl]
                          refine lv_icmp_eq (tgt := 253) hx hb dX10_second_143 (by decide) (fun c26 => ?_) (fun c26 => ?_)
                          · have hc26 := c26
                            have q26 := q_eq hc26
                            obtain ⟨v27, ev27⟩ : ∃ z : Int32, z = x6_34 + Int32.ofInt (1) := ⟨_, rfl⟩
                            have tv27 := a_inc ev27 (by decide) (by omega) (by omega)
                            refine lv_iinc (v := v27) (lv' := [(6, .int (v27)), (10, .int (x10_113)), (9, .int (1)), (8, .int (v11)), (7, .int (v10)), (5, .int (x5_113)), (4, .int (x4_113)), (3, .int (x3_113)), (0, .ref (ad (1000))), (1, .int (a0)), (2, .int (a1))]) hx hb dX10_second_253 hl (k := 4) rfl ev27.symm (by decide) rfl (fun ls hl => ?_)
                            refine lv_goto (tgt := 34) hx hb dX10_second_256 (by decide) ?_
                            exact ih34 (v27) (x5_113) (x4_113) (x3_113) Ia113 La113 _ _ ls hI hK (by first | omega | decide) (by omega) hM hS (lv_sub hl [0, 5, 6, 7, 8, 9, 10] rfl)
                          · have hc26 := c26
                            have q26 := q_ne hc26
                            refine lv_aload_n hx hb dX10_second_146 rfl (lv_at hl 8 rfl) ?_
                            refine lv_iload hx hb dX10_second_147 (lv_at hl 3 rfl) ?_
                            refine lv_iload hx hb dX10_second_149 (lv_at hl 0 rfl) ?_
                            refine m_calli (m_runS (As := [.int (x10_113)]) (rest := [.int (v10), .ref (ad (1000))]) hx hb hml hown hts hE hM hS hA ce_X10_stepX tb_1660 (V_X10_stepX l D A ad ns Ia113 La113 G (x10_113) hI) rfl rfl ⟨Nat.le_of_ble_eq_true rfl, Nat.le_of_ble_eq_true rfl⟩  rfl hl.1 rfl (Nat.le_of_ble_eq_true rfl) dX10_second_151 ⟨Nat.le_of_ble_eq_true rfl, Nat.le_of_ble_eq_true rfl⟩) hS (fun r28 u H locs hw hM hS => ?_)
                            obtain ⟨rfl, xr28⟩ := hw
                            have hM : Mem D A ad ns Ia113 La113 G H := hM
                            refine lv_iadd hx hb dX10_second_154 ?_
                            refine lv_topi (fun v29 ev29 => ?_)
                            have tv29 := a_add ev29 (by omega) (by omega)
                            refine lv_iload hx hb dX10_second_155 (lv_at hl 2 rfl) ?_
                            refine lv_iload hx hb dX10_second_157 (lv_at hl 0 rfl) ?_
                            refine m_calli (m_runS (As := [.int (x10_113)]) (rest := [.int (v11), .int (v29), .ref (ad (1000))]) hx hb hml hown hts hE hM hS hA ce_X10_stepY tb_1663 (V_X10_stepY l D A ad ns Ia113 La113 G (x10_113) hI) rfl rfl ⟨Nat.le_of_ble_eq_true rfl, Nat.le_of_ble_eq_true rfl⟩  rfl hl.1 rfl (Nat.le_of_ble_eq_true rfl) dX10_second_159 ⟨Nat.le_of_ble_eq_true rfl, Nat.le_of_ble_eq_true rfl⟩) hS (fun r30 u H locs hw hM hS => ?_)
                            obtain ⟨rfl, xr30⟩ := hw
                            have hM : Mem D A ad ns Ia113 La113 G H := hM
                            refine lv_iadd hx hb dX10_second_162 ?_
                            refine lv_topi (fun v31 ev31 => ?_)
                            have tv31 := a_add ev31 (by omega) (by omega)
                            refine m_calli (m_runV (1000) (As := [.int (v29), .int (v31)]) (rest := []) hx hb hml hown hts hE hM hS hA ce_X10_isCell tb_1437 (V_X10_isCell l D A ad ns Ia113 La113 G (v29) (v31) hJ hI) rfl rfl ⟨Nat.le_of_ble_eq_true rfl, Nat.le_of_ble_eq_true rfl⟩ hJ.1 rfl rfl (by decide) rfl hl.1 rfl (Nat.le_of_ble_eq_true rfl) dX10_second_163 ⟨Nat.le_of_ble_eq_true rfl, Nat.le_of_ble_eq_true rfl⟩) hS (fun r32 u H locs hw hM hS => ?_)
                            obtain ⟨rfl, xr32⟩ := hw
                            have hM : Mem D A ad ns Ia113 La113 G H := hM
                            have yr32 := bo01 xr32
                            have g33 := hI.get 1001 1 (lo := 0) (hi := 24) rfl
                            have g34 := hI.get 1001 2 (lo := 0) (hi := 24) rfl
                            refine lv_if_eq (tgt := 247) hx hb dX10_second_166 (by decide) (fun c35 => ?_) (fun c35 => ?_)
                            · have hc35 := c35
                              have q35 := xr32.f hc35
                              obtain ⟨v36, ev36⟩ : ∃ z : Int32, z = x10_113 + Int32.ofInt (1) := ⟨_, rfl⟩
                              have tv36 := a_inc ev36 (by decide) (by omega) (by omega)
                              refine lv_iinc (v := v36) (lv' := [(10, .int (v36)), (9, .int (1)), (8, .int (v11)), (7, .int (v10)), (6, .int (x6_34)), (5, .int (x5_113)), (4, .int (x4_113)), (3, .int (x3_113)), (0, .ref (ad (1000))), (1, .int (a0)), (2, .int (a1))]) hx hb dX10_second_247 hl (k := 0) rfl ev36.symm (by decide) rfl (fun ls hl => ?_)
                              refine lv_goto (tgt := 113) hx hb dX10_second_250 (by decide) ?_
                              exact ih113 (v36) (x5_113) (x4_113) (x3_113) Ia113 La113 _ _ ls hI hK (by first | omega | decide) (by omega) hM hS (lv_sub hl [0, 1, 2, 3, 4, 5, 6, 7, 8, 9, 10] rfl)
                            · have hc35 := c35
                              have q35 := xr32.t hc35
                              refine lv_iconst (v := (0)) hx hb dX10_second_169 (by decide) ?_
                              refine lv_istore (lv' := [(11, .int (0)), (10, .int (x10_113)), (9, .int (1)), (8, .int (v11)), (7, .int (v10)), (6, .int (x6_34)), (5, .int (x5_113)), (4, .int (x4_113)), (3, .int (x3_113)), (0, .ref (ad (1000))), (1, .int (a0)), (2, .int (a1))]) hx hb dX10_second_170 hl (by decide) rfl (fun ls hl => ?_)
                              have loop172 : ∀ (n : Nat) (x11_172 : Int32) (Ia172 : MI) (La172 : ML) (H : Heap) (locs : List Loc) (ls : Array Slot), INV Ia172 → Kp [(1045, 1051), (1058, 1059), (1061, 1063)] [(1000, 51), (1000, 52), (1000, 53), (1000, 54), (1000, 55), (1000, 56), (1000, 59), (1000, 63)] I Ia172 → (0 ≤ x11_172.toInt ∧ x11_172.toInt ≤ 8) → (8 - x11_172.toInt).toNat < n → Mem D A ad ns Ia172 La172 G H → va_S A s.heap H locs → lv_has ls 12 [(11, .int (x11_172)), (10, .int (x10_113)), (9, .int (1)), (8, .int (v11)), (7, .int (v10)), (6, .int (x6_34)), (5, .int (x5_113)), (4, .int (x4_113)), (3, .int (x3_113)), (0, .ref (ad (1000))), (1, .int (a0)), (2, .int (a1))] → W p l e ({ frames := 4, cells := 0, slots := 0, locals := 106 } : Room) s m args below meth c H locs 0 0 (MQ below (va_Qi (fun r u => ∃ I2 L2, u = (ad, ns, I2, L2, G) ∧ INV I2 ∧ Kp [(1045, 1051), (1058, 1059), (1061, 1063)] [(1000, 51), (1000, 52), (1000, 53), (1000, 54), (1000, 55), (1000, 56), (1000, 59), (1000, 63)] I I2) (BM D A) A) args s 0 0 A) (F0 m 172 ls []) := by
                                intro n
                                induction n with
                                | zero =>
                                  intro x11_172 Ia172 La172 H locs ls hI hK hr11_172 hmu
                                  exact absurd hmu (Nat.not_lt_zero _)
                                | succ n ih172 =>
                                  intro x11_172 Ia172 La172 H locs ls hI hK hr11_172 hmu172 hM hS hl
                                  refine lv_iload hx hb dX10_second_172 (lv_at hl 0 rfl) ?_
                                  refine lv_bipush (v := (8)) hx hb dX10_second_174 (by decide) ?_
                                  refine lv_icmp_ge (tgt := 193) hx hb dX10_second_176 (by decide) (fun c37 => ?_) (fun c37 => ?_)
                                  · have hc37 := c37
                                    have q37 := q_le hc37
                                    refine lv_aload_n hx hb dX10_second_193 rfl (lv_at hl 9 rfl) ?_
                                    refine lv_iload hx hb dX10_second_194 (lv_at hl 5 rfl) ?_
                                    refine lv_iload hx hb dX10_second_196 (lv_at hl 1 rfl) ?_
                                    refine lv_aload_n hx hb dX10_second_198 rfl (lv_at hl 9 rfl) ?_
                                    refine m_getr (1000) 5 (1005) hx hb hts hown hE oc10 hM hJ.1 rfl (by decide) rfl (hJ.2 5 (by decide)).2 (by decide) tb_1182 dX10_second_199 ?_
                                    refine lv_bipush (v := (24)) hx hb dX10_second_202 (by decide) ?_
                                    refine lv_aload_n hx hb dX10_second_204 rfl (lv_at hl 9 rfl) ?_
                                    refine m_getr (1000) 1 (1001) hx hb hts hown hE oc10 hM hJ.1 rfl (by decide) rfl (hJ.2 1 (by decide)).2 (by decide) tb_1178 dX10_second_205 ?_
                                    refine lv_iconst (v := (5)) hx hb dX10_second_208 (by decide) ?_
                                    refine m_iald (1001) hx hb hE hM (hJ.2 1 (by decide)).1 rfl (vp_in_iff.mpr (by decide)) dX10_second_209 ?_
                                    rw [show (5 : Int32).toNatClampNeg = 5 from rfl]
                                    have g38 := hI.get (1001) 5 (lo := 0) (hi := 11) rfl
                                    refine lv_imul hx hb dX10_second_210 ?_
                                    refine lv_topi (fun v39 ev39 => ?_)
                                    have tv39 := a_mulL (c := 24) ev39 (by decide) (by omega) (by omega)
                                    refine lv_iload_n hx hb dX10_second_211 rfl (lv_at hl 10 rfl) ?_
                                    refine lv_iadd hx hb dX10_second_212 ?_
                                    refine lv_topi (fun v40 ev40 => ?_)
                                    have tv40 := a_add ev40 (by omega) (by omega)
                                    refine m_iald (1005) hx hb hE hM (hJ.2 5 (by decide)).1 rfl (vp_in_iff.mpr (by omega)) dX10_second_213 ?_
                                    refine m_callv (m_runV (1000) (As := [.int (x6_34), .int (x10_113), .int (Ia172 (1005) (v40).toNatClampNeg)]) (rest := []) hx hb hml hown hts hE hM hS hA ce_X10_traces tb_1644 (V_X10_traces l D A ad ns Ia172 La172 G (x6_34) (x10_113) (Ia172 (1005) (v40).toNatClampNeg) hJ hI) rfl rfl ⟨Nat.le_of_ble_eq_true rfl, Nat.le_of_ble_eq_true rfl⟩ hJ.1 rfl rfl (by decide) rfl hl.1 rfl (Nat.le_of_ble_eq_true rfl) dX10_second_214 ⟨Nat.le_of_ble_eq_true rfl, Nat.le_of_ble_eq_true rfl⟩) hS (fun u H locs hw hM hS => ?_)
                                    obtain ⟨I41, L42, rfl, hI, hkI41⟩ := hw
                                    have hM : Mem D A ad ns I41 L42 G H := hM
                                    have hK := hK.trans hkI41 rfl
                                    refine lv_aload_n hx hb dX10_second_217 rfl (lv_at hl 9 rfl) ?_
                                    refine m_calli (m_runV (1000) (As := []) (rest := []) hx hb hml hown hts hE hM hS hA ce_X10_allGot tb_1707 (V_X10_allGot l D A ad ns I41 L42 G hJ hI) rfl rfl ⟨Nat.le_of_ble_eq_true rfl, Nat.le_of_ble_eq_true rfl⟩ hJ.1 rfl rfl (by decide) rfl hl.1 rfl (Nat.le_of_ble_eq_true rfl) dX10_second_218 ⟨Nat.le_of_ble_eq_true rfl, Nat.le_of_ble_eq_true rfl⟩) hS (fun r43 u H locs hw hM hS => ?_)
                                    obtain ⟨rfl, xr43⟩ := hw
                                    have hM : Mem D A ad ns I41 L42 G H := hM
                                    refine lv_istore (lv' := [(11, .int (r43)), (10, .int (x10_113)), (9, .int (1)), (8, .int (v11)), (7, .int (v10)), (6, .int (x6_34)), (5, .int (x5_113)), (4, .int (x4_113)), (3, .int (x3_113)), (0, .ref (ad (1000))), (1, .int (a0)), (2, .int (a1))]) hx hb dX10_second_221 hl (by decide) rfl (fun ls hl => ?_)
                                    refine lv_iload_n hx hb dX10_second_223 rfl (lv_at hl 8 rfl) ?_
                                    refine lv_bipush (v := (-2)) hx hb dX10_second_224 (by decide) ?_
                                    refine lv_icmp_eq (tgt := 236) hx hb dX10_second_226 (by decide) (fun c44 => ?_) (fun c44 => ?_)
                                    · have hc44 := c44
                                      have q44 := q_eq hc44
                                      refine lv_iload hx hb dX10_second_236 (lv_at hl 5 rfl) ?_
                                      refine lv_istore_n (lv' := [(3, .int (x6_34)), (11, .int (r43)), (10, .int (x10_113)), (9, .int (1)), (8, .int (v11)), (7, .int (v10)), (6, .int (x6_34)), (5, .int (x5_113)), (4, .int (x4_113)), (0, .ref (ad (1000))), (1, .int (a0)), (2, .int (a1))]) hx hb dX10_second_238 rfl hl (by decide) rfl (fun ls hl => ?_)
                                      refine lv_iload hx hb dX10_second_239 (lv_at hl 2 rfl) ?_
                                      refine lv_istore (lv' := [(4, .int (x10_113)), (3, .int (x6_34)), (11, .int (r43)), (10, .int (x10_113)), (9, .int (1)), (8, .int (v11)), (7, .int (v10)), (6, .int (x6_34)), (5, .int (x5_113)), (0, .ref (ad (1000))), (1, .int (a0)), (2, .int (a1))]) hx hb dX10_second_241 hl (by decide) rfl (fun ls hl => ?_)
                                      refine lv_iload hx hb dX10_second_243 (lv_at hl 2 rfl) ?_
                                      refine lv_istore (lv' := [(5, .int (r43)), (4, .int (x10_113)), (3, .int (x6_34)), (11, .int (r43)), (10, .int (x10_113)), (9, .int (1)), (8, .int (v11)), (7, .int (v10)), (6, .int (x6_34)), (0, .ref (ad (1000))), (1, .int (a0)), (2, .int (a1))]) hx hb dX10_second_245 hl (by decide) rfl (fun ls hl => ?_)
                                      obtain ⟨v45, ev45⟩ : ∃ z : Int32, z = x10_113 + Int32.ofInt (1) := ⟨_, rfl⟩
                                      have tv45 := a_inc ev45 (by decide) (by omega) (by omega)
                                      refine lv_iinc (v := v45) (lv' := [(10, .int (v45)), (5, .int (r43)), (4, .int (x10_113)), (3, .int (x6_34)), (11, .int (r43)), (9, .int (1)), (8, .int (v11)), (7, .int (v10)), (6, .int (x6_34)), (0, .ref (ad (1000))), (1, .int (a0)), (2, .int (a1))]) hx hb dX10_second_247 hl (k := 4) rfl ev45.symm (by decide) rfl (fun ls hl => ?_)
                                      refine lv_goto (tgt := 113) hx hb dX10_second_250 (by decide) ?_
                                      exact ih113 (v45) (r43) (x10_113) (x6_34) I41 L42 _ _ ls hI hK (by first | omega | decide) (by omega) hM hS (lv_sub hl [0, 5, 6, 7, 8, 1, 2, 3, 9, 10, 11] rfl)
                                    · have hc44 := c44
                                      have q44 := q_ne hc44
                                      refine lv_iload hx hb dX10_second_229 (lv_at hl 0 rfl) ?_
                                      refine lv_iload hx hb dX10_second_231 (lv_at hl 6 rfl) ?_
                                      refine lv_icmp_le (tgt := 247) hx hb dX10_second_233 (by decide) (fun c46 => ?_) (fun c46 => ?_)
                                      · have hc46 := c46
                                        have q46 := q_le hc46
                                        obtain ⟨v47, ev47⟩ : ∃ z : Int32, z = x10_113 + Int32.ofInt (1) := ⟨_, rfl⟩
                                        have tv47 := a_inc ev47 (by decide) (by omega) (by omega)
                                        refine lv_iinc (v := v47) (lv' := [(10, .int (v47)), (11, .int (r43)), (9, .int (1)), (8, .int (v11)), (7, .int (v10)), (6, .int (x6_34)), (5, .int (x5_113)), (4, .int (x4_113)), (3, .int (x3_113)), (0, .ref (ad (1000))), (1, .int (a0)), (2, .int (a1))]) hx hb dX10_second_247 hl (k := 1) rfl ev47.symm (by decide) rfl (fun ls hl => ?_)
                                        refine lv_goto (tgt := 113) hx hb dX10_second_250 (by decide) ?_
                                        exact ih113 (v47) (x5_113) (x4_113) (x3_113) I41 L42 _ _ ls hI hK (by first | omega | decide) (by omega) hM hS (lv_sub hl [0, 2, 3, 4, 5, 6, 7, 8, 9, 10, 11] rfl)
                                      · have hc46 := c46
                                        have q46 := q_nle hc46
                                        refine lv_iload hx hb dX10_second_236 (lv_at hl 5 rfl) ?_
                                        refine lv_istore_n (lv' := [(3, .int (x6_34)), (11, .int (r43)), (10, .int (x10_113)), (9, .int (1)), (8, .int (v11)), (7, .int (v10)), (6, .int (x6_34)), (5, .int (x5_113)), (4, .int (x4_113)), (0, .ref (ad (1000))), (1, .int (a0)), (2, .int (a1))]) hx hb dX10_second_238 rfl hl (by decide) rfl (fun ls hl => ?_)
                                        refine lv_iload hx hb dX10_second_239 (lv_at hl 2 rfl) ?_
                                        refine lv_istore (lv' := [(4, .int (x10_113)), (3, .int (x6_34)), (11, .int (r43)), (10, .int (x10_113)), (9, .int (1)), (8, .int (v11)), (7, .int (v10)), (6, .int (x6_34)), (5, .int (x5_113)), (0, .ref (ad (1000))), (1, .int (a0)), (2, .int (a1))]) hx hb dX10_second_241 hl (by decide) rfl (fun ls hl => ?_)
                                        refine lv_iload hx hb dX10_second_243 (lv_at hl 2 rfl) ?_
                                        refine lv_istore (lv' := [(5, .int (r43)), (4, .int (x10_113)), (3, .int (x6_34)), (11, .int (r43)), (10, .int (x10_113)), (9, .int (1)), (8, .int (v11)), (7, .int (v10)), (6, .int (x6_34)), (0, .ref (ad (1000))), (1, .int (a0)), (2, .int (a1))]) hx hb dX10_second_245 hl (by decide) rfl (fun ls hl => ?_)
                                        obtain ⟨v48, ev48⟩ : ∃ z : Int32, z = x10_113 + Int32.ofInt (1) := ⟨_, rfl⟩
                                        have tv48 := a_inc ev48 (by decide) (by omega) (by omega)
                                        refine lv_iinc (v := v48) (lv' := [(10, .int (v48)), (5, .int (r43)), (4, .int (x10_113)), (3, .int (x6_34)), (11, .int (r43)), (9, .int (1)), (8, .int (v11)), (7, .int (v10)), (6, .int (x6_34)), (0, .ref (ad (1000))), (1, .int (a0)), (2, .int (a1))]) hx hb dX10_second_247 hl (k := 4) rfl ev48.symm (by decide) rfl (fun ls hl => ?_)
                                        refine lv_goto (tgt := 113) hx hb dX10_second_250 (by decide) ?_
                                        exact ih113 (v48) (r43) (x10_113) (x6_34) I41 L42 _ _ ls hI hK (by first | omega | decide) (by omega) hM hS (lv_sub hl [0, 5, 6, 7, 8, 1, 2, 3, 9, 10, 11] rfl)
                                  · have hc37 := c37
                                    have q37 := q_nle hc37
                                    refine lv_aload_n hx hb dX10_second_179 rfl (lv_at hl 9 rfl) ?_
                                    refine m_getr (1000) 50 (1050) hx hb hts hown hE oc10 hM hJ.1 rfl (by decide) rfl (hJ.2 50 (by decide)).2 (by decide) tb_1227 dX10_second_180 ?_
                                    refine lv_iload hx hb dX10_second_183 (lv_at hl 0 rfl) ?_
                                    refine lv_iconst (v := (0)) hx hb dX10_second_185 (by decide) ?_
                                    refine m_iast (1050) hx hb hE hM hS (hJ.2 50 (by decide)).1 rfl (vp_in_iff.mpr (by omega)) dX10_second_186 (fun H locs I49 eI49 hM hS => ?_)
                                    subst eI49
                                    have hI := hI.putF (n := 1050) (k := ((x11_172).toNatClampNeg)) (v := 0) rfl
                                    have hK := hK.put (n := 1050) (k := ((x11_172).toNatClampNeg)) (v := 0) (by first | rfl | simp [inR])
                                    obtain ⟨v50, ev50⟩ : ∃ z : Int32, z = x11_172 + Int32.ofInt (1) := ⟨_, rfl⟩
                                    have tv50 := a_inc ev50 (by decide) (by omega) (by omega)
                                    refine lv_iinc (v := v50) (lv' := [(11, .int (v50)), (10, .int (x10_113)), (9, .int (1)), (8, .int (v11)), (7, .int (v10)), (6, .int (x6_34)), (5, .int (x5_113)), (4, .int (x4_113)), (3, .int (x3_113)), (0, .ref (ad (1000))), (1, .int (a0)), (2, .int (a1))]) hx hb dX10_second_187 hl (k := 0) rfl ev50.symm (by decide) rfl (fun ls hl => ?_)
                                    refine lv_goto (tgt := 172) hx hb dX10_second_190 (by decide) ?_
                                    exact ih172 (v50) (u2 Ia172 (1050) ((x11_172).toNatClampNeg) (0)) La172 _ _ ls hI hK (by first | omega | decide) (by omega) hM hS (lv_sub hl [0, 1, 2, 3, 4, 5, 6, 7, 8, 9, 10, 11] rfl)
                              exact loop172 (_ + 1) (0) Ia113 La113 _ _ ls hI hK (by first | omega | decide) (Nat.lt_succ_self _) hM hS (lv_sub hl [0, 1, 2, 3, 4, 5, 6, 7, 8, 9, 10, 11] rfl)
                exact loop113 (_ + 1) (0) (x5_34) (x4_34) (x3_34) Ia34 La34 _ _ ls hI hK (by first | omega | decide) (Nat.lt_succ_self _) hM hS (lv_sub hl [0, 1, 2, 3, 4, 5, 6, 7, 8, 9, 10] rfl)
              · have hc20 := c20
                have q20 := q_ne hc20
                refine lv_iload hx hb dX10_second_72 (lv_at hl 0 rfl) ?_
                refine lv_if_eq (tgt := 103) hx hb dX10_second_74 (by decide) (fun c51 => ?_) (fun c51 => ?_)
                · have hc51 := c51
                  have q51 := q_eq hc51
                  refine lv_iconst (v := (1)) hx hb dX10_second_103 (by decide) ?_
                  refine lv_goto (tgt := 108) hx hb dX10_second_104 (by decide) ?_
                  refine lv_istore (lv' := [(9, .int (1)), (8, .int (v11)), (7, .int (v10)), (6, .int (x6_34)), (5, .int (x5_34)), (4, .int (x4_34)), (3, .int (x3_34)), (0, .ref (ad (1000))), (1, .int (a0)), (2, .int (a1))]) hx hb dX10_second_108 hl (by decide) rfl (fun ls hl => ?_)
                  refine lv_iconst (v := (0)) hx hb dX10_second_110 (by decide) ?_
                  refine lv_istore (lv' := [(10, .int (0)), (9, .int (1)), (8, .int (v11)), (7, .int (v10)), (6, .int (x6_34)), (5, .int (x5_34)), (4, .int (x4_34)), (3, .int (x3_34)), (0, .ref (ad (1000))), (1, .int (a0)), (2, .int (a1))]) hx hb dX10_second_111 hl (by decide) rfl (fun ls hl => ?_)
                  have loop113 : ∀ (n : Nat) (x10_113 : Int32) (x5_113 : Int32) (x4_113 : Int32) (x3_113 : Int32) (Ia113 : MI) (La113 : ML) (H : Heap) (locs : List Loc) (ls : Array Slot), INV Ia113 → Kp [(1045, 1051), (1058, 1059), (1061, 1063)] [(1000, 51), (1000, 52), (1000, 53), (1000, 54), (1000, 55), (1000, 56), (1000, 59), (1000, 63)] I Ia113 → (0 ≤ x10_113.toInt ∧ x10_113.toInt ≤ 8) → (8 - x10_113.toInt).toNat < n → Mem D A ad ns Ia113 La113 G H → va_S A s.heap H locs → lv_has ls 12 [(10, .int (x10_113)), (9, .int (1)), (8, .int (v11)), (7, .int (v10)), (6, .int (x6_34)), (5, .int (x5_113)), (4, .int (x4_113)), (3, .int (x3_113)), (0, .ref (ad (1000))), (1, .int (a0)), (2, .int (a1))] → W p l e ({ frames := 4, cells := 0, slots := 0, locals := 106 } : Room) s m args below meth c H locs 0 0 (MQ below (va_Qi (fun r u => ∃ I2 L2, u = (ad, ns, I2, L2, G) ∧ INV I2 ∧ Kp [(1045, 1051), (1058, 1059), (1061, 1063)] [(1000, 51), (1000, 52), (1000, 53), (1000, 54), (1000, 55), (1000, 56), (1000, 59), (1000, 63)] I I2) (BM D A) A) args s 0 0 A) (F0 m 113 ls []) := by
                    intro n
                    induction n with
                    | zero =>
                      intro x10_113 x5_113 x4_113 x3_113 Ia113 La113 H locs ls hI hK hr10_113 hmu
                      exact absurd hmu (Nat.not_lt_zero _)
                    | succ n ih113 =>
                      intro x10_113 x5_113 x4_113 x3_113 Ia113 La113 H locs ls hI hK hr10_113 hmu113 hM hS hl
                      refine lv_iload hx hb dX10_second_113 (lv_at hl 0 rfl) ?_
                      refine lv_bipush (v := (8)) hx hb dX10_second_115 (by decide) ?_
                      refine lv_icmp_ge (tgt := 253) hx hb dX10_second_117 (by decide) (fun c52 => ?_) (fun c52 => ?_)
                      · have hc52 := c52
                        have q52 := q_le hc52
                        obtain ⟨v53, ev53⟩ : ∃ z : Int32, z = x6_34 + Int32.ofInt (1) := ⟨_, rfl⟩
                        have tv53 := a_inc ev53 (by decide) (by omega) (by omega)
                        refine lv_iinc (v := v53) (lv' := [(6, .int (v53)), (10, .int (x10_113)), (9, .int (1)), (8, .int (v11)), (7, .int (v10)), (5, .int (x5_113)), (4, .int (x4_113)), (3, .int (x3_113)), (0, .ref (ad (1000))), (1, .int (a0)), (2, .int (a1))]) hx hb dX10_second_253 hl (k := 4) rfl ev53.symm (by decide) rfl (fun ls hl => ?_)
                        refine lv_goto (tgt := 34) hx hb dX10_second_256 (by decide) ?_
                        exact ih34 (v53) (x5_113) (x4_113) (x3_113) Ia113 La113 _ _ ls hI hK (by first | omega | decide) (by omega) hM hS (lv_sub hl [0, 5, 6, 7, 8, 9, 10] rfl)
                      · have hc52 := c52
                        have q52 := q_nle hc52
                        refine lv_iload hx hb dX10_second_120 (lv_at hl 1 rfl) ?_
                        refine lv_if_eq (tgt := 253) hx hb dX10_second_122 (by decide) (fun c54 => ?_) (fun c54 => ?_)
                        · exact absurd c54 (by decide)
                        · have hc54 := c54
                          have q54 := q_ne hc54
                          refine lv_aload_n hx hb dX10_second_125 rfl (lv_at hl 8 rfl) ?_
                          refine m_getr (1000) 2 (1002) hx hb hts hown hE oc10 hM hJ.1 rfl (by decide) rfl (hJ.2 2 (by decide)).2 (by decide) tb_1179 dX10_second_126 ?_
                          refine lv_iload hx hb dX10_second_129 (lv_at hl 4 rfl) ?_
                          refine m_iald (1002) hx hb hE hM (hJ.2 2 (by decide)).1 rfl (vp_in_iff.mpr (by omega)) dX10_second_131 ?_
                          refine lv_if_ne (tgt := 253) hx hb dX10_second_132 (by decide) (fun c55 => ?_) (fun c55 => ?_)
                          · have hc55 := c55
                            have q55 := q_ne hc55
                            obtain ⟨v56, ev56⟩ : ∃ z : Int32, z = x6_34 + Int32.ofInt (1) := ⟨_, rfl⟩
                            have tv56 := a_inc ev56 (by decide) (by omega) (by omega)
                            refine lv_iinc (v := v56) (lv' := [(6, .int (v56)), (10, .int (x10_113)), (9, .int (1)), (8, .int (v11)), (7, .int (v10)), (5, .int (x5_113)), (4, .int (x4_113)), (3, .int (x3_113)), (0, .ref (ad (1000))), (1, .int (a0)), (2, .int (a1))]) hx hb dX10_second_253 hl (k := 4) rfl ev56.symm (by decide) rfl (fun ls hl => ?_)
                            refine lv_goto (tgt := 34) hx hb dX10_second_256 (by decide) ?_
                            exact ih34 (v56) (x5_113) (x4_113) (x3_113) Ia113 La113 _ _ ls hI hK (by first | omega | decide) (by omega) hM hS (lv_sub hl [0, 5, 6, 7, 8, 9, 10] rfl)
                          · have hc55 := c55
                            have q55 := q_eq hc55
                            refine lv_iload hx hb dX10_second_135 (lv_at hl 4 rfl) ?_
                            refine lv_aload_n hx hb dX10_second_137 rfl (lv_at hl 8 rfl) ?_
                            refine m_getr (1000) 1 (1001) hx hb hts hown hE oc10 hM hJ.1 rfl (by decide) rfl (hJ.2 1 (by decide)).2 (by decide) tb_1178 dX10_second_138 ?_
                            refine lv_iconst (v := (3)) hx hb dX10_second_141 (by decide) ?_
                            refine m_iald (1001) hx hb hE hM (hJ.2 1 (by decide)).1 rfl (vp_in_iff.mpr (by decide)) dX10_second_142 ?_
                            rw [show (3 : Int32).toNatClampNeg = 3 from rfl]
                            refine lv_icmp_eq (tgt := 253) hx hb dX10_second_143 (by decide) (fun c57 => ?_) (fun c57 => ?_)
                            · have hc57 := c57
                              have q57 := q_eq hc57
                              obtain ⟨v58, ev58⟩ : ∃ z : Int32, z = x6_34 + Int32.ofInt (1) := ⟨_, rfl⟩
                              have tv58 := a_inc ev58 (by decide) (by omega) (by omega)
                              refine lv_iinc (v := v58) (lv' := [(6, .int (v58)), (10, .int (x10_113)), (9, .int (1)), (8, .int (v11)), (7, .int (v10)), (5, .int (x5_113)), (4, .int (x4_113)), (3, .int (x3_113)), (0, .ref (ad (1000))), (1, .int (a0)), (2, .int (a1))]) hx hb dX10_second_253 hl (k := 4) rfl ev58.symm (by decide) rfl (fun ls hl => ?_)
                              refine lv_goto (tgt := 34) hx hb dX10_second_256 (by decide) ?_
                              exact ih34 (v58) (x5_113) (x4_113) (x3_113) Ia113 La113 _ _ ls hI hK (by first | omega | decide) (by omega) hM hS (lv_sub hl [0, 5, 6, 7, 8, 9, 10] rfl)
                            · have hc57 := c57
                              have q57 := q_ne hc57
                              refine lv_aload_n hx hb dX10_second_146 rfl (lv_at hl 8 rfl) ?_
                              refine lv_iload hx hb dX10_second_147 (lv_at hl 3 rfl) ?_
                              refine lv_iload hx hb dX10_second_149 (lv_at hl 0 rfl) ?_
                              refine m_calli (m_runS (As := [.int (x10_113)]) (rest := [.int (v10), .ref (ad (1000))]) hx hb hml hown hts hE hM hS hA ce_X10_stepX tb_1660 (V_X10_stepX l D A ad ns Ia113 La113 G (x10_113) hI) rfl rfl ⟨Nat.le_of_ble_eq_true rfl, Nat.le_of_ble_eq_true rfl⟩  rfl hl.1 rfl (Nat.le_of_ble_eq_true rfl) dX10_second_151 ⟨Nat.le_of_ble_eq_true rfl, Nat.le_of_ble_eq_true rfl⟩) hS (fun r59 u H locs hw hM hS => ?_)
                              obtain ⟨rfl, xr59⟩ := hw
                              have hM : Mem D A ad ns Ia113 La113 G H := hM
                              refine lv_iadd hx hb dX10_second_154 ?_
                              refine lv_topi (fun v60 ev60 => ?_)
                              have tv60 := a_add ev60 (by omega) (by omega)
                              refine lv_iload hx hb dX10_second_155 (lv_at hl 2 rfl) ?_
                              refine lv_iload hx hb dX10_second_157 (lv_at hl 0 rfl) ?_
                              refine m_calli (m_runS (As := [.int (x10_113)]) (rest := [.int (v11), .int (v60), .ref (ad (1000))]) hx hb hml hown hts hE hM hS hA ce_X10_stepY tb_1663 (V_X10_stepY l D A ad ns Ia113 La113 G (x10_113) hI) rfl rfl ⟨Nat.le_of_ble_eq_true rfl, Nat.le_of_ble_eq_true rfl⟩  rfl hl.1 rfl (Nat.le_of_ble_eq_true rfl) dX10_second_159 ⟨Nat.le_of_ble_eq_true rfl, Nat.le_of_ble_eq_true rfl⟩) hS (fun r61 u H locs hw hM hS => ?_)
                              obtain ⟨rfl, xr61⟩ := hw
                              have hM : Mem D A ad ns Ia113 La113 G H := hM
                              refine lv_iadd hx hb dX10_second_162 ?_
                              refine lv_topi (fun v62 ev62 => ?_)
                              have tv62 := a_add ev62 (by omega) (by omega)
                              refine m_calli (m_runV (1000) (As := [.int (v60), .int (v62)]) (rest := []) hx hb hml hown hts hE hM hS hA ce_X10_isCell tb_1437 (V_X10_isCell l D A ad ns Ia113 La113 G (v60) (v62) hJ hI) rfl rfl ⟨Nat.le_of_ble_eq_true rfl, Nat.le_of_ble_eq_true rfl⟩ hJ.1 rfl rfl (by decide) rfl hl.1 rfl (Nat.le_of_ble_eq_true rfl) dX10_second_163 ⟨Nat.le_of_ble_eq_true rfl, Nat.le_of_ble_eq_true rfl⟩) hS (fun r63 u H locs hw hM hS => ?_)
                              obtain ⟨rfl, xr63⟩ := hw
                              have hM : Mem D A ad ns Ia113 La113 G H := hM
                              have yr63 := bo01 xr63
                              have g64 := hI.get 1001 1 (lo := 0) (hi := 24) rfl
                              have g65 := hI.get 1001 2 (lo := 0) (hi := 24) rfl
                              refine lv_if_eq (tgt := 247) hx hb dX10_second_166 (by decide) (fun c66 => ?_) (fun c66 => ?_)
                              · have hc66 := c66
                                have q66 := xr63.f hc66
                                obtain ⟨v67, ev67⟩ : ∃ z : Int32, z = x10_113 + Int32.ofInt (1) := ⟨_, rfl⟩
                                have tv67 := a_inc ev67 (by decide) (by omega) (by omega)
                                refine lv_iinc (v := v67) (lv' := [(10, .int (v67)), (9, .int (1)), (8, .int (v11)), (7, .int (v10)), (6, .int (x6_34)), (5, .int (x5_113)), (4, .int (x4_113)), (3, .int (x3_113)), (0, .ref (ad (1000))), (1, .int (a0)), (2, .int (a1))]) hx hb dX10_second_247 hl (k := 0) rfl ev67.symm (by decide) rfl (fun ls hl => ?_)
                                refine lv_goto (tgt := 113) hx hb dX10_second_250 (by decide) ?_
                                exact ih113 (v67) (x5_113) (x4_113) (x3_113) Ia113 La113 _ _ ls hI hK (by first | omega | decide) (by omega) hM hS (lv_sub hl [0, 1, 2, 3, 4, 5, 6, 7, 8, 9, 10] rfl)
                              · have hc66 := c66
                                have q66 := xr63.t hc66
                                refine lv_iconst (v := (0)) hx hb dX10_second_169 (by decide) ?_
                                refine lv_istore (lv' := [(11, .int (0)), (10, .int (x10_113)), (9, .int (1)), (8, .int (v11)), (7, .int (v10)), (6, .int (x6_34)), (5, .int (x5_113)), (4, .int (x4_113)), (3, .int (x3_113)), (0, .ref (ad (1000))), (1, .int (a0)), (2, .int (a1))]) hx hb dX10_second_170 hl (by decide) rfl (fun ls hl => ?_)
                                have loop172 : ∀ (n : Nat) (x11_172 : Int32) (Ia172 : MI) (La172 : ML) (H : Heap) (locs : List Loc) (ls : Array Slot), INV Ia172 → Kp [(1045, 1051), (1058, 1059), (1061, 1063)] [(1000, 51), (1000, 52), (1000, 53), (1000, 54), (1000, 55), (1000, 56), (1000, 59), (1000, 63)] I Ia172 → (0 ≤ x11_172.toInt ∧ x11_172.toInt ≤ 8) → (8 - x11_172.toInt).toNat < n → Mem D A ad ns Ia172 La172 G H → va_S A s.heap H locs → lv_has ls 12 [(11, .int (x11_172)), (10, .int (x10_113)), (9, .int (1)), (8, .int (v11)), (7, .int (v10)), (6, .int (x6_34)), (5, .int (x5_113)), (4, .int (x4_113)), (3, .int (x3_113)), (0, .ref (ad (1000))), (1, .int (a0)), (2, .int (a1))] → W p l e ({ frames := 4, cells := 0, slots := 0, locals := 106 } : Room) s m args below meth c H locs 0 0 (MQ below (va_Qi (fun r u => ∃ I2 L2, u = (ad, ns, I2, L2, G) ∧ INV I2 ∧ Kp [(1045, 1051), (1058, 1059), (1061, 1063)] [(1000, 51), (1000, 52), (1000, 53), (1000, 54), (1000, 55), (1000, 56), (1000, 59), (1000, 63)] I I2) (BM D A) A) args s 0 0 A) (F0 m 172 ls []) := by
                                  intro n
                                  induction n with
                                  | zero =>
                                    intro x11_172 Ia172 La172 H locs ls hI hK hr11_172 hmu
                                    exact absurd hmu (Nat.not_lt_zero _)
                                  | succ n ih172 =>
                                    intro x11_172 Ia172 La172 H locs ls hI hK hr11_172 hmu172 hM hS hl
                                    refine lv_iload hx hb dX10_second_172 (lv_at hl 0 rfl) ?_
                                    refine lv_bipush (v := (8)) hx hb dX10_second_174 (by decide) ?_
                                    refine lv_icmp_ge (tgt := 193) hx hb dX10_second_176 (by decide) (fun c68 => ?_) (fun c68 => ?_)
                                    · have hc68 := c68
                                      have q68 := q_le hc68
                                      refine lv_aload_n hx hb dX10_second_193 rfl (lv_at hl 9 rfl) ?_
                                      refine lv_iload hx hb dX10_second_194 (lv_at hl 5 rfl) ?_
                                      refine lv_iload hx hb dX10_second_196 (lv_at hl 1 rfl) ?_
                                      refine lv_aload_n hx hb dX10_second_198 rfl (lv_at hl 9 rfl) ?_
                                      refine m_getr (1000) 5 (1005) hx hb hts hown hE oc10 hM hJ.1 rfl (by decide) rfl (hJ.2 5 (by decide)).2 (by decide) tb_1182 dX10_second_199 ?_
                                      refine lv_bipush (v := (24)) hx hb dX10_second_202 (by decide) ?_
                                      refine lv_aload_n hx hb dX10_second_204 rfl (lv_at hl 9 rfl) ?_
                                      refine m_getr (1000) 1 (1001) hx hb hts hown hE oc10 hM hJ.1 rfl (by decide) rfl (hJ.2 1 (by decide)).2 (by decide) tb_1178 dX10_second_205 ?_
                                      refine lv_iconst (v := (5)) hx hb dX10_second_208 (by decide) ?_
                                      refine m_iald (1001) hx hb hE hM (hJ.2 1 (by decide)).1 rfl (vp_in_iff.mpr (by decide)) dX10_second_209 ?_
                                      rw [show (5 : Int32).toNatClampNeg = 5 from rfl]
                                      have g69 := hI.get (1001) 5 (lo := 0) (hi := 11) rfl
                                      refine lv_imul hx hb dX10_second_210 ?_
                                      refine lv_topi (fun v70 ev70 => ?_)
                                      have tv70 := a_mulL (c := 24) ev70 (by decide) (by omega) (by omega)
                                      refine lv_iload_n hx hb dX10_second_211 rfl (lv_at hl 10 rfl) ?_
                                      refine lv_iadd hx hb dX10_second_212 ?_
                                      refine lv_topi (fun v71 ev71 => ?_)
                                      have tv71 := a_add ev71 (by omega) (by omega)
                                      refine m_iald (1005) hx hb hE hM (hJ.2 5 (by decide)).1 rfl (vp_in_iff.mpr (by omega)) dX10_second_213 ?_
                                      refine m_callv (m_runV (1000) (As := [.int (x6_34), .int (x10_113), .int (Ia172 (1005) (v71).toNatClampNeg)]) (rest := []) hx hb hml hown hts hE hM hS hA ce_X10_traces tb_1644 (V_X10_traces l D A ad ns Ia172 La172 G (x6_34) (x10_113) (Ia172 (1005) (v71).toNatClampNeg) hJ hI) rfl rfl ⟨Nat.le_of_ble_eq_true rfl, Nat.le_of_ble_eq_true rfl⟩ hJ.1 rfl rfl (by decide) rfl hl.1 rfl (Nat.le_of_ble_eq_true rfl) dX10_second_214 ⟨Nat.le_of_ble_eq_true rfl, Nat.le_of_ble_eq_true rfl⟩) hS (fun u H locs hw hM hS => ?_)
                                      obtain ⟨I72, L73, rfl, hI, hkI72⟩ := hw
                                      have hM : Mem D A ad ns I72 L73 G H := hM
                                      have hK := hK.trans hkI72 rfl
                                      refine lv_aload_n hx hb dX10_second_217 rfl (lv_at hl 9 rfl) ?_
                                      refine m_calli (m_runV (1000) (As := []) (rest := []) hx hb hml hown hts hE hM hS hA ce_X10_allGot tb_1707 (V_X10_allGot l D A ad ns I72 L73 G hJ hI) rfl rfl ⟨Nat.le_of_ble_eq_true rfl, Nat.le_of_ble_eq_true rfl⟩ hJ.1 rfl rfl (by decide) rfl hl.1 rfl (Nat.le_of_ble_eq_true rfl) dX10_second_218 ⟨Nat.le_of_ble_eq_true rfl, Nat.le_of_ble_eq_true rfl⟩) hS (fun r74 u H locs hw hM hS => ?_)
                                      obtain ⟨rfl, xr74⟩ := hw
                                      have hM : Mem D A ad ns I72 L73 G H := hM
                                      refine lv_istore (lv' := [(11, .int (r74)), (10, .int (x10_113)), (9, .int (1)), (8, .int (v11)), (7, .int (v10)), (6, .int (x6_34)), (5, .int (x5_113)), (4, .int (x4_113)), (3, .int (x3_113)), (0, .ref (ad (1000))), (1, .int (a0)), (2, .int (a1))]) hx hb dX10_second_221 hl (by decide) rfl (fun ls hl => ?_)
                                      refine lv_iload_n hx hb dX10_second_223 rfl (lv_at hl 8 rfl) ?_
                                      refine lv_bipush (v := (-2)) hx hb dX10_second_224 (by decide) ?_
                                      refine lv_icmp_eq (tgt := 236) hx hb dX10_second_226 (by decide) (fun c75 => ?_) (fun c75 => ?_)
                                      · have hc75 := c75
                                        have q75 := q_eq hc75
                                        refine lv_iload hx hb dX10_second_236 (lv_at hl 5 rfl) ?_
                                        refine lv_istore_n (lv' := [(3, .int (x6_34)), (11, .int (r74)), (10, .int (x10_113)), (9, .int (1)), (8, .int (v11)), (7, .int (v10)), (6, .int (x6_34)), (5, .int (x5_113)), (4, .int (x4_113)), (0, .ref (ad (1000))), (1, .int (a0)), (2, .int (a1))]) hx hb dX10_second_238 rfl hl (by decide) rfl (fun ls hl => ?_)
                                        refine lv_iload hx hb dX10_second_239 (lv_at hl 2 rfl) ?_
                                        refine lv_istore (lv' := [(4, .int (x10_113)), (3, .int (x6_34)), (11, .int (r74)), (10, .int (x10_113)), (9, .int (1)), (8, .int (v11)), (7, .int (v10)), (6, .int (x6_34)), (5, .int (x5_113)), (0, .ref (ad (1000))), (1, .int (a0)), (2, .int (a1))]) hx hb dX10_second_241 hl (by decide) rfl (fun ls hl => ?_)
                                        refine lv_iload hx hb dX10_second_243 (lv_at hl 2 rfl) ?_
                                        refine lv_istore (lv' := [(5, .int (r74)), (4, .int (x10_113)), (3, .int (x6_34)), (11, .int (r74)), (10, .int (x10_113)), (9, .int (1)), (8, .int (v11)), (7, .int (v10)), (6, .int (x6_34)), (0, .ref (ad (1000))), (1, .int (a0)), (2, .int (a1))]) hx hb dX10_second_245 hl (by decide) rfl (fun ls hl => ?_)
                                        obtain ⟨v76, ev76⟩ : ∃ z : Int32, z = x10_113 + Int32.ofInt (1) := ⟨_, rfl⟩
                                        have tv76 := a_inc ev76 (by decide) (by omega) (by omega)
                                        refine lv_iinc (v := v76) (lv' := [(10, .int (v76)), (5, .int (r74)), (4, .int (x10_113)), (3, .int (x6_34)), (11, .int (r74)), (9, .int (1)), (8, .int (v11)), (7, .int (v10)), (6, .int (x6_34)), (0, .ref (ad (1000))), (1, .int (a0)), (2, .int (a1))]) hx hb dX10_second_247 hl (k := 4) rfl ev76.symm (by decide) rfl (fun ls hl => ?_)
                                        refine lv_goto (tgt := 113) hx hb dX10_second_250 (by decide) ?_
                                        exact ih113 (v76) (r74) (x10_113) (x6_34) I72 L73 _ _ ls hI hK (by first | omega | decide) (by omega) hM hS (lv_sub hl [0, 5, 6, 7, 8, 1, 2, 3, 9, 10, 11] rfl)
                                      · have hc75 := c75
                                        have q75 := q_ne hc75
                                        refine lv_iload hx hb dX10_second_229 (lv_at hl 0 rfl) ?_
                                        refine lv_iload hx hb dX10_second_231 (lv_at hl 6 rfl) ?_
                                        refine lv_icmp_le (tgt := 247) hx hb dX10_second_233 (by decide) (fun c77 => ?_) (fun c77 => ?_)
                                        · have hc77 := c77
                                          have q77 := q_le hc77
                                          obtain ⟨v78, ev78⟩ : ∃ z : Int32, z = x10_113 + Int32.ofInt (1) := ⟨_, rfl⟩
                                          have tv78 := a_inc ev78 (by decide) (by omega) (by omega)
                                          refine lv_iinc (v := v78) (lv' := [(10, .int (v78)), (11, .int (r74)), (9, .int (1)), (8, .int (v11)), (7, .int (v10)), (6, .int (x6_34)), (5, .int (x5_113)), (4, .int (x4_113)), (3, .int (x3_113)), (0, .ref (ad (1000))), (1, .int (a0)), (2, .int (a1))]) hx hb dX10_second_247 hl (k := 1) rfl ev78.symm (by decide) rfl (fun ls hl => ?_)
                                          refine lv_goto (tgt := 113) hx hb dX10_second_250 (by decide) ?_
                                          exact ih113 (v78) (x5_113) (x4_113) (x3_113) I72 L73 _ _ ls hI hK (by first | omega | decide) (by omega) hM hS (lv_sub hl [0, 2, 3, 4, 5, 6, 7, 8, 9, 10, 11] rfl)
                                        · have hc77 := c77
                                          have q77 := q_nle hc77
                                          refine lv_iload hx hb dX10_second_236 (lv_at hl 5 rfl) ?_
                                          refine lv_istore_n (lv' := [(3, .int (x6_34)), (11, .int (r74)), (10, .int (x10_113)), (9, .int (1)), (8, .int (v11)), (7, .int (v10)), (6, .int (x6_34)), (5, .int (x5_113)), (4, .int (x4_113)), (0, .ref (ad (1000))), (1, .int (a0)), (2, .int (a1))]) hx hb dX10_second_238 rfl hl (by decide) rfl (fun ls hl => ?_)
                                          refine lv_iload hx hb dX10_second_239 (lv_at hl 2 rfl) ?_
                                          refine lv_istore (lv' := [(4, .int (x10_113)), (3, .int (x6_34)), (11, .int (r74)), (10, .int (x10_113)), (9, .int (1)), (8, .int (v11)), (7, .int (v10)), (6, .int (x6_34)), (5, .int (x5_113)), (0, .ref (ad (1000))), (1, .int (a0)), (2, .int (a1))]) hx hb dX10_second_241 hl (by decide) rfl (fun ls hl => ?_)
                                          refine lv_iload hx hb dX10_second_243 (lv_at hl 2 rfl) ?_
                                          refine lv_istore (lv' := [(5, .int (r74)), (4, .int (x10_113)), (3, .int (x6_34)), (11, .int (r74)), (10, .int (x10_113)), (9, .int (1)), (8, .int (v11)), (7, .int (v10)), (6, .int (x6_34)), (0, .ref (ad (1000))), (1, .int (a0)), (2, .int (a1))]) hx hb dX10_second_245 hl (by decide) rfl (fun ls hl => ?_)
                                          obtain ⟨v79, ev79⟩ : ∃ z : Int32, z = x10_113 + Int32.ofInt (1) := ⟨_, rfl⟩
                                          have tv79 := a_inc ev79 (by decide) (by omega) (by omega)
                                          refine lv_iinc (v := v79) (lv' := [(10, .int (v79)), (5, .int (r74)), (4, .int (x10_113)), (3, .int (x6_34)), (11, .int (r74)), (9, .int (1)), (8, .int (v11)), (7, .int (v10)), (6, .int (x6_34)), (0, .ref (ad (1000))), (1, .int (a0)), (2, .int (a1))]) hx hb dX10_second_247 hl (k := 4) rfl ev79.symm (by decide) rfl (fun ls hl => ?_)
                                          refine lv_goto (tgt := 113) hx hb dX10_second_250 (by decide) ?_
                                          exact ih113 (v79) (r74) (x10_113) (x6_34) I72 L73 _ _ ls hI hK (by first | omega | decide) (by omega) hM hS (lv_sub hl [0, 5, 6, 7, 8, 1, 2, 3, 9, 10, 11] rfl)
                                    · have hc68 := c68
                                      have q68 := q_nle hc68
                                      refine lv_aload_n hx hb dX10_second_179 rfl (lv_at hl 9 rfl) ?_
                                      refine m_getr (1000) 50 (1050) hx hb hts hown hE oc10 hM hJ.1 rfl (by decide) rfl (hJ.2 50 (by decide)).2 (by decide) tb_1227 dX10_second_180 ?_
                                      refine lv_iload hx hb dX10_second_183 (lv_at hl 0 rfl) ?_
                                      refine lv_iconst (v := (0)) hx hb dX10_second_185 (by decide) ?_
                                      refine m_iast (1050) hx hb hE hM hS (hJ.2 50 (by decide)).1 rfl (vp_in_iff.mpr (by omega)) dX10_second_186 (fun H locs I80 eI80 hM hS => ?_)
                                      subst eI80
                                      have hI := hI.putF (n := 1050) (k := ((x11_172).toNatClampNeg)) (v := 0) rfl
                                      have hK := hK.put (n := 1050) (k := ((x11_172).toNatClampNeg)) (v := 0) (by first | rfl | simp [inR])
                                      obtain ⟨v81, ev81⟩ : ∃ z : Int32, z = x11_172 + Int32.ofInt (1) := ⟨_, rfl⟩
                                      have tv81 := a_inc ev81 (by decide) (by omega) (by omega)
                                      refine lv_iinc (v := v81) (lv' := [(11, .int (v81)), (10, .int (x10_113)), (9, .int (1)), (8, .int (v11)), (7, .int (v10)), (6, .int (x6_34)), (5, .int (x5_113)), (4, .int (x4_113)), (3, .int (x3_113)), (0, .ref (ad (1000))), (1, .int (a0)), (2, .int (a1))]) hx hb dX10_second_187 hl (k := 0) rfl ev81.symm (by decide) rfl (fun ls hl => ?_)
                                      refine lv_goto (tgt := 172) hx hb dX10_second_190 (by decide) ?_
                                      exact ih172 (v81) (u2 Ia172 (1050) ((x11_172).toNatClampNeg) (0)) La172 _ _ ls hI hK (by first | omega | decide) (by omega) hM hS (lv_sub hl [0, 1, 2, 3, 4, 5, 6, 7, 8, 9, 10, 11] rfl)
                                exact loop172 (_ + 1) (0) Ia113 La113 _ _ ls hI hK (by first | omega | decide) (Nat.lt_succ_self _) hM hS (lv_sub hl [0, 1, 2, 3, 4, 5, 6, 7, 8, 9, 10, 11] rfl)
                  exact loop113 (_ + 1) (0) (x5_34) (x4_34) (x3_34) Ia34 La34 _ _ ls hI hK (by first | omega | decide) (Nat.lt_succ_self _) hM hS (lv_sub hl [0, 1, 2, 3, 4, 5, 6, 7, 8, 9, 10] rfl)
                · have hc51 := c51
                  have q51 := q_ne hc51
                  refine lv_iload hx hb dX10_second_77 (lv_at hl 1 rfl) ?_
                  refine lv_aload_n hx hb dX10_second_79 rfl (lv_at hl 6 rfl) ?_
                  refine m_getr (1000) 1 (1001) hx hb hts hown hE oc10 hM hJ.1 rfl (by decide) rfl (hJ.2 1 (by decide)).2 (by decide) tb_1178 dX10_second_80 ?_
                  refine lv_iconst (v := (1)) hx hb dX10_second_83 (by decide) ?_
                  refine m_iald (1001) hx hb hE hM (hJ.2 1 (by decide)).1 rfl (vp_in_iff.mpr (by decide)) dX10_second_84 ?_
                  rw [show (1 : Int32).toNatClampNeg = 1 from rfl]
                  have g82 := hI.get (1001) 1 (lo := 0) (hi := 24) rfl
                  refine lv_iconst (v := (1)) hx hb dX10_second_85 (by decide) ?_
                  refine lv_isub hx hb dX10_second_86 ?_
                  refine lv_topi (fun v83 ev83 => ?_)
                  have tv83 := a_sub ev83 (by omega) (by omega)
                  refine lv_icmp_eq (tgt := 103) hx hb dX10_second_87 (by decide) (fun c84 => ?_) (fun c84 => ?_)
                  · have hc84 := c84
                    have q84 := q_eq hc84
                    refine lv_iconst (v := (1)) hx hb dX10_second_103 (by decide) ?_
                    refine lv_goto (tgt := 108) hx hb dX10_second_104 (by decide) ?_
                    refine lv_istore (lv' := [(9, .int (1)), (8, .int (v11)), (7, .int (v10)), (6, .int (x6_34)), (5, .int (x5_34)), (4, .int (x4_34)), (3, .int (x3_34)), (0, .ref (ad (1000))), (1, .int (a0)), (2, .int (a1))]) hx hb dX10_second_108 hl (by decide) rfl (fun ls hl => ?_)
                    refine lv_iconst (v := (0)) hx hb dX10_second_110 (by decide) ?_
                    refine lv_istore (lv' := [(10, .int (0)), (9, .int (1)), (8, .int (v11)), (7, .int (v10)), (6, .int (x6_34)), (5, .int (x5_34)), (4, .int (x4_34)), (3, .int (x3_34)), (0, .ref (ad (1000))), (1, .int (a0)), (2, .int (a1))]) hx hb dX10_second_111 hl (by decide) rfl (fun ls hl => ?_)
                    have loop113 : ∀ (n : Nat) (x10_113 : Int32) (x5_113 : Int32) (x4_113 : Int32) (x3_113 : Int32) (Ia113 : MI) (La113 : ML) (H : Heap) (locs : List Loc) (ls : Array Slot), INV Ia113 → Kp [(1045, 1051), (1058, 1059), (1061, 1063)] [(1000, 51), (1000, 52), (1000, 53), (1000, 54), (1000, 55), (1000, 56), (1000, 59), (1000, 63)] I Ia113 → (0 ≤ x10_113.toInt ∧ x10_113.toInt ≤ 8) → (8 - x10_113.toInt).toNat < n → Mem D A ad ns Ia113 La113 G H → va_S A s.heap H locs → lv_has ls 12 [(10, .int (x10_113)), (9, .int (1)), (8, .int (v11)), (7, .int (v10)), (6, .int (x6_34)), (5, .int (x5_113)), (4, .int (x4_113)), (3, .int (x3_113)), (0, .ref (ad (1000))), (1, .int (a0)), (2, .int (a1))] → W p l e ({ frames := 4, cells := 0, slots := 0, locals := 106 } : Room) s m args below meth c H locs 0 0 (MQ below (va_Qi (fun r u => ∃ I2 L2, u = (ad, ns, I2, L2, G) ∧ INV I2 ∧ Kp [(1045, 1051), (1058, 1059), (1061, 1063)] [(1000, 51), (1000, 52), (1000, 53), (1000, 54), (1000, 55), (1000, 56), (1000, 59), (1000, 63)] I I2) (BM D A) A) args s 0 0 A) (F0 m 113 ls []) := by
                      intro n
                      induction n with
                      | zero =>
                        intro x10_113 x5_113 x4_113 x3_113 Ia113 La113 H locs ls hI hK hr10_113 hmu
                        exact absurd hmu (Nat.not_lt_zero _)
                      | succ n ih113 =>
                        intro x10_113 x5_113 x4_113 x3_113 Ia113 La113 H locs ls hI hK hr10_113 hmu113 hM hS hl
                        refine lv_iload hx hb dX10_second_113 (lv_at hl 0 rfl) ?_
                        refine lv_bipush (v := (8)) hx hb dX10_second_115 (by decide) ?_
                        refine lv_icmp_ge (tgt := 253) hx hb dX10_second_117 (by decide) (fun c85 => ?_) (fun c85 => ?_)
                        · have hc85 := c85
                          have q85 := q_le hc85
                          obtain ⟨v86, ev86⟩ : ∃ z : Int32, z = x6_34 + Int32.ofInt (1) := ⟨_, rfl⟩
                          have tv86 := a_inc ev86 (by decide) (by omega) (by omega)
                          refine lv_iinc (v := v86) (lv' := [(6, .int (v86)), (10, .int (x10_113)), (9, .int (1)), (8, .int (v11)), (7, .int (v10)), (5, .int (x5_113)), (4, .int (x4_113)), (3, .int (x3_113)), (0, .ref (ad (1000))), (1, .int (a0)), (2, .int (a1))]) hx hb dX10_second_253 hl (k := 4) rfl ev86.symm (by decide) rfl (fun ls hl => ?_)
                          refine lv_goto (tgt := 34) hx hb dX10_second_256 (by decide) ?_
                          exact ih34 (v86) (x5_113) (x4_113) (x3_113) Ia113 La113 _ _ ls hI hK (by first | omega | decide) (by omega) hM hS (lv_sub hl [0, 5, 6, 7, 8, 9, 10] rfl)
                        · have hc85 := c85
                          have q85 := q_nle hc85
                          refine lv_iload hx hb dX10_second_120 (lv_at hl 1 rfl) ?_
                          refine lv_if_eq (tgt := 253) hx hb dX10_second_122 (by decide) (fun c87 => ?_) (fun c87 => ?_)
                          · exact absurd c87 (by decide)
                          · have hc87 := c87
                            have q87 := q_ne hc87
                            refine lv_aload_n hx hb dX10_second_125 rfl (lv_at hl 8 rfl) ?_
                            refine m_getr (1000) 2 (1002) hx hb hts hown hE oc10 hM hJ.1 rfl (by decide) rfl (hJ.2 2 (by decide)).2 (by decide) tb_1179 dX10_second_126 ?_
                            refine lv_iload hx hb dX10_second_129 (lv_at hl 4 rfl) ?_
                            refine m_iald (1002) hx hb hE hM (hJ.2 2 (by decide)).1 rfl (vp_in_iff.mpr (by omega)) dX10_second_131 ?_
                            refine lv_if_ne (tgt := 253) hx hb dX10_second_132 (by decide) (fun c88 => ?_) (fun c88 => ?_)
                            · have hc88 := c88
                              have q88 := q_ne hc88
                              obtain ⟨v89, ev89⟩ : ∃ z : Int32, z = x6_34 + Int32.ofInt (1) := ⟨_, rfl⟩
                              have tv89 := a_inc ev89 (by decide) (by omega) (by omega)
                              refine lv_iinc (v := v89) (lv' := [(6, .int (v89)), (10, .int (x10_113)), (9, .int (1)), (8, .int (v11)), (7, .int (v10)), (5, .int (x5_113)), (4, .int (x4_113)), (3, .int (x3_113)), (0, .ref (ad (1000))), (1, .int (a0)), (2, .int (a1))]) hx hb dX10_second_253 hl (k := 4) rfl ev89.symm (by decide) rfl (fun ls hl => ?_)
                              refine lv_goto (tgt := 34) hx hb dX10_second_256 (by decide) ?_
                              exact ih34 (v89) (x5_113) (x4_113) (x3_113) Ia113 La113 _ _ ls hI hK (by first | omega | decide) (by omega) hM hS (lv_sub hl [0, 5, 6, 7, 8, 9, 10] rfl)
                            · have hc88 := c88
                              have q88 := q_eq hc88
                              refine lv_iload hx hb dX10_second_135 (lv_at hl 4 rfl) ?_
                              refine lv_aload_n hx hb dX10_second_137 rfl (lv_at hl 8 rfl) ?_
                              refine m_getr (1000) 1 (1001) hx hb hts hown hE oc10 hM hJ.1 rfl (by decide) rfl (hJ.2 1 (by decide)).2 (by decide) tb_1178 dX10_second_138 ?_
                              refine lv_iconst (v := (3)) hx hb dX10_second_141 (by decide) ?_
                              refine m_iald (1001) hx hb hE hM (hJ.2 1 (by decide)).1 rfl (vp_in_iff.mpr (by decide)) dX10_second_142 ?_
                              rw [show (3 : Int32).toNatClampNeg = 3 from rfl]
                              refine lv_icmp_eq (tgt := 253) hx hb dX10_second_143 (by decide) (fun c90 => ?_) (fun c90 => ?_)
                              · have hc90 := c90
                                have q90 := q_eq hc90
                                obtain ⟨v91, ev91⟩ : ∃ z : Int32, z = x6_34 + Int32.ofInt (1) := ⟨_, rfl⟩
                                have tv91 := a_inc ev91 (by decide) (by omega) (by omega)
                                refine lv_iinc (v := v91) (lv' := [(6, .int (v91)), (10, .int (x10_113)), (9, .int (1)), (8, .int (v11)), (7, .int (v10)), (5, .int (x5_113)), (4, .int (x4_113)), (3, .int (x3_113)), (0, .ref (ad (1000))), (1, .int (a0)), (2, .int (a1))]) hx hb dX10_second_253 hl (k := 4) rfl ev91.symm (by decide) rfl (fun ls hl => ?_)
                                refine lv_goto (tgt := 34) hx hb dX10_second_256 (by decide) ?_
                                exact ih34 (v91) (x5_113) (x4_113) (x3_113) Ia113 La113 _ _ ls hI hK (by first | omega | decide) (by omega) hM hS (lv_sub hl [0, 5, 6, 7, 8, 9, 10] rfl)
                              · have hc90 := c90
                                have q90 := q_ne hc90
                                refine lv_aload_n hx hb dX10_second_146 rfl (lv_at hl 8 rfl) ?_
                                refine lv_iload hx hb dX10_second_147 (lv_at hl 3 rfl) ?_
                                refine lv_iload hx hb dX10_second_149 (lv_at hl 0 rfl) ?_
                                refine m_calli (m_runS (As := [.int (x10_113)]) (rest := [.int (v10), .ref (ad (1000))]) hx hb hml hown hts hE hM hS hA ce_X10_stepX tb_1660 (V_X10_stepX l D A ad ns Ia113 La113 G (x10_113) hI) rfl rfl ⟨Nat.le_of_ble_eq_true rfl, Nat.le_of_ble_eq_true rfl⟩  rfl hl.1 rfl (Nat.le_of_ble_eq_true rfl) dX10_second_151 ⟨Nat.le_of_ble_eq_true rfl, Nat.le_of_ble_eq_true rfl⟩) hS (fun r92 u H locs hw hM hS => ?_)
                                obtain ⟨rfl, xr92⟩ := hw
                                have hM : Mem D A ad ns Ia113 La113 G H := hM
                                refine lv_iadd hx hb dX10_second_154 ?_
                                refine lv_topi (fun v93 ev93 => ?_)
                                have tv93 := a_add ev93 (by omega) (by omega)
                                refine lv_iload hx hb dX10_second_155 (lv_at hl 2 rfl) ?_
                                refine lv_iload hx hb dX10_second_157 (lv_at hl 0 rfl) ?_
                                refine m_calli (m_runS (As := [.int (x10_113)]) (rest := [.int (v11), .int (v93), .ref (ad (1000))]) hx hb hml hown hts hE hM hS hA ce_X10_stepY tb_1663 (V_X10_stepY l D A ad ns Ia113 La113 G (x10_113) hI) rfl rfl ⟨Nat.le_of_ble_eq_true rfl, Nat.le_of_ble_eq_true rfl⟩  rfl hl.1 rfl (Nat.le_of_ble_eq_true rfl) dX10_second_159 ⟨Nat.le_of_ble_eq_true rfl, Nat.le_of_ble_eq_true rfl⟩) hS (fun r94 u H locs hw hM hS => ?_)
                                obtain ⟨rfl, xr94⟩ := hw
                                have hM : Mem D A ad ns Ia113 La113 G H := hM
                                refine lv_iadd hx hb dX10_second_162 ?_
                                refine lv_topi (fun v95 ev95 => ?_)
                                have tv95 := a_add ev95 (by omega) (by omega)
                                refine m_calli (m_runV (1000) (As := [.int (v93), .int (v95)]) (rest := []) hx hb hml hown hts hE hM hS hA ce_X10_isCell tb_1437 (V_X10_isCell l D A ad ns Ia113 La113 G (v93) (v95) hJ hI) rfl rfl ⟨Nat.le_of_ble_eq_true rfl, Nat.le_of_ble_eq_true rfl⟩ hJ.1 rfl rfl (by decide) rfl hl.1 rfl (Nat.le_of_ble_eq_true rfl) dX10_second_163 ⟨Nat.le_of_ble_eq_true rfl, Nat.le_of_ble_eq_true rfl⟩) hS (fun r96 u H locs hw hM hS => ?_)
                                obtain ⟨rfl, xr96⟩ := hw
                                have hM : Mem D A ad ns Ia113 La113 G H := hM
                                have yr96 := bo01 xr96
                                have g97 := hI.get 1001 1 (lo := 0) (hi := 24) rfl
                                have g98 := hI.get 1001 2 (lo := 0) (hi := 24) rfl
                                refine lv_if_eq (tgt := 247) hx hb dX10_second_166 (by decide) (fun c99 => ?_) (fun c99 => ?_)
                                · have hc99 := c99
                                  have q99 := xr96.f hc99
                                  obtain ⟨v100, ev100⟩ : ∃ z : Int32, z = x10_113 + Int32.ofInt (1) := ⟨_, rfl⟩
                                  have tv100 := a_inc ev100 (by decide) (by omega) (by omega)
                                  refine lv_iinc (v := v100) (lv' := [(10, .int (v100)), (9, .int (1)), (8, .int (v11)), (7, .int (v10)), (6, .int (x6_34)), (5, .int (x5_113)), (4, .int (x4_113)), (3, .int (x3_113)), (0, .ref (ad (1000))), (1, .int (a0)), (2, .int (a1))]) hx hb dX10_second_247 hl (k := 0) rfl ev100.symm (by decide) rfl (fun ls hl => ?_)
                                  refine lv_goto (tgt := 113) hx hb dX10_second_250 (by decide) ?_
                                  exact ih113 (v100) (x5_113) (x4_113) (x3_113) Ia113 La113 _ _ ls hI hK (by first | omega | decide) (by omega) hM hS (lv_sub hl [0, 1, 2, 3, 4, 5, 6, 7, 8, 9, 10] rfl)
                                · have hc99 := c99
                                  have q99 := xr96.t hc99
                                  refine lv_iconst (v := (0)) hx hb dX10_second_169 (by decide) ?_
                                  refine lv_istore (lv' := [(11, .int (0)), (10, .int (x10_113)), (9, .int (1)), (8, .int (v11)), (7, .int (v10)), (6, .int (x6_34)), (5, .int (x5_113)), (4, .int (x4_113)), (3, .int (x3_113)), (0, .ref (ad (1000))), (1, .int (a0)), (2, .int (a1))]) hx hb dX10_second_170 hl (by decide) rfl (fun ls hl => ?_)
                                  have loop172 : ∀ (n : Nat) (x11_172 : Int32) (Ia172 : MI) (La172 : ML) (H : Heap) (locs : List Loc) (ls : Array Slot), INV Ia172 → Kp [(1045, 1051), (1058, 1059), (1061, 1063)] [(1000, 51), (1000, 52), (1000, 53), (1000, 54), (1000, 55), (1000, 56), (1000, 59), (1000, 63)] I Ia172 → (0 ≤ x11_172.toInt ∧ x11_172.toInt ≤ 8) → (8 - x11_172.toInt).toNat < n → Mem D A ad ns Ia172 La172 G H → va_S A s.heap H locs → lv_has ls 12 [(11, .int (x11_172)), (10, .int (x10_113)), (9, .int (1)), (8, .int (v11)), (7, .int (v10)), (6, .int (x6_34)), (5, .int (x5_113)), (4, .int (x4_113)), (3, .int (x3_113)), (0, .ref (ad (1000))), (1, .int (a0)), (2, .int (a1))] → W p l e ({ frames := 4, cells := 0, slots := 0, locals := 106 } : Room) s m args below meth c H locs 0 0 (MQ below (va_Qi (fun r u => ∃ I2 L2, u = (ad, ns, I2, L2, G) ∧ INV I2 ∧ Kp [(1045, 1051), (1058, 1059), (1061, 1063)] [(1000, 51), (1000, 52), (1000, 53), (1000, 54), (1000, 55), (1000, 56), (1000, 59), (1000, 63)] I I2) (BM D A) A) args s 0 0 A) (F0 m 172 ls []) := by
                                    intro n
                                    induction n with
                                    | zero =>
                                      intro x11_172 Ia172 La172 H locs ls hI hK hr11_172 hmu
                                      exact absurd hmu (Nat.not_lt_zero _)
                                    | succ n ih172 =>
                                      intro x11_172 Ia172 La172 H locs ls hI hK hr11_172 hmu172 hM hS hl
                                      refine lv_iload hx hb dX10_second_172 (lv_at hl 0 rfl) ?_
                                      refine lv_bipush (v := (8)) hx hb dX10_second_174 (by decide) ?_
                                      refine lv_icmp_ge (tgt := 193) hx hb dX10_second_176 (by decide) (fun c101 => ?_) (fun c101 => ?_)
                                      · have hc101 := c101
                                        have q101 := q_le hc101
                                        refine lv_aload_n hx hb dX10_second_193 rfl (lv_at hl 9 rfl) ?_
                                        refine lv_iload hx hb dX10_second_194 (lv_at hl 5 rfl) ?_
                                        refine lv_iload hx hb dX10_second_196 (lv_at hl 1 rfl) ?_
                                        refine lv_aload_n hx hb dX10_second_198 rfl (lv_at hl 9 rfl) ?_
                                        refine m_getr (1000) 5 (1005) hx hb hts hown hE oc10 hM hJ.1 rfl (by decide) rfl (hJ.2 5 (by decide)).2 (by decide) tb_1182 dX10_second_199 ?_
                                        refine lv_bipush (v := (24)) hx hb dX10_second_202 (by decide) ?_
                                        refine lv_aload_n hx hb dX10_second_204 rfl (lv_at hl 9 rfl) ?_
                                        refine m_getr (1000) 1 (1001) hx hb hts hown hE oc10 hM hJ.1 rfl (by decide) rfl (hJ.2 1 (by decide)).2 (by decide) tb_1178 dX10_second_205 ?_
                                        refine lv_iconst (v := (5)) hx hb dX10_second_208 (by decide) ?_
                                        refine m_iald (1001) hx hb hE hM (hJ.2 1 (by decide)).1 rfl (vp_in_iff.mpr (by decide)) dX10_second_209 ?_
                                        rw [show (5 : Int32).toNatClampNeg = 5 from rfl]
                                        have g102 := hI.get (1001) 5 (lo := 0) (hi := 11) rfl
                                        refine lv_imul hx hb dX10_second_210 ?_
                                        refine lv_topi (fun v103 ev103 => ?_)
                                        have tv103 := a_mulL (c := 24) ev103 (by decide) (by omega) (by omega)
                                        refine lv_iload_n hx hb dX10_second_211 rfl (lv_at hl 10 rfl) ?_
                                        refine lv_iadd hx hb dX10_second_212 ?_
                                        refine lv_topi (fun v104 ev104 => ?_)
                                        have tv104 := a_add ev104 (by omega) (by omega)
                                        refine m_iald (1005) hx hb hE hM (hJ.2 5 (by decide)).1 rfl (vp_in_iff.mpr (by omega)) dX10_second_213 ?_
                                        refine m_callv (m_runV (1000) (As := [.int (x6_34), .int (x10_113), .int (Ia172 (1005) (v104).toNatClampNeg)]) (rest := []) hx hb hml hown hts hE hM hS hA ce_X10_traces tb_1644 (V_X10_traces l D A ad ns Ia172 La172 G (x6_34) (x10_113) (Ia172 (1005) (v104).toNatClampNeg) hJ hI) rfl rfl ⟨Nat.le_of_ble_eq_true rfl, Nat.le_of_ble_eq_true rfl⟩ hJ.1 rfl rfl (by decide) rfl hl.1 rfl (Nat.le_of_ble_eq_true rfl) dX10_second_214 ⟨Nat.le_of_ble_eq_true rfl, Nat.le_of_ble_eq_true rfl⟩) hS (fun u H locs hw hM hS => ?_)
                                        obtain ⟨I105, L106, rfl, hI, hkI105⟩ := hw
                                        have hM : Mem D A ad ns I105 L106 G H := hM
                                        have hK := hK.trans hkI105 rfl
                                        refine lv_aload_n hx hb dX10_second_217 rfl (lv_at hl 9 rfl) ?_
                                        refine m_calli (m_runV (1000) (As := []) (rest := []) hx hb hml hown hts hE hM hS hA ce_X10_allGot tb_1707 (V_X10_allGot l D A ad ns I105 L106 G hJ hI) rfl rfl ⟨Nat.le_of_ble_eq_true rfl, Nat.le_of_ble_eq_true rfl⟩ hJ.1 rfl rfl (by decide) rfl hl.1 rfl (Nat.le_of_ble_eq_true rfl) dX10_second_218 ⟨Nat.le_of_ble_eq_true rfl, Nat.le_of_ble_eq_true rfl⟩) hS (fun r107 u H locs hw hM hS => ?_)
                                        obtain ⟨rfl, xr107⟩ := hw
                                        have hM : Mem D A ad ns I105 L106 G H := hM
                                        refine lv_istore (lv' := [(11, .int (r107)), (10, .int (x10_113)), (9, .int (1)), (8, .int (v11)), (7, .int (v10)), (6, .int (x6_34)), (5, .int (x5_113)), (4, .int (x4_113)), (3, .int (x3_113)), (0, .ref (ad (1000))), (1, .int (a0)), (2, .int (a1))]) hx hb dX10_second_221 hl (by decide) rfl (fun ls hl => ?_)
                                        refine lv_iload_n hx hb dX10_second_223 rfl (lv_at hl 8 rfl) ?_
                                        refine lv_bipush (v := (-2)) hx hb dX10_second_224 (by decide) ?_
                                        refine lv_icmp_eq (tgt := 236) hx hb dX10_second_226 (by decide) (fun c108 => ?_) (fun c108 => ?_)
                                        · have hc108 := c108
                                          have q108 := q_eq hc108
                                          refine lv_iload hx hb dX10_second_236 (lv_at hl 5 rfl) ?_
                                          refine lv_istore_n (lv' := [(3, .int (x6_34)), (11, .int (r107)), (10, .int (x10_113)), (9, .int (1)), (8, .int (v11)), (7, .int (v10)), (6, .int (x6_34)), (5, .int (x5_113)), (4, .int (x4_113)), (0, .ref (ad (1000))), (1, .int (a0)), (2, .int (a1))]) hx hb dX10_second_238 rfl hl (by decide) rfl (fun ls hl => ?_)
                                          refine lv_iload hx hb dX10_second_239 (lv_at hl 2 rfl) ?_
                                          refine lv_istore (lv' := [(4, .int (x10_113)), (3, .int (x6_34)), (11, .int (r107)), (10, .int (x10_113)), (9, .int (1)), (8, .int (v11)), (7, .int (v10)), (6, .int (x6_34)), (5, .int (x5_113)), (0, .ref (ad (1000))), (1, .int (a0)), (2, .int (a1))]) hx hb dX10_second_241 hl (by decide) rfl (fun ls hl => ?_)
                                          refine lv_iload hx hb dX10_second_243 (lv_at hl 2 rfl) ?_
                                          refine lv_istore (lv' := [(5, .int (r107)), (4, .int (x10_113)), (3, .int (x6_34)), (11, .int (r107)), (10, .int (x10_113)), (9, .int (1)), (8, .int (v11)), (7, .int (v10)), (6, .int (x6_34)), (0, .ref (ad (1000))), (1, .int (a0)), (2, .int (a1))]) hx hb dX10_second_245 hl (by decide) rfl (fun ls hl => ?_)
                                          obtain ⟨v109, ev109⟩ : ∃ z : Int32, z = x10_113 + Int32.ofInt (1) := ⟨_, rfl⟩
                                          have tv109 := a_inc ev109 (by decide) (by omega) (by omega)
                                          refine lv_iinc (v := v109) (lv' := [(10, .int (v109)), (5, .int (r107)), (4, .int (x10_113)), (3, .int (x6_34)), (11, .int (r107)), (9, .int (1)), (8, .int (v11)), (7, .int (v10)), (6, .int (x6_34)), (0, .ref (ad (1000))), (1, .int (a0)), (2, .int (a1))]) hx hb dX10_second_247 hl (k := 4) rfl ev109.symm (by decide) rfl (fun ls hl => ?_)
                                          refine lv_goto (tgt := 113) hx hb dX10_second_250 (by decide) ?_
                                          exact ih113 (v109) (r107) (x10_113) (x6_34) I105 L106 _ _ ls hI hK (by first | omega | decide) (by omega) hM hS (lv_sub hl [0, 5, 6, 7, 8, 1, 2, 3, 9, 10, 11] rfl)
                                        · have hc108 := c108
                                          have q108 := q_ne hc108
                                          refine lv_iload hx hb dX10_second_229 (lv_at hl 0 rfl) ?_
                                          refine lv_iload hx hb dX10_second_231 (lv_at hl 6 rfl) ?_
                                          refine lv_icmp_le (tgt := 247) hx hb dX10_second_233 (by decide) (fun c110 => ?_) (fun c110 => ?_)
                                          · have hc110 := c110
                                            have q110 := q_le hc110
                                            obtain ⟨v111, ev111⟩ : ∃ z : Int32, z = x10_113 + Int32.ofInt (1) := ⟨_, rfl⟩
                                            have tv111 := a_inc ev111 (by decide) (by omega) (by omega)
                                            refine lv_iinc (v := v111) (lv' := [(10, .int (v111)), (11, .int (r107)), (9, .int (1)), (8, .int (v11)), (7, .int (v10)), (6, .int (x6_34)), (5, .int (x5_113)), (4, .int (x4_113)), (3, .int (x3_113)), (0, .ref (ad (1000))), (1, .int (a0)), (2, .int (a1))]) hx hb dX10_second_247 hl (k := 1) rfl ev111.symm (by decide) rfl (fun ls hl => ?_)
                                            refine lv_goto (tgt := 113) hx hb dX10_second_250 (by decide) ?_
                                            exact ih113 (v111) (x5_113) (x4_113) (x3_113) I105 L106 _ _ ls hI hK (by first | omega | decide) (by omega) hM hS (lv_sub hl [0, 2, 3, 4, 5, 6, 7, 8, 9, 10, 11] rfl)
                                          · have hc110 := c110
                                            have q110 := q_nle hc110
                                            refine lv_iload hx hb dX10_second_236 (lv_at hl 5 rfl) ?_
                                            refine lv_istore_n (lv' := [(3, .int (x6_34)), (11, .int (r107)), (10, .int (x10_113)), (9, .int (1)), (8, .int (v11)), (7, .int (v10)), (6, .int (x6_34)), (5, .int (x5_113)), (4, .int (x4_113)), (0, .ref (ad (1000))), (1, .int (a0)), (2, .int (a1))]) hx hb dX10_second_238 rfl hl (by decide) rfl (fun ls hl => ?_)
                                            refine lv_iload hx hb dX10_second_239 (lv_at hl 2 rfl) ?_
                                            refine lv_istore (lv' := [(4, .int (x10_113)), (3, .int (x6_34)), (11, .int (r107)), (10, .int (x10_113)), (9, .int (1)), (8, .int (v11)), (7, .int (v10)), (6, .int (x6_34)), (5, .int (x5_113)), (0, .ref (ad (1000))), (1, .int (a0)), (2, .int (a1))]) hx hb dX10_second_241 hl (by decide) rfl (fun ls hl => ?_)
                                            refine lv_iload hx hb dX10_second_243 (lv_at hl 2 rfl) ?_
                                            refine lv_istore (lv' := [(5, .int (r107)), (4, .int (x10_113)), (3, .int (x6_34)), (11, .int (r107)), (10, .int (x10_113)), (9, .int (1)), (8, .int (v11)), (7, .int (v10)), (6, .int (x6_34)), (0, .ref (ad (1000))), (1, .int (a0)), (2, .int (a1))]) hx hb dX10_second_245 hl (by decide) rfl (fun ls hl => ?_)
                                            obtain ⟨v112, ev112⟩ : ∃ z : Int32, z = x10_113 + Int32.ofInt (1) := ⟨_, rfl⟩
                                            have tv112 := a_inc ev112 (by decide) (by omega) (by omega)
                                            refine lv_iinc (v := v112) (lv' := [(10, .int (v112)), (5, .int (r107)), (4, .int (x10_113)), (3, .int (x6_34)), (11, .int (r107)), (9, .int (1)), (8, .int (v11)), (7, .int (v10)), (6, .int (x6_34)), (0, .ref (ad (1000))), (1, .int (a0)), (2, .int (a1))]) hx hb dX10_second_247 hl (k := 4) rfl ev112.symm (by decide) rfl (fun ls hl => ?_)
                                            refine lv_goto (tgt := 113) hx hb dX10_second_250 (by decide) ?_
                                            exact ih113 (v112) (r107) (x10_113) (x6_34) I105 L106 _ _ ls hI hK (by first | omega | decide) (by omega) hM hS (lv_sub hl [0, 5, 6, 7, 8, 1, 2, 3, 9, 10, 11] rfl)
                                      · have hc101 := c101
                                        have q101 := q_nle hc101
                                        refine lv_aload_n hx hb dX10_second_179 rfl (lv_at hl 9 rfl) ?_
                                        refine m_getr (1000) 50 (1050) hx hb hts hown hE oc10 hM hJ.1 rfl (by decide) rfl (hJ.2 50 (by decide)).2 (by decide) tb_1227 dX10_second_180 ?_
                                        refine lv_iload hx hb dX10_second_183 (lv_at hl 0 rfl) ?_
                                        refine lv_iconst (v := (0)) hx hb dX10_second_185 (by decide) ?_
                                        refine m_iast (1050) hx hb hE hM hS (hJ.2 50 (by decide)).1 rfl (vp_in_iff.mpr (by omega)) dX10_second_186 (fun H locs I113 eI113 hM hS => ?_)
                                        subst eI113
                                        have hI := hI.putF (n := 1050) (k := ((x11_172).toNatClampNeg)) (v := 0) rfl
                                        have hK := hK.put (n := 1050) (k := ((x11_172).toNatClampNeg)) (v := 0) (by first | rfl | simp [inR])
                                        obtain ⟨v114, ev114⟩ : ∃ z : Int32, z = x11_172 + Int32.ofInt (1) := ⟨_, rfl⟩
                                        have tv114 := a_inc ev114 (by decide) (by omega) (by omega)
                                        refine lv_iinc (v := v114) (lv' := [(11, .int (v114)), (10, .int (x10_113)), (9, .int (1)), (8, .int (v11)), (7, .int (v10)), (6, .int (x6_34)), (5, .int (x5_113)), (4, .int (x4_113)), (3, .int (x3_113)), (0, .ref (ad (1000))), (1, .int (a0)), (2, .int (a1))]) hx hb dX10_second_187 hl (k := 0) rfl ev114.symm (by decide) rfl (fun ls hl => ?_)
                                        refine lv_goto (tgt := 172) hx hb dX10_second_190 (by decide) ?_
                                        exact ih172 (v114) (u2 Ia172 (1050) ((x11_172).toNatClampNeg) (0)) La172 _ _ ls hI hK (by first | omega | decide) (by omega) hM hS (lv_sub hl [0, 1, 2, 3, 4, 5, 6, 7, 8, 9, 10, 11] rfl)
                                  exact loop172 (_ + 1) (0) Ia113 La113 _ _ ls hI hK (by first | omega | decide) (Nat.lt_succ_self _) hM hS (lv_sub hl [0, 1, 2, 3, 4, 5, 6, 7, 8, 9, 10, 11] rfl)
                    exact loop113 (_ + 1) (0) (x5_34) (x4_34) (x3_34) Ia34 La34 _ _ ls hI hK (by first | omega | decide) (Nat.lt_succ_self _) hM hS (lv_sub hl [0, 1, 2, 3, 4, 5, 6, 7, 8, 9, 10] rfl)
                  · have hc84 := c84
                    have q84 := q_ne hc84
                    refine lv_iload hx hb dX10_second_90 (lv_at hl 0 rfl) ?_
                    refine lv_aload_n hx hb dX10_second_92 rfl (lv_at hl 6 rfl) ?_
                    refine m_getr (1000) 1 (1001) hx hb hts hown hE oc10 hM hJ.1 rfl (by decide) rfl (hJ.2 1 (by decide)).2 (by decide) tb_1178 dX10_second_93 ?_
                    refine lv_iconst (v := (2)) hx hb dX10_second_96 (by decide) ?_
                    refine m_iald (1001) hx hb hE hM (hJ.2 1 (by decide)).1 rfl (vp_in_iff.mpr (by decide)) dX10_second_97 ?_
                    rw [show (2 : Int32).toNatClampNeg = 2 from rfl]
                    have g115 := hI.get (1001) 2 (lo := 0) (hi := 24) rfl
                    refine lv_iconst (v := (1)) hx hb dX10_second_98 (by decide) ?_
                    refine lv_isub hx hb dX10_second_99 ?_
                    refine lv_topi (fun v116 ev116 => ?_)
                    have tv116 := a_sub ev116 (by omega) (by omega)
                    refine lv_icmp_ne (tgt := 107) hx hb dX10_second_100 (by decide) (fun c117 => ?_) (fun c117 => ?_)
                    · have hc117 := c117
                      have q117 := q_ne hc117
                      refine lv_iconst (v := (0)) hx hb dX10_second_107 (by decide) ?_
                      refine lv_istore (lv' := [(9, .int (0)), (8, .int (v11)), (7, .int (v10)), (6, .int (x6_34)), (5, .int (x5_34)), (4, .int (x4_34)), (3, .int (x3_34)), (0, .ref (ad (1000))), (1, .int (a0)), (2, .int (a1))]) hx hb dX10_second_108 hl (by decide) rfl (fun ls hl => ?_)
                      refine lv_iconst (v := (0)) hx hb dX10_second_110 (by decide) ?_
                      refine lv_istore (lv' := [(10, .int (0)), (9, .int (0)), (8, .int (v11)), (7, .int (v10)), (6, .int (x6_34)), (5, .int (x5_34)), (4, .int (x4_34)), (3, .int (x3_34)), (0, .ref (ad (1000))), (1, .int (a0)), (2, .int (a1))]) hx hb dX10_second_111 hl (by decide) rfl (fun ls hl => ?_)
                      have loop113 : ∀ (n : Nat) (x10_113 : Int32) (x5_113 : Int32) (x4_113 : Int32) (x3_113 : Int32) (Ia113 : MI) (La113 : ML) (H : Heap) (locs : List Loc) (ls : Array Slot), INV Ia113 → Kp [(1045, 1051), (1058, 1059), (1061, 1063)] [(1000, 51), (1000, 52), (1000, 53), (1000, 54), (1000, 55), (1000, 56), (1000, 59), (1000, 63)] I Ia113 → (0 ≤ x10_113.toInt ∧ x10_113.toInt ≤ 8) → (8 - x10_113.toInt).toNat < n → Mem D A ad ns Ia113 La113 G H → va_S A s.heap H locs → lv_has ls 12 [(10, .int (x10_113)), (9, .int (0)), (8, .int (v11)), (7, .int (v10)), (6, .int (x6_34)), (5, .int (x5_113)), (4, .int (x4_113)), (3, .int (x3_113)), (0, .ref (ad (1000))), (1, .int (a0)), (2, .int (a1))] → W p l e ({ frames := 4, cells := 0, slots := 0, locals := 106 } : Room) s m args below meth c H locs 0 0 (MQ below (va_Qi (fun r u => ∃ I2 L2, u = (ad, ns, I2, L2, G) ∧ INV I2 ∧ Kp [(1045, 1051), (1058, 1059), (1061, 1063)] [(1000, 51), (1000, 52), (1000, 53), (1000, 54), (1000, 55), (1000, 56), (1000, 59), (1000, 63)] I I2) (BM D A) A) args s 0 0 A) (F0 m 113 ls []) := by
                        intro n
                        induction n with
                        | zero =>
                          intro x10_113 x5_113 x4_113 x3_113 Ia113 La113 H locs ls hI hK hr10_113 hmu
                          exact absurd hmu (Nat.not_lt_zero _)
                        | succ n ih113 =>
                          intro x10_113 x5_113 x4_113 x3_113 Ia113 La113 H locs ls hI hK hr10_113 hmu113 hM hS hl
                          refine lv_iload hx hb dX10_second_113 (lv_at hl 0 rfl) ?_
                          refine lv_bipush (v := (8)) hx hb dX10_second_115 (by decide) ?_
                          refine lv_icmp_ge (tgt := 253) hx hb dX10_second_117 (by decide) (fun c118 => ?_) (fun c118 => ?_)
                          · have hc118 := c118
                            have q118 := q_le hc118
                            obtain ⟨v119, ev119⟩ : ∃ z : Int32, z = x6_34 + Int32.ofInt (1) := ⟨_, rfl⟩
                            have tv119 := a_inc ev119 (by decide) (by omega) (by omega)
                            refine lv_iinc (v := v119) (lv' := [(6, .int (v119)), (10, .int (x10_113)), (9, .int (0)), (8, .int (v11)), (7, .int (v10)), (5, .int (x5_113)), (4, .int (x4_113)), (3, .int (x3_113)), (0, .ref (ad (1000))), (1, .int (a0)), (2, .int (a1))]) hx hb dX10_second_253 hl (k := 4) rfl ev119.symm (by decide) rfl (fun ls hl => ?_)
                            refine lv_goto (tgt := 34) hx hb dX10_second_256 (by decide) ?_
                            exact ih34 (v119) (x5_113) (x4_113) (x3_113) Ia113 La113 _ _ ls hI hK (by first | omega | decide) (by omega) hM hS (lv_sub hl [0, 5, 6, 7, 8, 9, 10] rfl)
                          · have hc118 := c118
                            have q118 := q_nle hc118
                            refine lv_iload hx hb dX10_second_120 (lv_at hl 1 rfl) ?_
                            refine lv_if_eq (tgt := 253) hx hb dX10_second_122 (by decide) (fun c120 => ?_) (fun c120 => ?_)
                            · have hc120 := c120
                              have q120 := q_eq hc120
                              obtain ⟨v121, ev121⟩ : ∃ z : Int32, z = x6_34 + Int32.ofInt (1) := ⟨_, rfl⟩
                              have tv121 := a_inc ev121 (by decide) (by omega) (by omega)
                              refine lv_iinc (v := v121) (lv' := [(6, .int (v121)), (10, .int (x10_113)), (9, .int (0)), (8, .int (v11)), (7, .int (v10)), (5, .int (x5_113)), (4, .int (x4_113)), (3, .int (x3_113)), (0, .ref (ad (1000))), (1, .int (a0)), (2, .int (a1))]) hx hb dX10_second_253 hl (k := 4) rfl ev121.symm (by decide) rfl (fun ls hl => ?_)
                              refine lv_goto (tgt := 34) hx hb dX10_second_256 (by decide) ?_
                              exact ih34 (v121) (x5_113) (x4_113) (x3_113) Ia113 La113 _ _ ls hI hK (by first | omega | decide) (by omega) hM hS (lv_sub hl [0, 5, 6, 7, 8, 9, 10] rfl)
                            · exact absurd c120 (by decide)
                      exact loop113 (_ + 1) (0) (x5_34) (x4_34) (x3_34) Ia34 La34 _ _ ls hI hK (by first | omega | decide) (Nat.lt_succ_self _) hM hS (lv_sub hl [0, 1, 2, 3, 4, 5, 6, 7, 8, 9, 10] rfl)
                    · have hc117 := c117
                      have q117 := q_eq hc117
                      refine lv_iconst (v := (1)) hx hb dX10_second_103 (by decide) ?_
                      refine lv_goto (tgt := 108) hx hb dX10_second_104 (by decide) ?_
                      refine lv_istore (lv' := [(9, .int (1)), (8, .int (v11)), (7, .int (v10)), (6, .int (x6_34)), (5, .int (x5_34)), (4, .int (x4_34)), (3, .int (x3_34)), (0, .ref (ad (1000))), (1, .int (a0)), (2, .int (a1))]) hx hb dX10_second_108 hl (by decide) rfl (fun ls hl => ?_)
                      refine lv_iconst (v := (0)) hx hb dX10_second_110 (by decide) ?_
                      refine lv_istore (lv' := [(10, .int (0)), (9, .int (1)), (8, .int (v11)), (7, .int (v10)), (6, .int (x6_34)), (5, .int (x5_34)), (4, .int (x4_34)), (3, .int (x3_34)), (0, .ref (ad (1000))), (1, .int (a0)), (2, .int (a1))]) hx hb dX10_second_111 hl (by decide) rfl (fun ls hl => ?_)
                      have loop113 : ∀ (n : Nat) (x10_113 : Int32) (x5_113 : Int32) (x4_113 : Int32) (x3_113 : Int32) (Ia113 : MI) (La113 : ML) (H : Heap) (locs : List Loc) (ls : Array Slot), INV Ia113 → Kp [(1045, 1051), (1058, 1059), (1061, 1063)] [(1000, 51), (1000, 52), (1000, 53), (1000, 54), (1000, 55), (1000, 56), (1000, 59), (1000, 63)] I Ia113 → (0 ≤ x10_113.toInt ∧ x10_113.toInt ≤ 8) → (8 - x10_113.toInt).toNat < n → Mem D A ad ns Ia113 La113 G H → va_S A s.heap H locs → lv_has ls 12 [(10, .int (x10_113)), (9, .int (1)), (8, .int (v11)), (7, .int (v10)), (6, .int (x6_34)), (5, .int (x5_113)), (4, .int (x4_113)), (3, .int (x3_113)), (0, .ref (ad (1000))), (1, .int (a0)), (2, .int (a1))] → W p l e ({ frames := 4, cells := 0, slots := 0, locals := 106 } : Room) s m args below meth c H locs 0 0 (MQ below (va_Qi (fun r u => ∃ I2 L2, u = (ad, ns, I2, L2, G) ∧ INV I2 ∧ Kp [(1045, 1051), (1058, 1059), (1061, 1063)] [(1000, 51), (1000, 52), (1000, 53), (1000, 54), (1000, 55), (1000, 56), (1000, 59), (1000, 63)] I I2) (BM D A) A) args s 0 0 A) (F0 m 113 ls []) := by
                        intro n
                        induction n with
                        | zero =>
                          intro x10_113 x5_113 x4_113 x3_113 Ia113 La113 H locs ls hI hK hr10_113 hmu
                          exact absurd hmu (Nat.not_lt_zero _)
                        | succ n ih113 =>
                          intro x10_113 x5_113 x4_113 x3_113 Ia113 La113 H locs ls hI hK hr10_113 hmu113 hM hS hl
                          refine lv_iload hx hb dX10_second_113 (lv_at hl 0 rfl) ?_
                          refine lv_bipush (v := (8)) hx hb dX10_second_115 (by decide) ?_
                          refine lv_icmp_ge (tgt := 253) hx hb dX10_second_117 (by decide) (fun c122 => ?_) (fun c122 => ?_)
                          · have hc122 := c122
                            have q122 := q_le hc122
                            obtain ⟨v123, ev123⟩ : ∃ z : Int32, z = x6_34 + Int32.ofInt (1) := ⟨_, rfl⟩
                            have tv123 := a_inc ev123 (by decide) (by omega) (by omega)
                            refine lv_iinc (v := v123) (lv' := [(6, .int (v123)), (10, .int (x10_113)), (9, .int (1)), (8, .int (v11)), (7, .int (v10)), (5, .int (x5_113)), (4, .int (x4_113)), (3, .int (x3_113)), (0, .ref (ad (1000))), (1, .int (a0)), (2, .int (a1))]) hx hb dX10_second_253 hl (k := 4) rfl ev123.symm (by decide) rfl (fun ls hl => ?_)
                            refine lv_goto (tgt := 34) hx hb dX10_second_256 (by decide) ?_
                            exact ih34 (v123) (x5_113) (x4_113) (x3_113) Ia113 La113 _ _ ls hI hK (by first | omega | decide) (by omega) hM hS (lv_sub hl [0, 5, 6, 7, 8, 9, 10] rfl)
                          · have hc122 := c122
                            have q122 := q_nle hc122
                            refine lv_iload hx hb dX10_second_120 (lv_at hl 1 rfl) ?_
                            refine lv_if_eq (tgt := 253) hx hb dX10_second_122 (by decide) (fun c124 => ?_) (fun c124 => ?_)
                            · exact absurd c124 (by decide)
                            · have hc124 := c124
                              have q124 := q_ne hc124
                              refine lv_aload_n hx hb dX10_second_125 rfl (lv_at hl 8 rfl) ?_
                              refine m_getr (1000) 2 (1002) hx hb hts hown hE oc10 hM hJ.1 rfl (by decide) rfl (hJ.2 2 (by decide)).2 (by decide) tb_1179 dX10_second_126 ?_
                              refine lv_iload hx hb dX10_second_129 (lv_at hl 4 rfl) ?_
                              refine m_iald (1002) hx hb hE hM (hJ.2 2 (by decide)).1 rfl (vp_in_iff.mpr (by omega)) dX10_second_131 ?_
                              refine lv_if_ne (tgt := 253) hx hb dX10_second_132 (by decide) (fun c125 => ?_) (fun c125 => ?_)
                              · have hc125 := c125
                                have q125 := q_ne hc125
                                obtain ⟨v126, ev126⟩ : ∃ z : Int32, z = x6_34 + Int32.ofInt (1) := ⟨_, rfl⟩
                                have tv126 := a_inc ev126 (by decide) (by omega) (by omega)
                                refine lv_iinc (v := v126) (lv' := [(6, .int (v126)), (10, .int (x10_113)), (9, .int (1)), (8, .int (v11)), (7, .int (v10)), (5, .int (x5_113)), (4, .int (x4_113)), (3, .int (x3_113)), (0, .ref (ad (1000))), (1, .int (a0)), (2, .int (a1))]) hx hb dX10_second_253 hl (k := 4) rfl ev126.symm (by decide) rfl (fun ls hl => ?_)
                                refine lv_goto (tgt := 34) hx hb dX10_second_256 (by decide) ?_
                                exact ih34 (v126) (x5_113) (x4_113) (x3_113) Ia113 La113 _ _ ls hI hK (by first | omega | decide) (by omega) hM hS (lv_sub hl [0, 5, 6, 7, 8, 9, 10] rfl)
                              · have hc125 := c125
                                have q125 := q_eq hc125
                                refine lv_iload hx hb dX10_second_135 (lv_at hl 4 rfl) ?_
                                refine lv_aload_n hx hb dX10_second_137 rfl (lv_at hl 8 rfl) ?_
                                refine m_getr (1000) 1 (1001) hx hb hts hown hE oc10 hM hJ.1 rfl (by decide) rfl (hJ.2 1 (by decide)).2 (by decide) tb_1178 dX10_second_138 ?_
                                refine lv_iconst (v := (3)) hx hb dX10_second_141 (by decide) ?_
                                refine m_iald (1001) hx hb hE hM (hJ.2 1 (by decide)).1 rfl (vp_in_iff.mpr (by decide)) dX10_second_142 ?_
                                rw [show (3 : Int32).toNatClampNeg = 3 from rfl]
                                refine lv_icmp_eq (tgt := 253) hx hb dX10_second_143 (by decide) (fun c127 => ?_) (fun c127 => ?_)
                                · have hc127 := c127
                                  have q127 := q_eq hc127
                                  obtain ⟨v128, ev128⟩ : ∃ z : Int32, z = x6_34 + Int32.ofInt (1) := ⟨_, rfl⟩
                                  have tv128 := a_inc ev128 (by decide) (by omega) (by omega)
                                  refine lv_iinc (v := v128) (lv' := [(6, .int (v128)), (10, .int (x10_113)), (9, .int (1)), (8, .int (v11)), (7, .int (v10)), (5, .int (x5_113)), (4, .int (x4_113)), (3, .int (x3_113)), (0, .ref (ad (1000))), (1, .int (a0)), (2, .int (a1))]) hx hb dX10_second_253 hl (k := 4) rfl ev128.symm (by decide) rfl (fun ls hl => ?_)
                                  refine lv_goto (tgt := 34) hx hb dX10_second_256 (by decide) ?_
                                  exact ih34 (v128) (x5_113) (x4_113) (x3_113) Ia113 La113 _ _ ls hI hK (by first | omega | decide) (by omega) hM hS (lv_sub hl [0, 5, 6, 7, 8, 9, 10] rfl)
                                · have hc127 := c127
                                  have q127 := q_ne hc127
                                  refine lv_aload_n hx hb dX10_second_146 rfl (lv_at hl 8 rfl) ?_
                                  refine lv_iload hx hb dX10_second_147 (lv_at hl 3 rfl) ?_
                                  refine lv_iload hx hb dX10_second_149 (lv_at hl 0 rfl) ?_
                                  refine m_calli (m_runS (As := [.int (x10_113)]) (rest := [.int (v10), .ref (ad (1000))]) hx hb hml hown hts hE hM hS hA ce_X10_stepX tb_1660 (V_X10_stepX l D A ad ns Ia113 La113 G (x10_113) hI) rfl rfl ⟨Nat.le_of_ble_eq_true rfl, Nat.le_of_ble_eq_true rfl⟩  rfl hl.1 rfl (Nat.le_of_ble_eq_true rfl) dX10_second_151 ⟨Nat.le_of_ble_eq_true rfl, Nat.le_of_ble_eq_true rfl⟩) hS (fun r129 u H locs hw hM hS => ?_)
                                  obtain ⟨rfl, xr129⟩ := hw
                                  have hM : Mem D A ad ns Ia113 La113 G H := hM
                                  refine lv_iadd hx hb dX10_second_154 ?_
                                  refine lv_topi (fun v130 ev130 => ?_)
                                  have tv130 := a_add ev130 (by omega) (by omega)
                                  refine lv_iload hx hb dX10_second_155 (lv_at hl 2 rfl) ?_
                                  refine lv_iload hx hb dX10_second_157 (lv_at hl 0 rfl) ?_
                                  refine m_calli (m_runS (As := [.int (x10_113)]) (rest := [.int (v11), .int (v130), .ref (ad (1000))]) hx hb hml hown hts hE hM hS hA ce_X10_stepY tb_1663 (V_X10_stepY l D A ad ns Ia113 La113 G (x10_113) hI) rfl rfl ⟨Nat.le_of_ble_eq_true rfl, Nat.le_of_ble_eq_true rfl⟩  rfl hl.1 rfl (Nat.le_of_ble_eq_true rfl) dX10_second_159 ⟨Nat.le_of_ble_eq_true rfl, Nat.le_of_ble_eq_true rfl⟩) hS (fun r131 u H locs hw hM hS => ?_)
                                  obtain ⟨rfl, xr131⟩ := hw
                                  have hM : Mem D A ad ns Ia113 La113 G H := hM
                                  refine lv_iadd hx hb dX10_second_162 ?_
                                  refine lv_topi (fun v132 ev132 => ?_)
                                  have tv132 := a_add ev132 (by omega) (by omega)
                                  refine m_calli (m_runV (1000) (As := [.int (v130), .int (v132)]) (rest := []) hx hb hml hown hts hE hM hS hA ce_X10_isCell tb_1437 (V_X10_isCell l D A ad ns Ia113 La113 G (v130) (v132) hJ hI) rfl rfl ⟨Nat.le_of_ble_eq_true rfl, Nat.le_of_ble_eq_true rfl⟩ hJ.1 rfl rfl (by decide) rfl hl.1 rfl (Nat.le_of_ble_eq_true rfl) dX10_second_163 ⟨Nat.le_of_ble_eq_true rfl, Nat.le_of_ble_eq_true rfl⟩) hS (fun r133 u H locs hw hM hS => ?_)
                                  obtain ⟨rfl, xr133⟩ := hw
                                  have hM : Mem D A ad ns Ia113 La113 G H := hM
                                  have yr133 := bo01 xr133
                                  have g134 := hI.get 1001 1 (lo := 0) (hi := 24) rfl
                                  have g135 := hI.get 1001 2 (lo := 0) (hi := 24) rfl
                                  refine lv_if_eq (tgt := 247) hx hb dX10_second_166 (by decide) (fun c136 => ?_) (fun c136 => ?_)
                                  · have hc136 := c136
                                    have q136 := xr133.f hc136
                                    obtain ⟨v137, ev137⟩ : ∃ z : Int32, z = x10_113 + Int32.ofInt (1) := ⟨_, rfl⟩
                                    have tv137 := a_inc ev137 (by decide) (by omega) (by omega)
                                    refine lv_iinc (v := v137) (lv' := [(10, .int (v137)), (9, .int (1)), (8, .int (v11)), (7, .int (v10)), (6, .int (x6_34)), (5, .int (x5_113)), (4, .int (x4_113)), (3, .int (x3_113)), (0, .ref (ad (1000))), (1, .int (a0)), (2, .int (a1))]) hx hb dX10_second_247 hl (k := 0) rfl ev137.symm (by decide) rfl (fun ls hl => ?_)
                                    refine lv_goto (tgt := 113) hx hb dX10_second_250 (by decide) ?_
                                    exact ih113 (v137) (x5_113) (x4_113) (x3_113) Ia113 La113 _ _ ls hI hK (by first | omega | decide) (by omega) hM hS (lv_sub hl [0, 1, 2, 3, 4, 5, 6, 7, 8, 9, 10] rfl)
                                  · have hc136 := c136
                                    have q136 := xr133.t hc136
                                    refine lv_iconst (v := (0)) hx hb dX10_second_169 (by decide) ?_
                                    refine lv_istore (lv' := [(11, .int (0)), (10, .int (x10_113)), (9, .int (1)), (8, .int (v11)), (7, .int (v10)), (6, .int (x6_34)), (5, .int (x5_113)), (4, .int (x4_113)), (3, .int (x3_113)), (0, .ref (ad (1000))), (1, .int (a0)), (2, .int (a1))]) hx hb dX10_second_170 hl (by decide) rfl (fun ls hl => ?_)
                                    have loop172 : ∀ (n : Nat) (x11_172 : Int32) (Ia172 : MI) (La172 : ML) (H : Heap) (locs : List Loc) (ls : Array Slot), INV Ia172 → Kp [(1045, 1051), (1058, 1059), (1061, 1063)] [(1000, 51), (1000, 52), (1000, 53), (1000, 54), (1000, 55), (1000, 56), (1000, 59), (1000, 63)] I Ia172 → (0 ≤ x11_172.toInt ∧ x11_172.toInt ≤ 8) → (8 - x11_172.toInt).toNat < n → Mem D A ad ns Ia172 La172 G H → va_S A s.heap H locs → lv_has ls 12 [(11, .int (x11_172)), (10, .int (x10_113)), (9, .int (1)), (8, .int (v11)), (7, .int (v10)), (6, .int (x6_34)), (5, .int (x5_113)), (4, .int (x4_113)), (3, .int (x3_113)), (0, .ref (ad (1000))), (1, .int (a0)), (2, .int (a1))] → W p l e ({ frames := 4, cells := 0, slots := 0, locals := 106 } : Room) s m args below meth c H locs 0 0 (MQ below (va_Qi (fun r u => ∃ I2 L2, u = (ad, ns, I2, L2, G) ∧ INV I2 ∧ Kp [(1045, 1051), (1058, 1059), (1061, 1063)] [(1000, 51), (1000, 52), (1000, 53), (1000, 54), (1000, 55), (1000, 56), (1000, 59), (1000, 63)] I I2) (BM D A) A) args s 0 0 A) (F0 m 172 ls []) := by
                                      intro n
                                      induction n with
                                      | zero =>
                                        intro x11_172 Ia172 La172 H locs ls hI hK hr11_172 hmu
                                        exact absurd hmu (Nat.not_lt_zero _)
                                      | succ n ih172 =>
                                        intro x11_172 Ia172 La172 H locs ls hI hK hr11_172 hmu172 hM hS hl
                                        refine lv_iload hx hb dX10_second_172 (lv_at hl 0 rfl) ?_
                                        refine lv_bipush (v := (8)) hx hb dX10_second_174 (by decide) ?_
                                        refine lv_icmp_ge (tgt := 193) hx hb dX10_second_176 (by decide) (fun c138 => ?_) (fun c138 => ?_)
                                        · have hc138 := c138
                                          have q138 := q_le hc138
                                          refine lv_aload_n hx hb dX10_second_193 rfl (lv_at hl 9 rfl) ?_
                                          refine lv_iload hx hb dX10_second_194 (lv_at hl 5 rfl) ?_
                                          refine lv_iload hx hb dX10_second_196 (lv_at hl 1 rfl) ?_
                                          refine lv_aload_n hx hb dX10_second_198 rfl (lv_at hl 9 rfl) ?_
                                          refine m_getr (1000) 5 (1005) hx hb hts hown hE oc10 hM hJ.1 rfl (by decide) rfl (hJ.2 5 (by decide)).2 (by decide) tb_1182 dX10_second_199 ?_
                                          refine lv_bipush (v := (24)) hx hb dX10_second_202 (by decide) ?_
                                          refine lv_aload_n hx hb dX10_second_204 rfl (lv_at hl 9 rfl) ?_
                                          refine m_getr (1000) 1 (1001) hx hb hts hown hE oc10 hM hJ.1 rfl (by decide) rfl (hJ.2 1 (by decide)).2 (by decide) tb_1178 dX10_second_205 ?_
                                          refine lv_iconst (v := (5)) hx hb dX10_second_208 (by decide) ?_
                                          refine m_iald (1001) hx hb hE hM (hJ.2 1 (by decide)).1 rfl (vp_in_iff.mpr (by decide)) dX10_second_209 ?_
                                          rw [show (5 : Int32).toNatClampNeg = 5 from rfl]
                                          have g139 := hI.get (1001) 5 (lo := 0) (hi := 11) rfl
                                          refine lv_imul hx hb dX10_second_210 ?_
                                          refine lv_topi (fun v140 ev140 => ?_)
                                          have tv140 := a_mulL (c := 24) ev140 (by decide) (by omega) (by omega)
                                          refine lv_iload_n hx hb dX10_second_211 rfl (lv_at hl 10 rfl) ?_
                                          refine lv_iadd hx hb dX10_second_212 ?_
                                          refine lv_topi (fun v141 ev141 => ?_)
                                          have tv141 := a_add ev141 (by omega) (by omega)
                                          refine m_iald (1005) hx hb hE hM (hJ.2 5 (by decide)).1 rfl (vp_in_iff.mpr (by omega)) dX10_second_213 ?_
                                          refine m_callv (m_runV (1000) (As := [.int (x6_34), .int (x10_113), .int (Ia172 (1005) (v141).toNatClampNeg)]) (rest := []) hx hb hml hown hts hE hM hS hA ce_X10_traces tb_1644 (V_X10_traces l D A ad ns Ia172 La172 G (x6_34) (x10_113) (Ia172 (1005) (v141).toNatClampNeg) hJ hI) rfl rfl ⟨Nat.le_of_ble_eq_true rfl, Nat.le_of_ble_eq_true rfl⟩ hJ.1 rfl rfl (by decide) rfl hl.1 rfl (Nat.le_of_ble_eq_true rfl) dX10_second_214 ⟨Nat.le_of_ble_eq_true rfl, Nat.le_of_ble_eq_true rfl⟩) hS (fun u H locs hw hM hS => ?_)
                                          obtain ⟨I142, L143, rfl, hI, hkI142⟩ := hw
                                          have hM : Mem D A ad ns I142 L143 G H := hM
                                          have hK := hK.trans hkI142 rfl
                                          refine lv_aload_n hx hb dX10_second_217 rfl (lv_at hl 9 rfl) ?_
                                          refine m_calli (m_runV (1000) (As := []) (rest := []) hx hb hml hown hts hE hM hS hA ce_X10_allGot tb_1707 (V_X10_allGot l D A ad ns I142 L143 G hJ hI) rfl rfl ⟨Nat.le_of_ble_eq_true rfl, Nat.le_of_ble_eq_true rfl⟩ hJ.1 rfl rfl (by decide) rfl hl.1 rfl (Nat.le_of_ble_eq_true rfl) dX10_second_218 ⟨Nat.le_of_ble_eq_true rfl, Nat.le_of_ble_eq_true rfl⟩) hS (fun r144 u H locs hw hM hS => ?_)
                                          obtain ⟨rfl, xr144⟩ := hw
                                          have hM : Mem D A ad ns I142 L143 G H := hM
                                          refine lv_istore (lv' := [(11, .int (r144)), (10, .int (x10_113)), (9, .int (1)), (8, .int (v11)), (7, .int (v10)), (6, .int (x6_34)), (5, .int (x5_113)), (4, .int (x4_113)), (3, .int (x3_113)), (0, .ref (ad (1000))), (1, .int (a0)), (2, .int (a1))]) hx hb dX10_second_221 hl (by decide) rfl (fun ls hl => ?_)
                                          refine lv_iload_n hx hb dX10_second_223 rfl (lv_at hl 8 rfl) ?_
                                          refine lv_bipush (v := (-2)) hx hb dX10_second_224 (by decide) ?_
                                          refine lv_icmp_eq (tgt := 236) hx hb dX10_second_226 (by decide) (fun c145 => ?_) (fun c145 => ?_)
                                          · have hc145 := c145
                                            have q145 := q_eq hc145
                                            refine lv_iload hx hb dX10_second_236 (lv_at hl 5 rfl) ?_
                                            refine lv_istore_n (lv' := [(3, .int (x6_34)), (11, .int (r144)), (10, .int (x10_113)), (9, .int (1)), (8, .int (v11)), (7, .int (v10)), (6, .int (x6_34)), (5, .int (x5_113)), (4, .int (x4_113)), (0, .ref (ad (1000))), (1, .int (a0)), (2, .int (a1))]) hx hb dX10_second_238 rfl hl (by decide) rfl (fun ls hl => ?_)
                                            refine lv_iload hx hb dX10_second_239 (lv_at hl 2 rfl) ?_
                                            refine lv_istore (lv' := [(4, .int (x10_113)), (3, .int (x6_34)), (11, .int (r144)), (10, .int (x10_113)), (9, .int (1)), (8, .int (v11)), (7, .int (v10)), (6, .int (x6_34)), (5, .int (x5_113)), (0, .ref (ad (1000))), (1, .int (a0)), (2, .int (a1))]) hx hb dX10_second_241 hl (by decide) rfl (fun ls hl => ?_)
                                            refine lv_iload hx hb dX10_second_243 (lv_at hl 2 rfl) ?_
                                            refine lv_istore (lv' := [(5, .int (r144)), (4, .int (x10_113)), (3, .int (x6_34)), (11, .int (r144)), (10, .int (x10_113)), (9, .int (1)), (8, .int (v11)), (7, .int (v10)), (6, .int (x6_34)), (0, .ref (ad (1000))), (1, .int (a0)), (2, .int (a1))]) hx hb dX10_second_245 hl (by decide) rfl (fun ls hl => ?_)
                                            obtain ⟨v146, ev146⟩ : ∃ z : Int32, z = x10_113 + Int32.ofInt (1) := ⟨_, rfl⟩
                                            have tv146 := a_inc ev146 (by decide) (by omega) (by omega)
                                            refine lv_iinc (v := v146) (lv' := [(10, .int (v146)), (5, .int (r144)), (4, .int (x10_113)), (3, .int (x6_34)), (11, .int (r144)), (9, .int (1)), (8, .int (v11)), (7, .int (v10)), (6, .int (x6_34)), (0, .ref (ad (1000))), (1, .int (a0)), (2, .int (a1))]) hx hb dX10_second_247 hl (k := 4) rfl ev146.symm (by decide) rfl (fun ls hl => ?_)
                                            refine lv_goto (tgt := 113) hx hb dX10_second_250 (by decide) ?_
                                            exact ih113 (v146) (r144) (x10_113) (x6_34) I142 L143 _ _ ls hI hK (by first | omega | decide) (by omega) hM hS (lv_sub hl [0, 5, 6, 7, 8, 1, 2, 3, 9, 10, 11] rfl)
                                          · have hc145 := c145
                                            have q145 := q_ne hc145
                                            refine lv_iload hx hb dX10_second_229 (lv_at hl 0 rfl) ?_
                                            refine lv_iload hx hb dX10_second_231 (lv_at hl 6 rfl) ?_
                                            refine lv_icmp_le (tgt := 247) hx hb dX10_second_233 (by decide) (fun c147 => ?_) (fun c147 => ?_)
                                            · have hc147 := c147
                                              have q147 := q_le hc147
                                              obtain ⟨v148, ev148⟩ : ∃ z : Int32, z = x10_113 + Int32.ofInt (1) := ⟨_, rfl⟩
                                              have tv148 := a_inc ev148 (by decide) (by omega) (by omega)
                                              refine lv_iinc (v := v148) (lv' := [(10, .int (v148)), (11, .int (r144)), (9, .int (1)), (8, .int (v11)), (7, .int (v10)), (6, .int (x6_34)), (5, .int (x5_113)), (4, .int (x4_113)), (3, .int (x3_113)), (0, .ref (ad (1000))), (1, .int (a0)), (2, .int (a1))]) hx hb dX10_second_247 hl (k := 1) rfl ev148.symm (by decide) rfl (fun ls hl => ?_)
                                              refine lv_goto (tgt := 113) hx hb dX10_second_250 (by decide) ?_
                                              exact ih113 (v148) (x5_113) (x4_113) (x3_113) I142 L143 _ _ ls hI hK (by first | omega | decide) (by omega) hM hS (lv_sub hl [0, 2, 3, 4, 5, 6, 7, 8, 9, 10, 11] rfl)
                                            · have hc147 := c147
                                              have q147 := q_nle hc147
                                              refine lv_iload hx hb dX10_second_236 (lv_at hl 5 rfl) ?_
                                              refine lv_istore_n (lv' := [(3, .int (x6_34)), (11, .int (r144)), (10, .int (x10_113)), (9, .int (1)), (8, .int (v11)), (7, .int (v10)), (6, .int (x6_34)), (5, .int (x5_113)), (4, .int (x4_113)), (0, .ref (ad (1000))), (1, .int (a0)), (2, .int (a1))]) hx hb dX10_second_238 rfl hl (by decide) rfl (fun ls hl => ?_)
                                              refine lv_iload hx hb dX10_second_239 (lv_at hl 2 rfl) ?_
                                              refine lv_istore (lv' := [(4, .int (x10_113)), (3, .int (x6_34)), (11, .int (r144)), (10, .int (x10_113)), (9, .int (1)), (8, .int (v11)), (7, .int (v10)), (6, .int (x6_34)), (5, .int (x5_113)), (0, .ref (ad (1000))), (1, .int (a0)), (2, .int (a1))]) hx hb dX10_second_241 hl (by decide) rfl (fun ls hl => ?_)
                                              refine lv_iload hx hb dX10_second_243 (lv_at hl 2 rfl) ?_
                                              refine lv_istore (lv' := [(5, .int (r144)), (4, .int (x10_113)), (3, .int (x6_34)), (11, .int (r144)), (10, .int (x10_113)), (9, .int (1)), (8, .int (v11)), (7, .int (v10)), (6, .int (x6_34)), (0, .ref (ad (1000))), (1, .int (a0)), (2, .int (a1))]) hx hb dX10_second_245 hl (by decide) rfl (fun ls hl => ?_)
                                              obtain ⟨v149, ev149⟩ : ∃ z : Int32, z = x10_113 + Int32.ofInt (1) := ⟨_, rfl⟩
                                              have tv149 := a_inc ev149 (by decide) (by omega) (by omega)
                                              refine lv_iinc (v := v149) (lv' := [(10, .int (v149)), (5, .int (r144)), (4, .int (x10_113)), (3, .int (x6_34)), (11, .int (r144)), (9, .int (1)), (8, .int (v11)), (7, .int (v10)), (6, .int (x6_34)), (0, .ref (ad (1000))), (1, .int (a0)), (2, .int (a1))]) hx hb dX10_second_247 hl (k := 4) rfl ev149.symm (by decide) rfl (fun ls hl => ?_)
                                              refine lv_goto (tgt := 113) hx hb dX10_second_250 (by decide) ?_
                                              exact ih113 (v149) (r144) (x10_113) (x6_34) I142 L143 _ _ ls hI hK (by first | omega | decide) (by omega) hM hS (lv_sub hl [0, 5, 6, 7, 8, 1, 2, 3, 9, 10, 11] rfl)
                                        · have hc138 := c138
                                          have q138 := q_nle hc138
                                          refine lv_aload_n hx hb dX10_second_179 rfl (lv_at hl 9 rfl) ?_
                                          refine m_getr (1000) 50 (1050) hx hb hts hown hE oc10 hM hJ.1 rfl (by decide) rfl (hJ.2 50 (by decide)).2 (by decide) tb_1227 dX10_second_180 ?_
                                          refine lv_iload hx hb dX10_second_183 (lv_at hl 0 rfl) ?_
                                          refine lv_iconst (v := (0)) hx hb dX10_second_185 (by decide) ?_
                                          refine m_iast (1050) hx hb hE hM hS (hJ.2 50 (by decide)).1 rfl (vp_in_iff.mpr (by omega)) dX10_second_186 (fun H locs I150 eI150 hM hS => ?_)
                                          subst eI150
                                          have hI := hI.putF (n := 1050) (k := ((x11_172).toNatClampNeg)) (v := 0) rfl
                                          have hK := hK.put (n := 1050) (k := ((x11_172).toNatClampNeg)) (v := 0) (by first | rfl | simp [inR])
                                          obtain ⟨v151, ev151⟩ : ∃ z : Int32, z = x11_172 + Int32.ofInt (1) := ⟨_, rfl⟩
                                          have tv151 := a_inc ev151 (by decide) (by omega) (by omega)
                                          refine lv_iinc (v := v151) (lv' := [(11, .int (v151)), (10, .int (x10_113)), (9, .int (1)), (8, .int (v11)), (7, .int (v10)), (6, .int (x6_34)), (5, .int (x5_113)), (4, .int (x4_113)), (3, .int (x3_113)), (0, .ref (ad (1000))), (1, .int (a0)), (2, .int (a1))]) hx hb dX10_second_187 hl (k := 0) rfl ev151.symm (by decide) rfl (fun ls hl => ?_)
                                          refine lv_goto (tgt := 172) hx hb dX10_second_190 (by decide) ?_
                                          exact ih172 (v151) (u2 Ia172 (1050) ((x11_172).toNatClampNeg) (0)) La172 _ _ ls hI hK (by first | omega | decide) (by omega) hM hS (lv_sub hl [0, 1, 2, 3, 4, 5, 6, 7, 8, 9, 10, 11] rfl)
                                    exact loop172 (_ + 1) (0) Ia113 La113 _ _ ls hI hK (by first | omega | decide) (Nat.lt_succ_self _) hM hS (lv_sub hl [0, 1, 2, 3, 4, 5, 6, 7, 8, 9, 10, 11] rfl)
                      exact loop113 (_ + 1) (0) (x5_34) (x4_34) (x3_34) Ia34 La34 _ _ ls hI hK (by first | omega | decide) (Nat.lt_succ_self _) hM hS (lv_sub hl [0, 1, 2, 3, 4, 5, 6, 7, 8, 9, 10] rfl)
      exact loop34 (_ + 1) (0) (0) (0) ((-2 : Int32)) I L _ _ ls hI hK (by first | omega | decide) (Nat.lt_succ_self _) hM hS (lv_sub hl [0, 1, 2, 3, 4, 5, 6] rfl)
    · have hc5 := c5
      have q5 := xr4.f hc5
      refine lv_iconst (v := (-1)) hx hb dX10_second_20 (by decide) ?_
      exact m_iret hx hb hr hlocks hM hS (Nat.le_of_ble_eq_true rfl) (Nat.le_of_ble_eq_true rfl) ⟨_, _, rfl, hI, hK⟩ dX10_second_21
theorem dX10_thief_0 : decode cX10_thief 0 = .ok (.aload_n 0, 1) := by decide +kernel
theorem dX10_thief_1 : decode cX10_thief 1 = .ok (.iload_n 1, 1) := by decide +kernel
theorem dX10_thief_2 : decode cX10_thief 2 = .ok (.invokevirtual 472, 3) := by decide +kernel
theorem dX10_thief_5 : decode cX10_thief 5 = .ok (.ifCond .eq 15, 3) := by decide +kernel
theorem dX10_thief_8 : decode cX10_thief 8 = .ok (.iload_n 2, 1) := by decide +kernel
theorem dX10_thief_9 : decode cX10_thief 9 = .ok (.i2l, 1) := by decide +kernel
theorem dX10_thief_10 : decode cX10_thief 10 = .ok (.lconst 0, 1) := by decide +kernel
theorem dX10_thief_11 : decode cX10_thief 11 = .ok (.ldc2_w 521, 3) := by decide +kernel
theorem dX10_thief_14 : decode cX10_thief 14 = .ok (.invokestatic 192, 3) := by decide +kernel
theorem dX10_thief_17 : decode cX10_thief 17 = .ok (.ifCond .ne 5, 3) := by decide +kernel
theorem dX10_thief_20 : decode cX10_thief 20 = .ok (.iconst (-1), 1) := by decide +kernel
theorem dX10_thief_21 : decode cX10_thief 21 = .ok (.ireturn, 1) := by decide +kernel
theorem dX10_thief_22 : decode cX10_thief 22 = .ok (.aload_n 0, 1) := by decide +kernel
theorem dX10_thief_23 : decode cX10_thief 23 = .ok (.iconst (-1), 1) := by decide +kernel
theorem dX10_thief_24 : decode cX10_thief 24 = .ok (.putfield 136, 3) := by decide +kernel
theorem dX10_thief_27 : decode cX10_thief 27 = .ok (.aload_n 0, 1) := by decide +kernel
theorem dX10_thief_28 : decode cX10_thief 28 = .ok (.iload_n 1, 1) := by decide +kernel
theorem dX10_thief_29 : decode cX10_thief 29 = .ok (.invokevirtual 523, 3) := by decide +kernel
theorem dX10_thief_32 : decode cX10_thief 32 = .ok (.iconst (-1), 1) := by decide +kernel
theorem dX10_thief_33 : decode cX10_thief 33 = .ok (.istore_n 3, 1) := by decide +kernel
theorem dX10_thief_34 : decode cX10_thief 34 = .ok (.iconst 0, 1) := by decide +kernel
theorem dX10_thief_35 : decode cX10_thief 35 = .ok (.istore 4, 2) := by decide +kernel
theorem dX10_thief_37 : decode cX10_thief 37 = .ok (.iload 4, 2) := by decide +kernel
theorem dX10_thief_39 : decode cX10_thief 39 = .ok (.aload_n 0, 1) := by decide +kernel
theorem dX10_thief_40 : decode cX10_thief 40 = .ok (.getfield 7, 3) := by decide +kernel
theorem dX10_thief_43 : decode cX10_thief 43 = .ok (.bipush 8, 2) := by decide +kernel
theorem dX10_thief_45 : decode cX10_thief 45 = .ok (.iaload, 1) := by decide +kernel
theorem dX10_thief_46 : decode cX10_thief 46 = .ok (.if_icmp .ge 87, 3) := by decide +kernel
theorem dX10_thief_49 : decode cX10_thief 49 = .ok (.aload_n 0, 1) := by decide +kernel
theorem dX10_thief_50 : decode cX10_thief 50 = .ok (.getfield 149, 3) := by decide +kernel
theorem dX10_thief_53 : decode cX10_thief 53 = .ok (.iload 4, 2) := by decide +kernel
theorem dX10_thief_55 : decode cX10_thief 55 = .ok (.iaload, 1) := by decide +kernel
theorem dX10_thief_56 : decode cX10_thief 56 = .ok (.ifCond .le 35, 3) := by decide +kernel
theorem dX10_thief_59 : decode cX10_thief 59 = .ok (.aload_n 0, 1) := by decide +kernel
theorem dX10_thief_60 : decode cX10_thief 60 = .ok (.getfield 55, 3) := by decide +kernel
theorem dX10_thief_63 : decode cX10_thief 63 = .ok (.iload 4, 2) := by decide +kernel
theorem dX10_thief_65 : decode cX10_thief 65 = .ok (.iaload, 1) := by decide +kernel
theorem dX10_thief_66 : decode cX10_thief 66 = .ok (.iconst (-1), 1) := by decide +kernel
theorem dX10_thief_67 : decode cX10_thief 67 = .ok (.if_icmp .eq 24, 3) := by decide +kernel
theorem dX10_thief_70 : decode cX10_thief 70 = .ok (.aload_n 0, 1) := by decide +kernel
theorem dX10_thief_71 : decode cX10_thief 71 = .ok (.getfield 55, 3) := by decide +kernel
theorem dX10_thief_74 : decode cX10_thief 74 = .ok (.iload 4, 2) := by decide +kernel
theorem dX10_thief_76 : decode cX10_thief 76 = .ok (.iaload, 1) := by decide +kernel
theorem dX10_thief_77 : decode cX10_thief 77 = .ok (.aload_n 0, 1) := by decide +kernel
theorem dX10_thief_78 : decode cX10_thief 78 = .ok (.getfield 146, 3) := by decide +kernel
theorem dX10_thief_81 : decode cX10_thief 81 = .ok (.iload 4, 2) := by decide +kernel
theorem dX10_thief_83 : decode cX10_thief 83 = .ok (.iaload, 1) := by decide +kernel
theorem dX10_thief_84 : decode cX10_thief 84 = .ok (.if_icmp .ge 7, 3) := by decide +kernel
theorem dX10_thief_87 : decode cX10_thief 87 = .ok (.iconst 1, 1) := by decide +kernel
theorem dX10_thief_88 : decode cX10_thief 88 = .ok (.goto 4, 3) := by decide +kernel
theorem dX10_thief_91 : decode cX10_thief 91 = .ok (.iconst 0, 1) := by decide +kernel
theorem dX10_thief_92 : decode cX10_thief 92 = .ok (.istore 5, 2) := by decide +kernel
theorem dX10_thief_94 : decode cX10_thief 94 = .ok (.iload 5, 2) := by decide +kernel
theorem dX10_thief_96 : decode cX10_thief 96 = .ok (.ifCond .eq 29, 3) := by decide +kernel
theorem dX10_thief_99 : decode cX10_thief 99 = .ok (.iload_n 3, 1) := by decide +kernel
theorem dX10_thief_100 : decode cX10_thief 100 = .ok (.iconst (-1), 1) := by decide +kernel
theorem dX10_thief_101 : decode cX10_thief 101 = .ok (.if_icmp .eq 19, 3) := by decide +kernel
theorem dX10_thief_104 : decode cX10_thief 104 = .ok (.aload_n 0, 1) := by decide +kernel
theorem dX10_thief_105 : decode cX10_thief 105 = .ok (.getfield 149, 3) := by decide +kernel
theorem dX10_thief_108 : decode cX10_thief 108 = .ok (.iload 4, 2) := by decide +kernel
theorem dX10_thief_110 : decode cX10_thief 110 = .ok (.iaload, 1) := by decide +kernel
theorem dX10_thief_111 : decode cX10_thief 111 = .ok (.aload_n 0, 1) := by decide +kernel
theorem dX10_thief_112 : decode cX10_thief 112 = .ok (.getfield 149, 3) := by decide +kernel
theorem dX10_thief_115 : decode cX10_thief 115 = .ok (.iload_n 3, 1) := by decide +kernel
theorem dX10_thief_116 : decode cX10_thief 116 = .ok (.iaload, 1) := by decide +kernel
theorem dX10_thief_117 : decode cX10_thief 117 = .ok (.if_icmp .ge 8, 3) := by decide +kernel
theorem dX10_thief_120 : decode cX10_thief 120 = .ok (.iload 4, 2) := by decide +kernel
theorem dX10_thief_122 : decode cX10_thief 122 = .ok (.goto 4, 3) := by decide +kernel
theorem dX10_thief_125 : decode cX10_thief 125 = .ok (.iload_n 3, 1) := by decide +kernel
theorem dX10_thief_126 : decode cX10_thief 126 = .ok (.istore_n 3, 1) := by decide +kernel
theorem dX10_thief_127 : decode cX10_thief 127 = .ok (.iinc 4 1, 3) := by decide +kernel
theorem dX10_thief_130 : decode cX10_thief 130 = .ok (.goto (-93), 3) := by decide +kernel
theorem dX10_thief_133 : decode cX10_thief 133 = .ok (.iload_n 3, 1) := by decide +kernel
theorem dX10_thief_134 : decode cX10_thief 134 = .ok (.iconst (-1), 1) := by decide +kernel
theorem dX10_thief_135 : decode cX10_thief 135 = .ok (.if_icmp .ne 14, 3) := by decide +kernel
theorem dX10_thief_138 : decode cX10_thief 138 = .ok (.iload_n 2, 1) := by decide +kernel
theorem dX10_thief_139 : decode cX10_thief 139 = .ok (.ifCond .ne 8, 3) := by decide +kernel
theorem dX10_thief_142 : decode cX10_thief 142 = .ok (.bipush (-2), 2) := by decide +kernel
theorem dX10_thief_144 : decode cX10_thief 144 = .ok (.goto 4, 3) := by decide +kernel
theorem dX10_thief_147 : decode cX10_thief 147 = .ok (.iconst 0, 1) := by decide +kernel
theorem dX10_thief_148 : decode cX10_thief 148 = .ok (.ireturn, 1) := by decide +kernel
theorem dX10_thief_149 : decode cX10_thief 149 = .ok (.aload_n 0, 1) := by decide +kernel
theorem dX10_thief_150 : decode cX10_thief 150 = .ok (.getfield 146, 3) := by decide +kernel
theorem dX10_thief_153 : decode cX10_thief 153 = .ok (.iload_n 3, 1) := by decide +kernel
theorem dX10_thief_154 : decode cX10_thief 154 = .ok (.iaload, 1) := by decide +kernel
theorem dX10_thief_155 : decode cX10_thief 155 = .ok (.aload_n 0, 1) := by decide +kernel
theorem dX10_thief_156 : decode cX10_thief 156 = .ok (.getfield 55, 3) := by decide +kernel
theorem dX10_thief_159 : decode cX10_thief 159 = .ok (.iload_n 3, 1) := by decide +kernel
theorem dX10_thief_160 : decode cX10_thief 160 = .ok (.iaload, 1) := by decide +kernel
theorem dX10_thief_161 : decode cX10_thief 161 = .ok (.isub, 1) := by decide +kernel
theorem dX10_thief_162 : decode cX10_thief 162 = .ok (.istore 4, 2) := by decide +kernel
theorem dX10_thief_164 : decode cX10_thief 164 = .ok (.aload_n 0, 1) := by decide +kernel
theorem dX10_thief_165 : decode cX10_thief 165 = .ok (.getfield 149, 3) := by decide +kernel
theorem dX10_thief_168 : decode cX10_thief 168 = .ok (.aload_n 0, 1) := by decide +kernel
theorem dX10_thief_169 : decode cX10_thief 169 = .ok (.getfield 143, 3) := by decide +kernel
theorem dX10_thief_172 : decode cX10_thief 172 = .ok (.invokestatic 483, 3) := by decide +kernel
theorem dX10_thief_175 : decode cX10_thief 175 = .ok (.aload_n 0, 1) := by decide +kernel
theorem dX10_thief_176 : decode cX10_thief 176 = .ok (.iload_n 3, 1) := by decide +kernel
theorem dX10_thief_177 : decode cX10_thief 177 = .ok (.putfield 136, 3) := by decide +kernel
theorem dX10_thief_180 : decode cX10_thief 180 = .ok (.aload_n 0, 1) := by decide +kernel
theorem dX10_thief_181 : decode cX10_thief 181 = .ok (.iload_n 1, 1) := by decide +kernel
theorem dX10_thief_182 : decode cX10_thief 182 = .ok (.invokevirtual 523, 3) := by decide +kernel
theorem dX10_thief_185 : decode cX10_thief 185 = .ok (.aload_n 0, 1) := by decide +kernel
theorem dX10_thief_186 : decode cX10_thief 186 = .ok (.iconst (-1), 1) := by decide +kernel
theorem dX10_thief_187 : decode cX10_thief 187 = .ok (.putfield 136, 3) := by decide +kernel
theorem dX10_thief_190 : decode cX10_thief 190 = .ok (.iconst 1, 1) := by decide +kernel
theorem dX10_thief_191 : decode cX10_thief 191 = .ok (.istore 5, 2) := by decide +kernel
theorem dX10_thief_193 : decode cX10_thief 193 = .ok (.iconst 0, 1) := by decide +kernel
theorem dX10_thief_194 : decode cX10_thief 194 = .ok (.istore 6, 2) := by decide +kernel
theorem dX10_thief_196 : decode cX10_thief 196 = .ok (.iload 6, 2) := by decide +kernel
theorem dX10_thief_198 : decode cX10_thief 198 = .ok (.aload_n 0, 1) := by decide +kernel
theorem dX10_thief_199 : decode cX10_thief 199 = .ok (.getfield 7, 3) := by decide +kernel
theorem dX10_thief_202 : decode cX10_thief 202 = .ok (.bipush 8, 2) := by decide +kernel
theorem dX10_thief_204 : decode cX10_thief 204 = .ok (.iaload, 1) := by decide +kernel
theorem dX10_thief_205 : decode cX10_thief 205 = .ok (.if_icmp .ge 65, 3) := by decide +kernel
theorem dX10_thief_208 : decode cX10_thief 208 = .ok (.iload 5, 2) := by decide +kernel
theorem dX10_thief_210 : decode cX10_thief 210 = .ok (.ifCond .eq 51, 3) := by decide +kernel
theorem dX10_thief_213 : decode cX10_thief 213 = .ok (.aload_n 0, 1) := by decide +kernel
theorem dX10_thief_214 : decode cX10_thief 214 = .ok (.getfield 143, 3) := by decide +kernel
theorem dX10_thief_217 : decode cX10_thief 217 = .ok (.iload 6, 2) := by decide +kernel
theorem dX10_thief_219 : decode cX10_thief 219 = .ok (.iaload, 1) := by decide +kernel
theorem dX10_thief_220 : decode cX10_thief 220 = .ok (.aload_n 0, 1) := by decide +kernel
theorem dX10_thief_221 : decode cX10_thief 221 = .ok (.getfield 143, 3) := by decide +kernel
theorem dX10_thief_224 : decode cX10_thief 224 = .ok (.iload_n 3, 1) := by decide +kernel
theorem dX10_thief_225 : decode cX10_thief 225 = .ok (.iaload, 1) := by decide +kernel
theorem dX10_thief_226 : decode cX10_thief 226 = .ok (.if_icmp .le 31, 3) := by decide +kernel
theorem dX10_thief_229 : decode cX10_thief 229 = .ok (.aload_n 0, 1) := by decide +kernel
theorem dX10_thief_230 : decode cX10_thief 230 = .ok (.getfield 55, 3) := by decide +kernel
theorem dX10_thief_233 : decode cX10_thief 233 = .ok (.iload 6, 2) := by decide +kernel
theorem dX10_thief_235 : decode cX10_thief 235 = .ok (.iaload, 1) := by decide +kernel
theorem dX10_thief_236 : decode cX10_thief 236 = .ok (.iconst (-1), 1) := by decide +kernel
theorem dX10_thief_237 : decode cX10_thief 237 = .ok (.if_icmp .eq 20, 3) := by decide +kernel
theorem dX10_thief_240 : decode cX10_thief 240 = .ok (.aload_n 0, 1) := by decide +kernel
theorem dX10_thief_241 : decode cX10_thief 241 = .ok (.getfield 55, 3) := by decide +kernel
theorem dX10_thief_244 : decode cX10_thief 244 = .ok (.iload 6, 2) := by decide +kernel
theorem dX10_thief_246 : decode cX10_thief 246 = .ok (.iaload, 1) := by decide +kernel
theorem dX10_thief_247 : decode cX10_thief 247 = .ok (.aload_n 0, 1) := by decide +kernel
theorem dX10_thief_248 : decode cX10_thief 248 = .ok (.getfield 146, 3) := by decide +kernel
theorem dX10_thief_251 : decode cX10_thief 251 = .ok (.iload 6, 2) := by decide +kernel
theorem dX10_thief_253 : decode cX10_thief 253 = .ok (.iaload, 1) := by decide +kernel
theorem dX10_thief_254 : decode cX10_thief 254 = .ok (.if_icmp .ne 7, 3) := by decide +kernel
theorem dX10_thief_257 : decode cX10_thief 257 = .ok (.iconst 1, 1) := by decide +kernel
theorem dX10_thief_258 : decode cX10_thief 258 = .ok (.goto 4, 3) := by decide +kernel
theorem dX10_thief_261 : decode cX10_thief 261 = .ok (.iconst 0, 1) := by decide +kernel
theorem dX10_thief_262 : decode cX10_thief 262 = .ok (.istore 5, 2) := by decide +kernel
theorem dX10_thief_264 : decode cX10_thief 264 = .ok (.iinc 6 1, 3) := by decide +kernel
theorem dX10_thief_267 : decode cX10_thief 267 = .ok (.goto (-71), 3) := by decide +kernel
theorem dX10_thief_270 : decode cX10_thief 270 = .ok (.iload_n 2, 1) := by decide +kernel
theorem dX10_thief_271 : decode cX10_thief 271 = .ok (.ifCond .ne 7, 3) := by decide +kernel
theorem dX10_thief_274 : decode cX10_thief 274 = .ok (.iload_n 3, 1) := by decide +kernel
theorem dX10_thief_275 : decode cX10_thief 275 = .ok (.goto 23, 3) := by decide +kernel
theorem dX10_thief_278 : decode cX10_thief 278 = .ok (.iload_n 2, 1) := by decide +kernel
theorem dX10_thief_279 : decode cX10_thief 279 = .ok (.iconst 1, 1) := by decide +kernel
theorem dX10_thief_280 : decode cX10_thief 280 = .ok (.if_icmp .ne 8, 3) := by decide +kernel
theorem dX10_thief_283 : decode cX10_thief 283 = .ok (.iload 4, 2) := by decide +kernel
theorem dX10_thief_285 : decode cX10_thief 285 = .ok (.goto 13, 3) := by decide +kernel
theorem dX10_thief_288 : decode cX10_thief 288 = .ok (.iload 5, 2) := by decide +kernel
theorem dX10_thief_290 : decode cX10_thief 290 = .ok (.ifCond .eq 7, 3) := by decide +kernel
theorem dX10_thief_293 : decode cX10_thief 293 = .ok (.iconst 1, 1) := by decide +kernel
theorem dX10_thief_294 : decode cX10_thief 294 = .ok (.goto 4, 3) := by decide +kernel
theorem dX10_thief_297 : decode cX10_thief 297 = .ok (.iconst 0, 1) := by decide +kernel
theorem dX10_thief_298 : decode cX10_thief 298 = .ok (.ireturn, 1) := by decide +kernel
theorem ce_X10_thief : CeV RX10 yX10_thief cX10_thief 7 (some .int) 2 := ⟨tb_1791, tb_1792, tb_11, tb_1793, rfl, by decide, by decide, by decide +kernel⟩
set_option maxHeartbeats 4000000 in
set_option maxRecDepth 20000 in
theorem V_X10_thief (l : Launch) (D : va_G) (A : Nat → Prop) (ad : Nat → Nat) (ns : List Nat) (I : MI) (L : ML) (G : MG) (a0 : Int32) (a1 : Int32) (hJ : SGM ns G) (hI : INV I) : Met l yX10_thief (wd yX10_thief cX10_thief 7 (some .int)) ({ frames := 6, cells := 0, slots := 0, locals := 150 }) (va_Pc [.ref (ad (1000)), .int a0, .int a1] (PM D A ad ns I L G)) (va_Qi (fun r u => ∃ I2 L2, u = (ad, ns, I2, L2, G) ∧ INV I2 ∧ Kp [(1045, 1051), (1058, 1059), (1060, 1063)] [(1000, 51), (1000, 52), (1000, 53), (1000, 54), (1000, 55), (1000, 56), (1000, 57), (1000, 59), (1000, 63)] I I2) (BM D A) A) 0 0 A := by
  refine m_ofW (by decide) (Nat.le_of_ble_eq_true rfl) ?_
  intro p e s m below meth c ls args hC hE hM hA hS hl
  obtain ⟨hx, hb, hml, hown, hts, hr, hlocks, hin⟩ := hC
  have km2 : (-2 : Int32).toInt = -2 := by decide
  have km1 : (-1 : Int32).toInt = -1 := by decide
  have k0 : (0 : Int32).toInt = 0 := by decide
  have k1 : (1 : Int32).toInt = 1 := by decide
  have k8 : (8 : Int32).toInt = 8 := by decide
  have kl0 : (0 : Int64).toInt = 0 := by decide
  have kl2 : (2 : Int64).toInt = 2 := by decide
  have hK : Kp [(1045, 1051), (1058, 1059), (1060, 1063)] [(1000, 51), (1000, 52), (1000, 53), (1000, 54), (1000, 55), (1000, 56), (1000, 57), (1000, 59), (1000, 63)] I I := Kp.rf
  have hl : lv_has ls 7 [(0, .ref (ad (1000))), (1, .int (a0)), (2, .int (a1))] := hl
  refine lv_aload_n hx hb dX10_thief_0 rfl (lv_at hl 0 rfl) ?_
  refine lv_iload_n hx hb dX10_thief_1 rfl (lv_at hl 1 rfl) ?_
  refine m_calli (m_runV (1000) (As := [.int (a0)]) (rest := []) hx hb hml hown hts hE hM hS hA ce_X10_isBright tb_1698 (V_X10_isBright l D A ad ns I L G (a0) hJ hI) rfl rfl ⟨Nat.le_of_ble_eq_true rfl, Nat.le_of_ble_eq_true rfl⟩ hJ.1 rfl rfl (by decide) rfl hl.1 rfl (Nat.le_of_ble_eq_true rfl) dX10_thief_2 ⟨Nat.le_of_ble_eq_true rfl, Nat.le_of_ble_eq_true rfl⟩) hS (fun r1 u H locs hw hM hS => ?_)
  obtain ⟨rfl, xr1⟩ := hw
  have hM : Mem D A ad ns I L G H := hM
  refine lv_if_eq (tgt := 20) hx hb dX10_thief_5 (by decide) (fun c2 => ?_) (fun c2 => ?_)
  · have hc2 := c2
    have q2 := q_eq hc2
    refine lv_iconst (v := (-1)) hx hb dX10_thief_20 (by decide) ?_
    exact m_iret hx hb hr hlocks hM hS (Nat.le_of_ble_eq_true rfl) (Nat.le_of_ble_eq_true rfl) ⟨_, _, rfl, hI, hK⟩ dX10_thief_21
  · have hc2 := c2
    have q2 := q_ne hc2
    refine lv_iload_n hx hb dX10_thief_8 rfl (lv_at hl 2 rfl) ?_
    refine lv_i2l hx hb dX10_thief_9 rfl ?_
    refine lv_topl (fun v3 ev3 => ?_)
    have tv3 := q_i2l ev3
    refine lv_lconst (v := 0) hx hb dX10_thief_10 (by decide) ?_
    refine lv_ldc2 (v := (2)) hx hb hown (hts _ tb_1789) dX10_thief_11 ?_
    refine m_calli (m_runS (As := [.long (v3), .long (0), .long ((2 : Int64))]) (rest := []) hx hb hml hown hts hE hM hS hA ce_X10_in tb_1425 (V_X10_in l D A ad ns I L G (v3) (0) ((2 : Int64)) hI) rfl rfl ⟨Nat.le_of_ble_eq_true rfl, Nat.le_of_ble_eq_true rfl⟩  rfl hl.1 rfl (Nat.le_of_ble_eq_true rfl) dX10_thief_14 ⟨Nat.le_of_ble_eq_true rfl, Nat.le_of_ble_eq_true rfl⟩) hS (fun r4 u H locs hw hM hS => ?_)
    obtain ⟨rfl, xr4⟩ := hw
    have hM : Mem D A ad ns I L G H := hM
    have yr4 := bo01 xr4
    refine lv_if_ne (tgt := 22) hx hb dX10_thief_17 (by decide) (fun c5 => ?_) (fun c5 => ?_)
    · have hc5 := c5
      have q5 := xr4.t hc5
      refine lv_aload_n hx hb dX10_thief_22 rfl (lv_at hl 0 rfl) ?_
      refine lv_iconst (v := (-1)) hx hb dX10_thief_23 (by decide) ?_
      refine m_puti (1000) 57 hx hb hts hown hE oc10 hM hS hJ.1 rfl (by decide) rfl rfl rfl rfl tb_1234 dX10_thief_24 (fun H locs I6 eI6 hM hS => ?_)
      subst eI6
      have hI := hI.putF (n := 1000) (k := 57) (v := (-1 : Int32)) rfl
      have hK := hK.put (n := 1000) (k := 57) (v := (-1 : Int32)) (by first | rfl | simp [inR])
      refine lv_aload_n hx hb dX10_thief_27 rfl (lv_at hl 0 rfl) ?_
      refine lv_iload_n hx hb dX10_thief_28 rfl (lv_at hl 1 rfl) ?_
      refine m_callv (m_runV (1000) (As := [.int (a0)]) (rest := []) hx hb hml hown hts hE hM hS hA ce_X10_follows tb_1794 (V_X10_follows l D A ad ns (u2 I (1000) 57 ((-1 : Int32))) L G (a0) hJ hI (by first | omega | decide)) rfl rfl ⟨Nat.le_of_ble_eq_true rfl, Nat.le_of_ble_eq_true rfl⟩ hJ.1 rfl rfl (by decide) rfl hl.1 rfl (Nat.le_of_ble_eq_true rfl) dX10_thief_29 ⟨Nat.le_of_ble_eq_true rfl, Nat.le_of_ble_eq_true rfl⟩) hS (fun u H locs hw hM hS => ?_)
      obtain ⟨I7, L8, rfl, hI, hkI7⟩ := hw
      have hM : Mem D A ad ns I7 L8 G H := hM
      have hK := hK.trans hkI7 rfl
      refine lv_iconst (v := (-1)) hx hb dX10_thief_32 (by decide) ?_
      refine lv_istore_n (lv' := [(3, .int ((-1 : Int32))), (0, .ref (ad (1000))), (1, .int (a0)), (2, .int (a1))]) hx hb dX10_thief_33 rfl hl (by decide) rfl (fun ls hl => ?_)
      refine lv_iconst (v := (0)) hx hb dX10_thief_34 (by decide) ?_
      refine lv_istore (lv' := [(4, .int (0)), (3, .int ((-1 : Int32))), (0, .ref (ad (1000))), (1, .int (a0)), (2, .int (a1))]) hx hb dX10_thief_35 hl (by decide) rfl (fun ls hl => ?_)
      have loop37 : ∀ (n : Nat) (x4_37 : Int32) (x3_37 : Int32) (Ia37 : MI) (La37 : ML) (H : Heap) (locs : List Loc) (ls : Array Slot), INV Ia37 → Kp [(1045, 1051), (1058, 1059), (1060, 1063)] [(1000, 51), (1000, 52), (1000, 53), (1000, 54), (1000, 55), (1000, 56), (1000, 57), (1000, 59), (1000, 63)] I Ia37 → (0 ≤ x4_37.toInt ∧ x4_37.toInt ≤ 24) → (-1 ≤ x3_37.toInt ∧ x3_37.toInt ≤ 23) → (24 - x4_37.toInt).toNat < n → Mem D A ad ns Ia37 La37 G H → va_S A s.heap H locs → lv_has ls 7 [(4, .int (x4_37)), (3, .int (x3_37)), (0, .ref (ad (1000))), (1, .int (a0)), (2, .int (a1))] → W p l e ({ frames := 6, cells := 0, slots := 0, locals := 150 } : Room) s m args below meth c H locs 0 0 (MQ below (va_Qi (fun r u => ∃ I2 L2, u = (ad, ns, I2, L2, G) ∧ INV I2 ∧ Kp [(1045, 1051), (1058, 1059), (1060, 1063)] [(1000, 51), (1000, 52), (1000, 53), (1000, 54), (1000, 55), (1000, 56), (1000, 57), (1000, 59), (1000, 63)] I I2) (BM D A) A) args s 0 0 A) (F0 m 37 ls []) := by
        intro n
        induction n with
        | zero =>
          intro x4_37 x3_37 Ia37 La37 H locs ls hI hK hr4_37 hr3_37 hmu
          exact absurd hmu (Nat.not_lt_zero _)
        | succ n ih37 =>
          intro x4_37 x3_37 Ia37 La37 H locs ls hI hK hr4_37 hr3_37 hmu37 hM hS hl
          refine lv_iload hx hb dX10_thief_37 (lv_at hl 0 rfl) ?_
          refine lv_aload_n hx hb dX10_thief_39 rfl (lv_at hl 2 rfl) ?_
          refine m_getr (1000) 1 (1001) hx hb hts hown hE oc10 hM hJ.1 rfl (by decide) rfl (hJ.2 1 (by decide)).2 (by decide) tb_1178 dX10_thief_40 ?_
          refine lv_bipush (v := (8)) hx hb dX10_thief_43 (by decide) ?_
          refine m_iald (1001) hx hb hE hM (hJ.2 1 (by decide)).1 rfl (vp_in_iff.mpr (by decide)) dX10_thief_45 ?_
          rw [show (8 : Int32).toNatClampNeg = 8 from rfl]
          have g9 := hI.get (1001) 8 (lo := 0) (hi := 24) rfl
          refine lv_icmp_ge (tgt := 133) hx hb dX10_thief_46 (by decide) (fun c10 => ?_) (fun c10 => ?_)
          · have hc10 := c10
            have q10 := q_le hc10
            refine lv_iload_n hx hb dX10_thief_133 rfl (lv_at hl 1 rfl) ?_
            refine lv_iconst (v := (-1)) hx hb dX10_thief_134 (by decide) ?_
            refine lv_icmp_ne (tgt := 149) hx hb dX10_thief_135 (by decide) (fun c11 => ?_) (fun c11 => ?_)
            · have hc11 := c11
              have q11 := q_ne hc11
              refine lv_aload_n hx hb dX10_thief_149 rfl (lv_at hl 2 rfl) ?_
              refine m_getr (1000) 61 (1061) hx hb hts hown hE oc10 hM hJ.1 rfl (by decide) rfl (hJ.2 61 (by decide)).2 (by decide) tb_1238 dX10_thief_150 ?_
              refine lv_iload_n hx hb dX10_thief_153 rfl (lv_at hl 1 rfl) ?_
              refine m_iald (1061) hx hb hE hM (hJ.2 61 (by decide)).1 rfl (vp_in_iff.mpr (by omega)) dX10_thief_154 ?_
              refine lv_aload_n hx hb dX10_thief_155 rfl (lv_at hl 2 rfl) ?_
              refine m_getr (1000) 16 (1016) hx hb hts hown hE oc10 hM hJ.1 rfl (by decide) rfl (hJ.2 16 (by decide)).2 (by decide) tb_1193 dX10_thief_156 ?_
              refine lv_iload_n hx hb dX10_thief_159 rfl (lv_at hl 1 rfl) ?_
              refine m_iald (1016) hx hb hE hM (hJ.2 16 (by decide)).1 rfl (vp_in_iff.mpr (by omega)) dX10_thief_160 ?_
              refine lv_isub hx hb dX10_thief_161 ?_
              refine lv_topi (fun v12 ev12 => ?_)
              refine lv_istore (lv' := [(4, .int (v12)), (3, .int (x3_37)), (0, .ref (ad (1000))), (1, .int (a0)), (2, .int (a1))]) hx hb dX10_thief_162 hl (by decide) rfl (fun ls hl => ?_)
              refine lv_aload_n hx hb dX10_thief_164 rfl (lv_at hl 2 rfl) ?_
              refine m_getr (1000) 62 (1062) hx hb hts hown hE oc10 hM hJ.1 rfl (by decide) rfl (hJ.2 62 (by decide)).2 (by decide) tb_1239 dX10_thief_165 ?_
              refine lv_aload_n hx hb dX10_thief_168 rfl (lv_at hl 2 rfl) ?_
              refine m_getr (1000) 60 (1060) hx hb hts hown hE oc10 hM hJ.1 rfl (by decide) rfl (hJ.2 60 (by decide)).2 (by decide) tb_1237 dX10_thief_169 ?_
              refine m_callv (m_runS (As := [.ref (ad (1062)), .ref (ad (1060))]) (rest := []) hx hb hml hown hts hE hM hS hA ce_X10_copy tb_1723 (V_X10_copy_1062_1060 l D A ad ns Ia37 La37 G hJ hI) rfl rfl ⟨Nat.le_of_ble_eq_true rfl, Nat.le_of_ble_eq_true rfl⟩  rfl hl.1 rfl (Nat.le_of_ble_eq_true rfl) dX10_thief_172 ⟨Nat.le_of_ble_eq_true rfl, Nat.le_of_ble_eq_true rfl⟩) hS (fun u H locs hw hM hS => ?_)
              obtain ⟨I13, L14, rfl, hI, hkI13⟩ := hw
              have hM : Mem D A ad ns I13 L14 G H := hM
              have hK := hK.trans hkI13 rfl
              refine lv_aload_n hx hb dX10_thief_175 rfl (lv_at hl 2 rfl) ?_
              refine lv_iload_n hx hb dX10_thief_176 rfl (lv_at hl 1 rfl) ?_
              refine m_puti (1000) 57 hx hb hts hown hE oc10 hM hS hJ.1 rfl (by decide) rfl rfl rfl rfl tb_1234 dX10_thief_177 (fun H locs I15 eI15 hM hS => ?_)
              subst eI15
              have hI := hI.putF (n := 1000) (k := 57) (v := x3_37) rfl
              have hK := hK.put (n := 1000) (k := 57) (v := x3_37) (by first | rfl | simp [inR])
              refine lv_aload_n hx hb dX10_thief_180 rfl (lv_at hl 2 rfl) ?_
              refine lv_iload_n hx hb dX10_thief_181 rfl (lv_at hl 3 rfl) ?_
              refine m_callv (m_runV (1000) (As := [.int (a0)]) (rest := []) hx hb hml hown hts hE hM hS hA ce_X10_follows tb_1794 (V_X10_follows l D A ad ns (u2 I13 (1000) 57 (x3_37)) L14 G (a0) hJ hI (by first | omega | decide)) rfl rfl ⟨Nat.le_of_ble_eq_true rfl, Nat.le_of_ble_eq_true rfl⟩ hJ.1 rfl rfl (by decide) rfl hl.1 rfl (Nat.le_of_ble_eq_true rfl) dX10_thief_182 ⟨Nat.le_of_ble_eq_true rfl, Nat.le_of_ble_eq_true rfl⟩) hS (fun u H locs hw hM hS => ?_)
              obtain ⟨I16, L17, rfl, hI, hkI16⟩ := hw
              have hM : Mem D A ad ns I16 L17 G H := hM
              have hK := hK.trans hkI16 rfl
              refine lv_aload_n hx hb dX10_thief_185 rfl (lv_at hl 2 rfl) ?_
              refine lv_iconst (v := (-1)) hx hb dX10_thief_186 (by decide) ?_
              refine m_puti (1000) 57 hx hb hts hown hE oc10 hM hS hJ.1 rfl (by decide) rfl rfl rfl rfl tb_1234 dX10_thief_187 (fun H locs I18 eI18 hM hS => ?_)
              subst eI18
              have hI := hI.putF (n := 1000) (k := 57) (v := (-1 : Int32)) rfl
              have hK := hK.put (n := 1000) (k := 57) (v := (-1 : Int32)) (by first | rfl | simp [inR])
              refine lv_iconst (v := (1)) hx hb dX10_thief_190 (by decide) ?_
              refine lv_istore (lv' := [(5, .int (1)), (4, .int (v12)), (3, .int (x3_37)), (0, .ref (ad (1000))), (1, .int (a0)), (2, .int (a1))]) hx hb dX10_thief_191 hl (by decide) rfl (fun ls hl => ?_)
              refine lv_iconst (v := (0)) hx hb dX10_thief_193 (by decide) ?_
              refine lv_istore (lv' := [(6, .int (0)), (5, .int (1)), (4, .int (v12)), (3, .int (x3_37)), (0, .ref (ad (1000))), (1, .int (a0)), (2, .int (a1))]) hx hb dX10_thief_194 hl (by decide) rfl (fun ls hl => ?_)
              have loop196 : ∀ (n : Nat) (x6_196 : Int32) (x5_196 : Int32) (Ia196 : MI) (La196 : ML) (H : Heap) (locs : List Loc) (ls : Array Slot), INV Ia196 → Kp [(1045, 1051), (1058, 1059), (1060, 1063)] [(1000, 51), (1000, 52), (1000, 53), (1000, 54), (1000, 55), (1000, 56), (1000, 57), (1000, 59), (1000, 63)] I Ia196 → (0 ≤ x6_196.toInt ∧ x6_196.toInt ≤ 24) → (0 ≤ x5_196.toInt ∧ x5_196.toInt ≤ 1) → (24 - x6_196.toInt).toNat < n → Mem D A ad ns Ia196 La196 G H → va_S A s.heap H locs → lv_has ls 7 [(6, .int (x6_196)), (5, .int (x5_196)), (4, .int (v12)), (3, .int (x3_37)), (0, .ref (ad (1000))), (1, .int (a0)), (2, .int (a1))] → W p l e ({ frames := 6, cells := 0, slots := 0, locals := 150 } : Room) s m args below meth c H locs 0 0 (MQ below (va_Qi (fun r u => ∃ I2 L2, u = (ad, ns, I2, L2, G) ∧ INV I2 ∧ Kp [(1045, 1051), (1058, 1059), (1060, 1063)] [(1000, 51), (1000, 52), (1000, 53), (1000, 54), (1000, 55), (1000, 56), (1000, 57), (1000, 59), (1000, 63)] I I2) (BM D A) A) args s 0 0 A) (F0 m 196 ls []) := by
                intro n
                induction n with
                | zero =>
                  intro x6_196 x5_196 Ia196 La196 H locs ls hI hK hr6_196 hr5_196 hmu
                  exact absurd hmu (Nat.not_lt_zero _)
                | succ n ih196 =>
                  intro x6_196 x5_196 Ia196 La196 H locs ls hI hK hr6_196 hr5_196 hmu196 hM hS hl
                  refine lv_iload hx hb dX10_thief_196 (lv_at hl 0 rfl) ?_
                  refine lv_aload_n hx hb dX10_thief_198 rfl (lv_at hl 4 rfl) ?_
                  refine m_getr (1000) 1 (1001) hx hb hts hown hE oc10 hM hJ.1 rfl (by decide) rfl (hJ.2 1 (by decide)).2 (by decide) tb_1178 dX10_thief_199 ?_
                  refine lv_bipush (v := (8)) hx hb dX10_thief_202 (by decide) ?_
                  refine m_iald (1001) hx hb hE hM (hJ.2 1 (by decide)).1 rfl (vp_in_iff.mpr (by decide)) dX10_thief_204 ?_
                  rw [show (8 : Int32).toNatClampNeg = 8 from rfl]
                  have g19 := hI.get (1001) 8 (lo := 0) (hi := 24) rfl
                  refine lv_icmp_ge (tgt := 270) hx hb dX10_thief_205 (by decide) (fun c20 => ?_) (fun c20 => ?_)
                  · have hc20 := c20
                    have q20 := q_le hc20
                    refine lv_iload_n hx hb dX10_thief_270 rfl (lv_at hl 6 rfl) ?_
                    refine lv_if_ne (tgt := 278) hx hb dX10_thief_271 (by decide) (fun c21 => ?_) (fun c21 => ?_)
                    · have hc21 := c21
                      have q21 := q_ne hc21
                      refine lv_iload_n hx hb dX10_thief_278 rfl (lv_at hl 6 rfl) ?_
                      refine lv_iconst (v := (1)) hx hb dX10_thief_279 (by decide) ?_
                      refine lv_icmp_ne (tgt := 288) hx hb dX10_thief_280 (by decide) (fun c22 => ?_) (fun c22 => ?_)
                      · have hc22 := c22
                        have q22 := q_ne hc22
                        refine lv_iload hx hb dX10_thief_288 (lv_at hl 1 rfl) ?_
                        refine lv_if_eq (tgt := 297) hx hb dX10_thief_290 (by decide) (fun c23 => ?_) (fun c23 => ?_)
                        · have hc23 := c23
                          have q23 := q_eq hc23
                          refine lv_iconst (v := (0)) hx hb dX10_thief_297 (by decide) ?_
                          exact m_iret hx hb hr hlocks hM hS (Nat.le_of_ble_eq_true rfl) (Nat.le_of_ble_eq_true rfl) ⟨_, _, rfl, hI, hK⟩ dX10_thief_298
                        · have hc23 := c23
                          have q23 := q_ne hc23
                          refine lv_iconst (v := (1)) hx hb dX10_thief_293 (by decide) ?_
                          refine lv_goto (tgt := 298) hx hb dX10_thief_294 (by decide) ?_
                          exact m_iret hx hb hr hlocks hM hS (Nat.le_of_ble_eq_true rfl) (Nat.le_of_ble_eq_true rfl) ⟨_, _, rfl, hI, hK⟩ dX10_thief_298
                      · have hc22 := c22
                        have q22 := q_eq hc22
                        refine lv_iload hx hb dX10_thief_283 (lv_at hl 2 rfl) ?_
                        refine lv_goto (tgt := 298) hx hb dX10_thief_285 (by decide) ?_
                        exact m_iret hx hb hr hlocks hM hS (Nat.le_of_ble_eq_true rfl) (Nat.le_of_ble_eq_true rfl) ⟨_, _, rfl, hI, hK⟩ dX10_thief_298
                    · have hc21 := c21
                      have q21 := q_eq hc21
                      refine lv_iload_n hx hb dX10_thief_274 rfl (lv_at hl 3 rfl) ?_
                      refine lv_goto (tgt := 298) hx hb dX10_thief_275 (by decide) ?_
                      exact m_iret hx hb hr hlocks hM hS (Nat.le_of_ble_eq_true rfl) (Nat.le_of_ble_eq_true rfl) ⟨_, _, rfl, hI, hK⟩ dX10_thief_298
                  · have hc20 := c20
                    have q20 := q_nle hc20
                    refine lv_iload hx hb dX10_thief_208 (lv_at hl 1 rfl) ?_
                    refine lv_if_eq (tgt := 261) hx hb dX10_thief_210 (by decide) (fun c24 => ?_) (fun c24 => ?_)
                    · have hc24 := c24
                      have q24 := q_eq hc24
                      refine lv_iconst (v := (0)) hx hb dX10_thief_261 (by decide) ?_
                      refine lv_istore (lv' := [(5, .int (0)), (6, .int (x6_196)), (4, .int (v12)), (3, .int (x3_37)), (0, .ref (ad (1000))), (1, .int (a0)), (2, .int (a1))]) hx hb dX10_thief_262 hl (by decide) rfl (fun ls hl => ?_)
                      obtain ⟨v25, ev25⟩ : ∃ z : Int32, z = x6_196 + Int32.ofInt (1) := ⟨_, rfl⟩
                      have tv25 := a_inc ev25 (by decide) (by omega) (by omega)
                      refine lv_iinc (v := v25) (lv' := [(6, .int (v25)), (5, .int (0)), (4, .int (v12)), (3, .int (x3_37)), (0, .ref (ad (1000))), (1, .int (a0)), (2, .int (a1))]) hx hb dX10_thief_264 hl (k := 1) rfl ev25.symm (by decide) rfl (fun ls hl => ?_)
                      refine lv_goto (tgt := 196) hx hb dX10_thief_267 (by decide) ?_
                      exact ih196 (v25) (0) Ia196 La196 _ _ ls hI hK (by first | omega | decide) (by first | omega | decide) (by omega) hM hS (lv_sub hl [0, 1, 2, 3, 4, 5, 6] rfl)
                    · have hc24 := c24
                      have q24 := q_ne hc24
                      refine lv_aload_n hx hb dX10_thief_213 rfl (lv_at hl 4 rfl) ?_
                      refine m_getr (1000) 60 (1060) hx hb hts hown hE oc10 hM hJ.1 rfl (by decide) rfl (hJ.2 60 (by decide)).2 (by decide) tb_1237 dX10_thief_214 ?_
                      refine lv_iload hx hb dX10_thief_217 (lv_at hl 0 rfl) ?_
                      refine m_iald (1060) hx hb hE hM (hJ.2 60 (by decide)).1 rfl (vp_in_iff.mpr (by omega)) dX10_thief_219 ?_
                      refine lv_aload_n hx hb dX10_thief_220 rfl (lv_at hl 4 rfl) ?_
                      refine m_getr (1000) 60 (1060) hx hb hts hown hE oc10 hM hJ.1 rfl (by decide) rfl (hJ.2 60 (by decide)).2 (by decide) tb_1237 dX10_thief_221 ?_
                      refine lv_iload_n hx hb dX10_thief_224 rfl (lv_at hl 3 rfl) ?_
                      refine m_iald (1060) hx hb hE hM (hJ.2 60 (by decide)).1 rfl (vp_in_iff.mpr (by omega)) dX10_thief_225 ?_
                      refine lv_icmp_le (tgt := 257) hx hb dX10_thief_226 (by decide) (fun c26 => ?_) (fun c26 => ?_)
                      · have hc26 := c26
                        have q26 := q_le hc26
                        refine lv_iconst (v := (1)) hx hb dX10_thief_257 (by decide) ?_
                        refine lv_goto (tgt := 262) hx hb dX10_thief_258 (by decide) ?_
                        refine lv_istore (lv' := [(5, .int (1)), (6, .int (x6_196)), (4, .int (v12)), (3, .int (x3_37)), (0, .ref (ad (1000))), (1, .int (a0)), (2, .int (a1))]) hx hb dX10_thief_262 hl (by decide) rfl (fun ls hl => ?_)
                        obtain ⟨v27, ev27⟩ : ∃ z : Int32, z = x6_196 + Int32.ofInt (1) := ⟨_, rfl⟩
                        have tv27 := a_inc ev27 (by decide) (by omega) (by omega)
                        refine lv_iinc (v := v27) (lv' := [(6, .int (v27)), (5, .int (1)), (4, .int (v12)), (3, .int (x3_37)), (0, .ref (ad (1000))), (1, .int (a0)), (2, .int (a1))]) hx hb dX10_thief_264 hl (k := 1) rfl ev27.symm (by decide) rfl (fun ls hl => ?_)
                        refine lv_goto (tgt := 196) hx hb dX10_thief_267 (by decide) ?_
                        exact ih196 (v27) (1) Ia196 La196 _ _ ls hI hK (by first | omega | decide) (by first | omega | decide) (by omega) hM hS (lv_sub hl [0, 1, 2, 3, 4, 5, 6] rfl)
                      · have hc26 := c26
                        have q26 := q_nle hc26
                        refine lv_aload_n hx hb dX10_thief_229 rfl (lv_at hl 4 rfl) ?_
                        refine m_getr (1000) 16 (1016) hx hb hts hown hE oc10 hM hJ.1 rfl (by decide) rfl (hJ.2 16 (by decide)).2 (by decide) tb_1193 dX10_thief_230 ?_
                        refine lv_iload hx hb dX10_thief_233 (lv_at hl 0 rfl) ?_
                        refine m_iald (1016) hx hb hE hM (hJ.2 16 (by decide)).1 rfl (vp_in_iff.mpr (by omega)) dX10_thief_235 ?_
                        refine lv_iconst (v := (-1)) hx hb dX10_thief_236 (by decide) ?_
                        refine lv_icmp_eq (tgt := 257) hx hb dX10_thief_237 (by decide) (fun c28 => ?_) (fun c28 => ?_)
                        · have hc28 := c28
                          have q28 := q_eq hc28
                          refine lv_iconst (v := (1)) hx hb dX10_thief_257 (by decide) ?_
                          refine lv_goto (tgt := 262) hx hb dX10_thief_258 (by decide) ?_
                          refine lv_istore (lv' := [(5, .int (1)), (6, .int (x6_196)), (4, .int (v12)), (3, .int (x3_37)), (0, .ref (ad (1000))), (1, .int (a0)), (2, .int (a1))]) hx hb dX10_thief_262 hl (by decide) rfl (fun ls hl => ?_)
                          obtain ⟨v29, ev29⟩ : ∃ z : Int32, z = x6_196 + Int32.ofInt (1) := ⟨_, rfl⟩
                          have tv29 := a_inc ev29 (by decide) (by omega) (by omega)
                          refine lv_iinc (v := v29) (lv' := [(6, .int (v29)), (5, .int (1)), (4, .int (v12)), (3, .int (x3_37)), (0, .ref (ad (1000))), (1, .int (a0)), (2, .int (a1))]) hx hb dX10_thief_264 hl (k := 1) rfl ev29.symm (by decide) rfl (fun ls hl => ?_)
                          refine lv_goto (tgt := 196) hx hb dX10_thief_267 (by decide) ?_
                          exact ih196 (v29) (1) Ia196 La196 _ _ ls hI hK (by first | omega | decide) (by first | omega | decide) (by omega) hM hS (lv_sub hl [0, 1, 2, 3, 4, 5, 6] rfl)
                        · have hc28 := c28
                          have q28 := q_ne hc28
                          refine lv_aload_n hx hb dX10_thief_240 rfl (lv_at hl 4 rfl) ?_
                          refine m_getr (1000) 16 (1016) hx hb hts hown hE oc10 hM hJ.1 rfl (by decide) rfl (hJ.2 16 (by decide)).2 (by decide) tb_1193 dX10_thief_241 ?_
                          refine lv_iload hx hb dX10_thief_244 (lv_at hl 0 rfl) ?_
                          refine m_iald (1016) hx hb hE hM (hJ.2 16 (by decide)).1 rfl (vp_in_iff.mpr (by omega)) dX10_thief_246 ?_
                          refine lv_aload_n hx hb dX10_thief_247 rfl (lv_at hl 4 rfl) ?_
                          refine m_getr (1000) 61 (1061) hx hb hts hown hE oc10 hM hJ.1 rfl (by decide) rfl (hJ.2 61 (by decide)).2 (by decide) tb_1238 dX10_thief_248 ?_
                          refine lv_iload hx hb dX10_thief_251 (lv_at hl 0 rfl) ?_
                          refine m_iald (1061) hx hb hE hM (hJ.2 61 (by decide)).1 rfl (vp_in_iff.mpr (by omega)) dX10_thief_253 ?_
                          refine lv_icmp_ne (tgt := 261) hx hb dX10_thief_254 (by decide) (fun c30 => ?_) (fun c30 => ?_)
                          · have hc30 := c30
                            have q30 := q_ne hc30
                            refine lv_iconst (v := (0)) hx hb dX10_thief_261 (by decide) ?_
                            refine lv_istore (lv' := [(5, .int (0)), (6, .int (x6_196)), (4, .int (v12)), (3, .int (x3_37)), (0, .ref (ad (1000))), (1, .int (a0)), (2, .int (a1))]) hx hb dX10_thief_262 hl (by decide) rfl (fun ls hl => ?_)
                            obtain ⟨v31, ev31⟩ : ∃ z : Int32, z = x6_196 + Int32.ofInt (1) := ⟨_, rfl⟩
                            have tv31 := a_inc ev31 (by decide) (by omega) (by omega)
                            refine lv_iinc (v := v31) (lv' := [(6, .int (v31)), (5, .int (0)), (4, .int (v12)), (3, .int (x3_37)), (0, .ref (ad (1000))), (1, .int (a0)), (2, .int (a1))]) hx hb dX10_thief_264 hl (k := 1) rfl ev31.symm (by decide) rfl (fun ls hl => ?_)
                            refine lv_goto (tgt := 196) hx hb dX10_thief_267 (by decide) ?_
                            exact ih196 (v31) (0) Ia196 La196 _ _ ls hI hK (by first | omega | decide) (by first | omega | decide) (by omega) hM hS (lv_sub hl [0, 1, 2, 3, 4, 5, 6] rfl)
                          · have hc30 := c30
                            have q30 := q_eq hc30
                            refine lv_iconst (v := (1)) hx hb dX10_thief_257 (by decide) ?_
                            refine lv_goto (tgt := 262) hx hb dX10_thief_258 (by decide) ?_
                            refine lv_istore (lv' := [(5, .int (1)), (6, .int (x6_196)), (4, .int (v12)), (3, .int (x3_37)), (0, .ref (ad (1000))), (1, .int (a0)), (2, .int (a1))]) hx hb dX10_thief_262 hl (by decide) rfl (fun ls hl => ?_)
                            obtain ⟨v32, ev32⟩ : ∃ z : Int32, z = x6_196 + Int32.ofInt (1) := ⟨_, rfl⟩
                            have tv32 := a_inc ev32 (by decide) (by omega) (by omega)
                            refine lv_iinc (v := v32) (lv' := [(6, .int (v32)), (5, .int (1)), (4, .int (v12)), (3, .int (x3_37)), (0, .ref (ad (1000))), (1, .int (a0)), (2, .int (a1))]) hx hb dX10_thief_264 hl (k := 1) rfl ev32.symm (by decide) rfl (fun ls hl => ?_)
                            refine lv_goto (tgt := 196) hx hb dX10_thief_267 (by decide) ?_
                            exact ih196 (v32) (1) Ia196 La196 _ _ ls hI hK (by first | omega | decide) (by first | omega | decide) (by omega) hM hS (lv_sub hl [0, 1, 2, 3, 4, 5, 6] rfl)
              exact loop196 (_ + 1) (0) (1) (u2 I16 (1000) 57 ((-1 : Int32))) L17 _ _ ls hI hK (by first | omega | decide) (by first | omega | decide) (Nat.lt_succ_self _) hM hS (lv_sub hl [0, 1, 2, 3, 4, 5, 6] rfl)
            · have hc11 := c11
              have q11 := q_eq hc11
              refine lv_iload_n hx hb dX10_thief_138 rfl (lv_at hl 4 rfl) ?_
              refine lv_if_ne (tgt := 147) hx hb dX10_thief_139 (by decide) (fun c33 => ?_) (fun c33 => ?_)
              · have hc33 := c33
                have q33 := q_ne hc33
                refine lv_iconst (v := (0)) hx hb dX10_thief_147 (by decide) ?_
                exact m_iret hx hb hr hlocks hM hS (Nat.le_of_ble_eq_true rfl) (Nat.le_of_ble_eq_true rfl) ⟨_, _, rfl, hI, hK⟩ dX10_thief_148
              · have hc33 := c33
                have q33 := q_eq hc33
                refine lv_bipush (v := (-2)) hx hb dX10_thief_142 (by decide) ?_
                refine lv_goto (tgt := 148) hx hb dX10_thief_144 (by decide) ?_
                exact m_iret hx hb hr hlocks hM hS (Nat.le_of_ble_eq_true rfl) (Nat.le_of_ble_eq_true rfl) ⟨_, _, rfl, hI, hK⟩ dX10_thief_148
          · have hc10 := c10
            have q10 := q_nle hc10
            refine lv_aload_n hx hb dX10_thief_49 rfl (lv_at hl 2 rfl) ?_
            refine m_getr (1000) 62 (1062) hx hb hts hown hE oc10 hM hJ.1 rfl (by decide) rfl (hJ.2 62 (by decide)).2 (by decide) tb_1239 dX10_thief_50 ?_
            refine lv_iload hx hb dX10_thief_53 (lv_at hl 0 rfl) ?_
            refine m_iald (1062) hx hb hE hM (hJ.2 62 (by decide)).1 rfl (vp_in_iff.mpr (by omega)) dX10_thief_55 ?_
            refine lv_if_le (tgt := 91) hx hb dX10_thief_56 (by decide) (fun c34 => ?_) (fun c34 => ?_)
            · have hc34 := c34
              have q34 := q_le hc34
              refine lv_iconst (v := (0)) hx hb dX10_thief_91 (by decide) ?_
              refine lv_istore (lv' := [(5, .int (0)), (4, .int (x4_37)), (3, .int (x3_37)), (0, .ref (ad (1000))), (1, .int (a0)), (2, .int (a1))]) hx hb dX10_thief_92 hl (by decide) rfl (fun ls hl => ?_)
              refine lv_iload hx hb dX10_thief_94 (lv_at hl 0 rfl) ?_
              refine lv_if_eq (tgt := 125) hx hb dX10_thief_96 (by decide) (fun c35 => ?_) (fun c35 => ?_)
              · have hc35 := c35
                have q35 := q_eq hc35
                refine lv_iload_n hx hb dX10_thief_125 rfl (lv_at hl 2 rfl) ?_
                refine lv_istore_n (lv' := [(3, .int (x3_37)), (5, .int (0)), (4, .int (x4_37)), (0, .ref (ad (1000))), (1, .int (a0)), (2, .int (a1))]) hx hb dX10_thief_126 rfl hl (by decide) rfl (fun ls hl => ?_)
                obtain ⟨v36, ev36⟩ : ∃ z : Int32, z = x4_37 + Int32.ofInt (1) := ⟨_, rfl⟩
                have tv36 := a_inc ev36 (by decide) (by omega) (by omega)
                refine lv_iinc (v := v36) (lv' := [(4, .int (v36)), (3, .int (x3_37)), (5, .int (0)), (0, .ref (ad (1000))), (1, .int (a0)), (2, .int (a1))]) hx hb dX10_thief_127 hl (k := 2) rfl ev36.symm (by decide) rfl (fun ls hl => ?_)
                refine lv_goto (tgt := 37) hx hb dX10_thief_130 (by decide) ?_
                exact ih37 (v36) (x3_37) Ia37 La37 _ _ ls hI hK (by first | omega | decide) (by first | omega | decide) (by omega) hM hS (lv_sub hl [0, 1, 3, 4, 5] rfl)
              · exact absurd c35 (by decide)
            · have hc34 := c34
              have q34 := q_nle hc34
              refine lv_aload_n hx hb dX10_thief_59 rfl (lv_at hl 2 rfl) ?_
              refine m_getr (1000) 16 (1016) hx hb hts hown hE oc10 hM hJ.1 rfl (by decide) rfl (hJ.2 16 (by decide)).2 (by decide) tb_1193 dX10_thief_60 ?_
              refine lv_iload hx hb dX10_thief_63 (lv_at hl 0 rfl) ?_
              refine m_iald (1016) hx hb hE hM (hJ.2 16 (by decide)).1 rfl (vp_in_iff.mpr (by omega)) dX10_thief_65 ?_
              refine lv_iconst (v := (-1)) hx hb dX10_thief_66 (by decide) ?_
              refine lv_icmp_eq (tgt := 91) hx hb dX10_thief_67 (by decide) (fun c37 => ?_) (fun c37 => ?_)
              · have hc37 := c37
                have q37 := q_eq hc37
                refine lv_iconst (v := (0)) hx hb dX10_thief_91 (by decide) ?_
                refine lv_istore (lv' := [(5, .int (0)), (4, .int (x4_37)), (3, .int (x3_37)), (0, .ref (ad (1000))), (1, .int (a0)), (2, .int (a1))]) hx hb dX10_thief_92 hl (by decide) rfl (fun ls hl => ?_)
                refine lv_iload hx hb dX10_thief_94 (lv_at hl 0 rfl) ?_
                refine lv_if_eq (tgt := 125) hx hb dX10_thief_96 (by decide) (fun c38 => ?_) (fun c38 => ?_)
                · have hc38 := c38
                  have q38 := q_eq hc38
                  refine lv_iload_n hx hb dX10_thief_125 rfl (lv_at hl 2 rfl) ?_
                  refine lv_istore_n (lv' := [(3, .int (x3_37)), (5, .int (0)), (4, .int (x4_37)), (0, .ref (ad (1000))), (1, .int (a0)), (2, .int (a1))]) hx hb dX10_thief_126 rfl hl (by decide) rfl (fun ls hl => ?_)
                  obtain ⟨v39, ev39⟩ : ∃ z : Int32, z = x4_37 + Int32.ofInt (1) := ⟨_, rfl⟩
                  have tv39 := a_inc ev39 (by decide) (by omega) (by omega)
                  refine lv_iinc (v := v39) (lv' := [(4, .int (v39)), (3, .int (x3_37)), (5, .int (0)), (0, .ref (ad (1000))), (1, .int (a0)), (2, .int (a1))]) hx hb dX10_thief_127 hl (k := 2) rfl ev39.symm (by decide) rfl (fun ls hl => ?_)
                  refine lv_goto (tgt := 37) hx hb dX10_thief_130 (by decide) ?_
                  exact ih37 (v39) (x3_37) Ia37 La37 _ _ ls hI hK (by first | omega | decide) (by first | omega | decide) (by omega) hM hS (lv_sub hl [0, 1, 3, 4, 5] rfl)
                · exact absurd c38 (by decide)
              · have hc37 := c37
                have q37 := q_ne hc37
                refine lv_aload_n hx hb dX10_thief_70 rfl (lv_at hl 2 rfl) ?_
                refine m_getr (1000) 16 (1016) hx hb hts hown hE oc10 hM hJ.1 rfl (by decide) rfl (hJ.2 16 (by decide)).2 (by decide) tb_1193 dX10_thief_71 ?_
                refine lv_iload hx hb dX10_thief_74 (lv_at hl 0 rfl) ?_
                refine m_iald (1016) hx hb hE hM (hJ.2 16 (by decide)).1 rfl (vp_in_iff.mpr (by omega)) dX10_thief_76 ?_
                refine lv_aload_n hx hb dX10_thief_77 rfl (lv_at hl 2 rfl) ?_
                refine m_getr (1000) 61 (1061) hx hb hts hown hE oc10 hM hJ.1 rfl (by decide) rfl (hJ.2 61 (by decide)).2 (by decide) tb_1238 dX10_thief_78 ?_
                refine lv_iload hx hb dX10_thief_81 (lv_at hl 0 rfl) ?_
                refine m_iald (1061) hx hb hE hM (hJ.2 61 (by decide)).1 rfl (vp_in_iff.mpr (by omega)) dX10_thief_83 ?_
                refine lv_icmp_ge (tgt := 91) hx hb dX10_thief_84 (by decide) (fun c40 => ?_) (fun c40 => ?_)
                · have hc40 := c40
                  have q40 := q_le hc40
                  refine lv_iconst (v := (0)) hx hb dX10_thief_91 (by decide) ?_
                  refine lv_istore (lv' := [(5, .int (0)), (4, .int (x4_37)), (3, .int (x3_37)), (0, .ref (ad (1000))), (1, .int (a0)), (2, .int (a1))]) hx hb dX10_thief_92 hl (by decide) rfl (fun ls hl => ?_)
                  refine lv_iload hx hb dX10_thief_94 (lv_at hl 0 rfl) ?_
                  refine lv_if_eq (tgt := 125) hx hb dX10_thief_96 (by decide) (fun c41 => ?_) (fun c41 => ?_)
                  · have hc41 := c41
                    have q41 := q_eq hc41
                    refine lv_iload_n hx hb dX10_thief_125 rfl (lv_at hl 2 rfl) ?_
                    refine lv_istore_n (lv' := [(3, .int (x3_37)), (5, .int (0)), (4, .int (x4_37)), (0, .ref (ad (1000))), (1, .int (a0)), (2, .int (a1))]) hx hb dX10_thief_126 rfl hl (by decide) rfl (fun ls hl => ?_)
                    obtain ⟨v42, ev42⟩ : ∃ z : Int32, z = x4_37 + Int32.ofInt (1) := ⟨_, rfl⟩
                    have tv42 := a_inc ev42 (by decide) (by omega) (by omega)
                    refine lv_iinc (v := v42) (lv' := [(4, .int (v42)), (3, .int (x3_37)), (5, .int (0)), (0, .ref (ad (1000))), (1, .int (a0)), (2, .int (a1))]) hx hb dX10_thief_127 hl (k := 2) rfl ev42.symm (by decide) rfl (fun ls hl => ?_)
                    refine lv_goto (tgt := 37) hx hb dX10_thief_130 (by decide) ?_
                    exact ih37 (v42) (x3_37) Ia37 La37 _ _ ls hI hK (by first | omega | decide) (by first | omega | decide) (by omega) hM hS (lv_sub hl [0, 1, 3, 4, 5] rfl)
                  · exact absurd c41 (by decide)
                · have hc40 := c40
                  have q40 := q_nle hc40
                  refine lv_iconst (v := (1)) hx hb dX10_thief_87 (by decide) ?_
                  refine lv_goto (tgt := 92) hx hb dX10_thief_88 (by decide) ?_
                  refine lv_istore (lv' := [(5, .int (1)), (4, .int (x4_37)), (3, .int (x3_37)), (0, .ref (ad (1000))), (1, .int (a0)), (2, .int (a1))]) hx hb dX10_thief_92 hl (by decide) rfl (fun ls hl => ?_)
                  refine lv_iload hx hb dX10_thief_94 (lv_at hl 0 rfl) ?_
                  refine lv_if_eq (tgt := 125) hx hb dX10_thief_96 (by decide) (fun c43 => ?_) (fun c43 => ?_)
                  · exact absurd c43 (by decide)
                  · have hc43 := c43
                    have q43 := q_ne hc43
                    refine lv_iload_n hx hb dX10_thief_99 rfl (lv_at hl 2 rfl) ?_
                    refine lv_iconst (v := (-1)) hx hb dX10_thief_100 (by decide) ?_
                    refine lv_icmp_eq (tgt := 120) hx hb dX10_thief_101 (by decide) (fun c44 => ?_) (fun c44 => ?_)
                    · have hc44 := c44
                      have q44 := q_eq hc44
                      refine lv_iload hx hb dX10_thief_120 (lv_at hl 1 rfl) ?_
                      refine lv_goto (tgt := 126) hx hb dX10_thief_122 (by decide) ?_
                      refine lv_istore_n (lv' := [(3, .int (x4_37)), (5, .int (1)), (4, .int (x4_37)), (0, .ref (ad (1000))), (1, .int (a0)), (2, .int (a1))]) hx hb dX10_thief_126 rfl hl (by decide) rfl (fun ls hl => ?_)
                      obtain ⟨v45, ev45⟩ : ∃ z : Int32, z = x4_37 + Int32.ofInt (1) := ⟨_, rfl⟩
                      have tv45 := a_inc ev45 (by decide) (by omega) (by omega)
                      refine lv_iinc (v := v45) (lv' := [(4, .int (v45)), (3, .int (x4_37)), (5, .int (1)), (0, .ref (ad (1000))), (1, .int (a0)), (2, .int (a1))]) hx hb dX10_thief_127 hl (k := 2) rfl ev45.symm (by decide) rfl (fun ls hl => ?_)
                      refine lv_goto (tgt := 37) hx hb dX10_thief_130 (by decide) ?_
                      exact ih37 (v45) (x4_37) Ia37 La37 _ _ ls hI hK (by first | omega | decide) (by first | omega | decide) (by omega) hM hS (lv_sub hl [0, 1, 3, 4, 5] rfl)
                    · have hc44 := c44
                      have q44 := q_ne hc44
                      refine lv_aload_n hx hb dX10_thief_104 rfl (lv_at hl 3 rfl) ?_
                      refine m_getr (1000) 62 (1062) hx hb hts hown hE oc10 hM hJ.1 rfl (by decide) rfl (hJ.2 62 (by decide)).2 (by decide) tb_1239 dX10_thief_105 ?_
                      refine lv_iload hx hb dX10_thief_108 (lv_at hl 1 rfl) ?_
                      refine m_iald (1062) hx hb hE hM (hJ.2 62 (by decide)).1 rfl (vp_in_iff.mpr (by omega)) dX10_thief_110 ?_
                      refine lv_aload_n hx hb dX10_thief_111 rfl (lv_at hl 3 rfl) ?_
                      refine m_getr (1000) 62 (1062) hx hb hts hown hE oc10 hM hJ.1 rfl (by decide) rfl (hJ.2 62 (by decide)).2 (by decide) tb_1239 dX10_thief_112 ?_
                      refine lv_iload_n hx hb dX10_thief_115 rfl (lv_at hl 2 rfl) ?_
                      refine m_iald (1062) hx hb hE hM (hJ.2 62 (by decide)).1 rfl (vp_in_iff.mpr (by omega)) dX10_thief_116 ?_
                      refine lv_icmp_ge (tgt := 125) hx hb dX10_thief_117 (by decide) (fun c46 => ?_) (fun c46 => ?_)
                      · have hc46 := c46
                        have q46 := q_le hc46
                        refine lv_iload_n hx hb dX10_thief_125 rfl (lv_at hl 2 rfl) ?_
                        refine lv_istore_n (lv' := [(3, .int (x3_37)), (5, .int (1)), (4, .int (x4_37)), (0, .ref (ad (1000))), (1, .int (a0)), (2, .int (a1))]) hx hb dX10_thief_126 rfl hl (by decide) rfl (fun ls hl => ?_)
                        obtain ⟨v47, ev47⟩ : ∃ z : Int32, z = x4_37 + Int32.ofInt (1) := ⟨_, rfl⟩
                        have tv47 := a_inc ev47 (by decide) (by omega) (by omega)
                        refine lv_iinc (v := v47) (lv' := [(4, .int (v47)), (3, .int (x3_37)), (5, .int (1)), (0, .ref (ad (1000))), (1, .int (a0)), (2, .int (a1))]) hx hb dX10_thief_127 hl (k := 2) rfl ev47.symm (by decide) rfl (fun ls hl => ?_)
                        refine lv_goto (tgt := 37) hx hb dX10_thief_130 (by decide) ?_
                        exact ih37 (v47) (x3_37) Ia37 La37 _ _ ls hI hK (by first | omega | decide) (by first | omega | decide) (by omega) hM hS (lv_sub hl [0, 1, 3, 4, 5] rfl)
                      · have hc46 := c46
                        have q46 := q_nle hc46
                        refine lv_iload hx hb dX10_thief_120 (lv_at hl 1 rfl) ?_
                        refine lv_goto (tgt := 126) hx hb dX10_thief_122 (by decide) ?_
                        refine lv_istore_n (lv' := [(3, .int (x4_37)), (5, .int (1)), (4, .int (x4_37)), (0, .ref (ad (1000))), (1, .int (a0)), (2, .int (a1))]) hx hb dX10_thief_126 rfl hl (by decide) rfl (fun ls hl => ?_)
                        obtain ⟨v48, ev48⟩ : ∃ z : Int32, z = x4_37 + Int32.ofInt (1) := ⟨_, rfl⟩
                        have tv48 := a_inc ev48 (by decide) (by omega) (by omega)
                        refine lv_iinc (v := v48) (lv' := [(4, .int (v48)), (3, .int (x4_37)), (5, .int (1)), (0, .ref (ad (1000))), (1, .int (a0)), (2, .int (a1))]) hx hb dX10_thief_127 hl (k := 2) rfl ev48.symm (by decide) rfl (fun ls hl => ?_)
                        refine lv_goto (tgt := 37) hx hb dX10_thief_130 (by decide) ?_
                        exact ih37 (v48) (x4_37) Ia37 La37 _ _ ls hI hK (by first | omega | decide) (by first | omega | decide) (by omega) hM hS (lv_sub hl [0, 1, 3, 4, 5] rfl)
      exact loop37 (_ + 1) (0) ((-1 : Int32)) I7 L8 _ _ ls hI hK (by first | omega | decide) (by first | omega | decide) (Nat.lt_succ_self _) hM hS (lv_sub hl [0, 1, 2, 3, 4] rfl)
    · have hc5 := c5
      have q5 := xr4.f hc5
      refine lv_iconst (v := (-1)) hx hb dX10_thief_20 (by decide) ?_
      exact m_iret hx hb hr hlocks hM hS (Nat.le_of_ble_eq_true rfl) (Nat.le_of_ble_eq_true rfl) ⟨_, _, rfl, hI, hK⟩ dX10_thief_21
theorem dX10_town_0 : decode cX10_town 0 = .ok (.iload_n 1, 1) := by decide +kernel
theorem dX10_town_1 : decode cX10_town 1 = .ok (.i2l, 1) := by decide +kernel
theorem dX10_town_2 : decode cX10_town 2 = .ok (.ldc2_w 200, 3) := by decide +kernel
theorem dX10_town_5 : decode cX10_town 5 = .ok (.ldc2_w 202, 3) := by decide +kernel
theorem dX10_town_8 : decode cX10_town 8 = .ok (.invokestatic 192, 3) := by decide +kernel
theorem dX10_town_11 : decode cX10_town 11 = .ok (.ifCond .eq 57, 3) := by decide +kernel
theorem dX10_town_14 : decode cX10_town 14 = .ok (.iload_n 2, 1) := by decide +kernel
theorem dX10_town_15 : decode cX10_town 15 = .ok (.i2l, 1) := by decide +kernel
theorem dX10_town_16 : decode cX10_town 16 = .ok (.ldc2_w 200, 3) := by decide +kernel
theorem dX10_town_19 : decode cX10_town 19 = .ok (.ldc2_w 202, 3) := by decide +kernel
theorem dX10_town_22 : decode cX10_town 22 = .ok (.invokestatic 192, 3) := by decide +kernel
theorem dX10_town_25 : decode cX10_town 25 = .ok (.ifCond .eq 43, 3) := by decide +kernel
theorem dX10_town_28 : decode cX10_town 28 = .ok (.iload_n 3, 1) := by decide +kernel
theorem dX10_town_29 : decode cX10_town 29 = .ok (.i2l, 1) := by decide +kernel
theorem dX10_town_30 : decode cX10_town 30 = .ok (.lconst 0, 1) := by decide +kernel
theorem dX10_town_31 : decode cX10_town 31 = .ok (.iload_n 1, 1) := by decide +kernel
theorem dX10_town_32 : decode cX10_town 32 = .ok (.iconst 1, 1) := by decide +kernel
theorem dX10_town_33 : decode cX10_town 33 = .ok (.isub, 1) := by decide +kernel
theorem dX10_town_34 : decode cX10_town 34 = .ok (.i2l, 1) := by decide +kernel
theorem dX10_town_35 : decode cX10_town 35 = .ok (.invokestatic 192, 3) := by decide +kernel
theorem dX10_town_38 : decode cX10_town 38 = .ok (.ifCond .eq 30, 3) := by decide +kernel
theorem dX10_town_41 : decode cX10_town 41 = .ok (.iload 4, 2) := by decide +kernel
theorem dX10_town_43 : decode cX10_town 43 = .ok (.i2l, 1) := by decide +kernel
theorem dX10_town_44 : decode cX10_town 44 = .ok (.lconst 0, 1) := by decide +kernel
theorem dX10_town_45 : decode cX10_town 45 = .ok (.iload_n 2, 1) := by decide +kernel
theorem dX10_town_46 : decode cX10_town 46 = .ok (.iconst 1, 1) := by decide +kernel
theorem dX10_town_47 : decode cX10_town 47 = .ok (.isub, 1) := by decide +kernel
theorem dX10_town_48 : decode cX10_town 48 = .ok (.i2l, 1) := by decide +kernel
theorem dX10_town_49 : decode cX10_town 49 = .ok (.invokestatic 192, 3) := by decide +kernel
theorem dX10_town_52 : decode cX10_town 52 = .ok (.ifCond .eq 16, 3) := by decide +kernel
theorem dX10_town_55 : decode cX10_town 55 = .ok (.iload 5, 2) := by decide +kernel
theorem dX10_town_57 : decode cX10_town 57 = .ok (.i2l, 1) := by decide +kernel
theorem dX10_town_58 : decode cX10_town 58 = .ok (.lconst 0, 1) := by decide +kernel
theorem dX10_town_59 : decode cX10_town 59 = .ok (.ldc2_w 204, 3) := by decide +kernel
theorem dX10_town_62 : decode cX10_town 62 = .ok (.invokestatic 192, 3) := by decide +kernel
theorem dX10_town_65 : decode cX10_town 65 = .ok (.ifCond .ne 5, 3) := by decide +kernel
theorem dX10_town_68 : decode cX10_town 68 = .ok (.iconst 0, 1) := by decide +kernel
theorem dX10_town_69 : decode cX10_town 69 = .ok (.ireturn, 1) := by decide +kernel
theorem dX10_town_70 : decode cX10_town 70 = .ok (.iconst 0, 1) := by decide +kernel
theorem dX10_town_71 : decode cX10_town 71 = .ok (.istore 6, 2) := by decide +kernel
theorem dX10_town_73 : decode cX10_town 73 = .ok (.iload 6, 2) := by decide +kernel
theorem dX10_town_75 : decode cX10_town 75 = .ok (.bipush 10, 2) := by decide +kernel
theorem dX10_town_77 : decode cX10_town 77 = .ok (.if_icmp .ge 17, 3) := by decide +kernel
theorem dX10_town_80 : decode cX10_town 80 = .ok (.aload_n 0, 1) := by decide +kernel
theorem dX10_town_81 : decode cX10_town 81 = .ok (.getfield 7, 3) := by decide +kernel
theorem dX10_town_84 : decode cX10_town 84 = .ok (.iload 6, 2) := by decide +kernel
theorem dX10_town_86 : decode cX10_town 86 = .ok (.iconst 0, 1) := by decide +kernel
theorem dX10_town_87 : decode cX10_town 87 = .ok (.iastore, 1) := by decide +kernel
theorem dX10_town_88 : decode cX10_town 88 = .ok (.iinc 6 1, 3) := by decide +kernel
theorem dX10_town_91 : decode cX10_town 91 = .ok (.goto (-18), 3) := by decide +kernel
theorem dX10_town_94 : decode cX10_town 94 = .ok (.aload_n 0, 1) := by decide +kernel
theorem dX10_town_95 : decode cX10_town 95 = .ok (.getfield 7, 3) := by decide +kernel
theorem dX10_town_98 : decode cX10_town 98 = .ok (.iconst 0, 1) := by decide +kernel
theorem dX10_town_99 : decode cX10_town 99 = .ok (.iconst 1, 1) := by decide +kernel
theorem dX10_town_100 : decode cX10_town 100 = .ok (.iastore, 1) := by decide +kernel
theorem dX10_town_101 : decode cX10_town 101 = .ok (.aload_n 0, 1) := by decide +kernel
theorem dX10_town_102 : decode cX10_town 102 = .ok (.getfield 7, 3) := by decide +kernel
theorem dX10_town_105 : decode cX10_town 105 = .ok (.iconst 1, 1) := by decide +kernel
theorem dX10_town_106 : decode cX10_town 106 = .ok (.iload_n 1, 1) := by decide +kernel
theorem dX10_town_107 : decode cX10_town 107 = .ok (.iastore, 1) := by decide +kernel
theorem dX10_town_108 : decode cX10_town 108 = .ok (.aload_n 0, 1) := by decide +kernel
theorem dX10_town_109 : decode cX10_town 109 = .ok (.getfield 7, 3) := by decide +kernel
theorem dX10_town_112 : decode cX10_town 112 = .ok (.iconst 2, 1) := by decide +kernel
theorem dX10_town_113 : decode cX10_town 113 = .ok (.iload_n 2, 1) := by decide +kernel
theorem dX10_town_114 : decode cX10_town 114 = .ok (.iastore, 1) := by decide +kernel
theorem dX10_town_115 : decode cX10_town 115 = .ok (.aload_n 0, 1) := by decide +kernel
theorem dX10_town_116 : decode cX10_town 116 = .ok (.getfield 7, 3) := by decide +kernel
theorem dX10_town_119 : decode cX10_town 119 = .ok (.iconst 3, 1) := by decide +kernel
theorem dX10_town_120 : decode cX10_town 120 = .ok (.bipush 24, 2) := by decide +kernel
theorem dX10_town_122 : decode cX10_town 122 = .ok (.iload 4, 2) := by decide +kernel
theorem dX10_town_124 : decode cX10_town 124 = .ok (.imul, 1) := by decide +kernel
theorem dX10_town_125 : decode cX10_town 125 = .ok (.iload_n 3, 1) := by decide +kernel
theorem dX10_town_126 : decode cX10_town 126 = .ok (.iadd, 1) := by decide +kernel
theorem dX10_town_127 : decode cX10_town 127 = .ok (.iastore, 1) := by decide +kernel
theorem dX10_town_128 : decode cX10_town 128 = .ok (.aload_n 0, 1) := by decide +kernel
theorem dX10_town_129 : decode cX10_town 129 = .ok (.getfield 7, 3) := by decide +kernel
theorem dX10_town_132 : decode cX10_town 132 = .ok (.iconst 4, 1) := by decide +kernel
theorem dX10_town_133 : decode cX10_town 133 = .ok (.iload 5, 2) := by decide +kernel
theorem dX10_town_135 : decode cX10_town 135 = .ok (.iastore, 1) := by decide +kernel
theorem dX10_town_136 : decode cX10_town 136 = .ok (.iconst 0, 1) := by decide +kernel
theorem dX10_town_137 : decode cX10_town 137 = .ok (.istore 6, 2) := by decide +kernel
theorem dX10_town_139 : decode cX10_town 139 = .ok (.iload 6, 2) := by decide +kernel
theorem dX10_town_141 : decode cX10_town 141 = .ok (.sipush 576, 3) := by decide +kernel
theorem dX10_town_144 : decode cX10_town 144 = .ok (.if_icmp .ge 33, 3) := by decide +kernel
theorem dX10_town_147 : decode cX10_town 147 = .ok (.aload_n 0, 1) := by decide +kernel
theorem dX10_town_148 : decode cX10_town 148 = .ok (.getfield 13, 3) := by decide +kernel
theorem dX10_town_151 : decode cX10_town 151 = .ok (.iload 6, 2) := by decide +kernel
theorem dX10_town_153 : decode cX10_town 153 = .ok (.iconst 0, 1) := by decide +kernel
theorem dX10_town_154 : decode cX10_town 154 = .ok (.iastore, 1) := by decide +kernel
theorem dX10_town_155 : decode cX10_town 155 = .ok (.aload_n 0, 1) := by decide +kernel
theorem dX10_town_156 : decode cX10_town 156 = .ok (.getfield 16, 3) := by decide +kernel
theorem dX10_town_159 : decode cX10_town 159 = .ok (.iload 6, 2) := by decide +kernel
theorem dX10_town_161 : decode cX10_town 161 = .ok (.iconst (-1), 1) := by decide +kernel
theorem dX10_town_162 : decode cX10_town 162 = .ok (.iastore, 1) := by decide +kernel
theorem dX10_town_163 : decode cX10_town 163 = .ok (.aload_n 0, 1) := by decide +kernel
theorem dX10_town_164 : decode cX10_town 164 = .ok (.getfield 25, 3) := by decide +kernel
theorem dX10_town_167 : decode cX10_town 167 = .ok (.iload 6, 2) := by decide +kernel
theorem dX10_town_169 : decode cX10_town 169 = .ok (.iconst (-1), 1) := by decide +kernel
theorem dX10_town_170 : decode cX10_town 170 = .ok (.iastore, 1) := by decide +kernel
theorem dX10_town_171 : decode cX10_town 171 = .ok (.iinc 6 1, 3) := by decide +kernel
theorem dX10_town_174 : decode cX10_town 174 = .ok (.goto (-35), 3) := by decide +kernel
theorem dX10_town_177 : decode cX10_town 177 = .ok (.iconst 0, 1) := by decide +kernel
theorem dX10_town_178 : decode cX10_town 178 = .ok (.istore 6, 2) := by decide +kernel
theorem dX10_town_180 : decode cX10_town 180 = .ok (.iload 6, 2) := by decide +kernel
theorem dX10_town_182 : decode cX10_town 182 = .ok (.sipush 288, 3) := by decide +kernel
theorem dX10_town_185 : decode cX10_town 185 = .ok (.if_icmp .ge 25, 3) := by decide +kernel
theorem dX10_town_188 : decode cX10_town 188 = .ok (.aload_n 0, 1) := by decide +kernel
theorem dX10_town_189 : decode cX10_town 189 = .ok (.getfield 19, 3) := by decide +kernel
theorem dX10_town_192 : decode cX10_town 192 = .ok (.iload 6, 2) := by decide +kernel
theorem dX10_town_194 : decode cX10_town 194 = .ok (.iconst (-1), 1) := by decide +kernel
theorem dX10_town_195 : decode cX10_town 195 = .ok (.iastore, 1) := by decide +kernel
theorem dX10_town_196 : decode cX10_town 196 = .ok (.aload_n 0, 1) := by decide +kernel
theorem dX10_town_197 : decode cX10_town 197 = .ok (.getfield 22, 3) := by decide +kernel
theorem dX10_town_200 : decode cX10_town 200 = .ok (.iload 6, 2) := by decide +kernel
theorem dX10_town_202 : decode cX10_town 202 = .ok (.iconst 0, 1) := by decide +kernel
theorem dX10_town_203 : decode cX10_town 203 = .ok (.iastore, 1) := by decide +kernel
theorem dX10_town_204 : decode cX10_town 204 = .ok (.iinc 6 1, 3) := by decide +kernel
theorem dX10_town_207 : decode cX10_town 207 = .ok (.goto (-27), 3) := by decide +kernel
theorem dX10_town_210 : decode cX10_town 210 = .ok (.iconst 1, 1) := by decide +kernel
theorem dX10_town_211 : decode cX10_town 211 = .ok (.ireturn, 1) := by decide +kernel
theorem ce_X10_town : CeV RX10 yX10_town cX10_town 7 (some .boolean) 5 := ⟨tb_1420, tb_1421, tb_11, tb_1422, rfl, by decide, by decide, by decide +kernel⟩
