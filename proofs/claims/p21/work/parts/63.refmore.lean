theorem INV.putx {I : MI} (h : INV I) {n k : Nat} {v : Int32} (hz : (rg n k).1 ≤ v.toInt ∧ v.toInt ≤ (rg n k).2) : INV (u2 I n k v) := h.put rfl hz
theorem rg_1001 (k : Nat) : (rg 1001 k).1 ≤ (0 : Int32).toInt ∧ (0 : Int32).toInt ≤ (rg 1001 k).2 := by
  show (rgM_1 k).1 ≤ (0 : Int32).toInt ∧ (0 : Int32).toInt ≤ (rgM_1 k).2
  unfold rgM_1
  split <;> decide
theorem dX10_both_0 : decode cX10_both 0 = .ok (.iload_n 0, 1) := by decide +kernel
theorem dX10_both_1 : decode cX10_both 1 = .ok (.tableswitch 172 2 14 #[67, 71, 93, 108, 123, 138, 153, 172, 168, 172, 172, 75, 79], 67) := by decide +kernel
theorem dX10_both_68 : decode cX10_both 68 = .ok (.lload_n 1, 1) := by decide +kernel
theorem dX10_both_69 : decode cX10_both 69 = .ok (.lload_n 3, 1) := by decide +kernel
theorem dX10_both_70 : decode cX10_both 70 = .ok (.ladd, 1) := by decide +kernel
theorem dX10_both_71 : decode cX10_both 71 = .ok (.lreturn, 1) := by decide +kernel
theorem dX10_both_72 : decode cX10_both 72 = .ok (.lload_n 1, 1) := by decide +kernel
theorem dX10_both_73 : decode cX10_both 73 = .ok (.lload_n 3, 1) := by decide +kernel
theorem dX10_both_74 : decode cX10_both 74 = .ok (.lsub, 1) := by decide +kernel
theorem dX10_both_75 : decode cX10_both 75 = .ok (.lreturn, 1) := by decide +kernel
theorem dX10_both_76 : decode cX10_both 76 = .ok (.lload_n 1, 1) := by decide +kernel
theorem dX10_both_77 : decode cX10_both 77 = .ok (.lload_n 3, 1) := by decide +kernel
theorem dX10_both_78 : decode cX10_both 78 = .ok (.lmul, 1) := by decide +kernel
theorem dX10_both_79 : decode cX10_both 79 = .ok (.lreturn, 1) := by decide +kernel
theorem dX10_both_80 : decode cX10_both 80 = .ok (.lload_n 3, 1) := by decide +kernel
theorem dX10_both_81 : decode cX10_both 81 = .ok (.lconst 0, 1) := by decide +kernel
theorem dX10_both_82 : decode cX10_both 82 = .ok (.lcmp, 1) := by decide +kernel
theorem dX10_both_83 : decode cX10_both 83 = .ok (.ifCond .ne 7, 3) := by decide +kernel
theorem dX10_both_86 : decode cX10_both 86 = .ok (.lconst 0, 1) := by decide +kernel
theorem dX10_both_87 : decode cX10_both 87 = .ok (.goto 6, 3) := by decide +kernel
theorem dX10_both_90 : decode cX10_both 90 = .ok (.lload_n 1, 1) := by decide +kernel
theorem dX10_both_91 : decode cX10_both 91 = .ok (.lload_n 3, 1) := by decide +kernel
theorem dX10_both_92 : decode cX10_both 92 = .ok (.ldiv, 1) := by decide +kernel
theorem dX10_both_93 : decode cX10_both 93 = .ok (.lreturn, 1) := by decide +kernel
theorem dX10_both_94 : decode cX10_both 94 = .ok (.lload_n 1, 1) := by decide +kernel
theorem dX10_both_95 : decode cX10_both 95 = .ok (.lload_n 3, 1) := by decide +kernel
theorem dX10_both_96 : decode cX10_both 96 = .ok (.lcmp, 1) := by decide +kernel
theorem dX10_both_97 : decode cX10_both 97 = .ok (.ifCond .ge 7, 3) := by decide +kernel
theorem dX10_both_100 : decode cX10_both 100 = .ok (.iconst 1, 1) := by decide +kernel
theorem dX10_both_101 : decode cX10_both 101 = .ok (.goto 4, 3) := by decide +kernel
theorem dX10_both_104 : decode cX10_both 104 = .ok (.iconst 0, 1) := by decide +kernel
theorem dX10_both_105 : decode cX10_both 105 = .ok (.invokestatic 377, 3) := by decide +kernel
theorem dX10_both_108 : decode cX10_both 108 = .ok (.lreturn, 1) := by decide +kernel
theorem dX10_both_109 : decode cX10_both 109 = .ok (.lload_n 1, 1) := by decide +kernel
theorem dX10_both_110 : decode cX10_both 110 = .ok (.lload_n 3, 1) := by decide +kernel
theorem dX10_both_111 : decode cX10_both 111 = .ok (.lcmp, 1) := by decide +kernel
theorem dX10_both_112 : decode cX10_both 112 = .ok (.ifCond .gt 7, 3) := by decide +kernel
theorem dX10_both_115 : decode cX10_both 115 = .ok (.iconst 1, 1) := by decide +kernel
theorem dX10_both_116 : decode cX10_both 116 = .ok (.goto 4, 3) := by decide +kernel
theorem dX10_both_119 : decode cX10_both 119 = .ok (.iconst 0, 1) := by decide +kernel
theorem dX10_both_120 : decode cX10_both 120 = .ok (.invokestatic 377, 3) := by decide +kernel
theorem dX10_both_123 : decode cX10_both 123 = .ok (.lreturn, 1) := by decide +kernel
theorem dX10_both_124 : decode cX10_both 124 = .ok (.lload_n 1, 1) := by decide +kernel
theorem dX10_both_125 : decode cX10_both 125 = .ok (.lload_n 3, 1) := by decide +kernel
theorem dX10_both_126 : decode cX10_both 126 = .ok (.lcmp, 1) := by decide +kernel
theorem dX10_both_127 : decode cX10_both 127 = .ok (.ifCond .ne 7, 3) := by decide +kernel
theorem dX10_both_130 : decode cX10_both 130 = .ok (.iconst 1, 1) := by decide +kernel
theorem dX10_both_131 : decode cX10_both 131 = .ok (.goto 4, 3) := by decide +kernel
theorem dX10_both_134 : decode cX10_both 134 = .ok (.iconst 0, 1) := by decide +kernel
theorem dX10_both_135 : decode cX10_both 135 = .ok (.invokestatic 377, 3) := by decide +kernel
theorem dX10_both_138 : decode cX10_both 138 = .ok (.lreturn, 1) := by decide +kernel
theorem dX10_both_139 : decode cX10_both 139 = .ok (.lload_n 1, 1) := by decide +kernel
theorem dX10_both_140 : decode cX10_both 140 = .ok (.lload_n 3, 1) := by decide +kernel
theorem dX10_both_141 : decode cX10_both 141 = .ok (.lcmp, 1) := by decide +kernel
theorem dX10_both_142 : decode cX10_both 142 = .ok (.ifCond .lt 7, 3) := by decide +kernel
theorem dX10_both_145 : decode cX10_both 145 = .ok (.iconst 1, 1) := by decide +kernel
theorem dX10_both_146 : decode cX10_both 146 = .ok (.goto 4, 3) := by decide +kernel
theorem dX10_both_149 : decode cX10_both 149 = .ok (.iconst 0, 1) := by decide +kernel
theorem dX10_both_150 : decode cX10_both 150 = .ok (.invokestatic 377, 3) := by decide +kernel
theorem dX10_both_153 : decode cX10_both 153 = .ok (.lreturn, 1) := by decide +kernel
theorem dX10_both_154 : decode cX10_both 154 = .ok (.lload_n 1, 1) := by decide +kernel
theorem dX10_both_155 : decode cX10_both 155 = .ok (.lload_n 3, 1) := by decide +kernel
theorem dX10_both_156 : decode cX10_both 156 = .ok (.lcmp, 1) := by decide +kernel
theorem dX10_both_157 : decode cX10_both 157 = .ok (.ifCond .le 7, 3) := by decide +kernel
theorem dX10_both_160 : decode cX10_both 160 = .ok (.iconst 1, 1) := by decide +kernel
theorem dX10_both_161 : decode cX10_both 161 = .ok (.goto 4, 3) := by decide +kernel
theorem dX10_both_164 : decode cX10_both 164 = .ok (.iconst 0, 1) := by decide +kernel
theorem dX10_both_165 : decode cX10_both 165 = .ok (.invokestatic 377, 3) := by decide +kernel
theorem dX10_both_168 : decode cX10_both 168 = .ok (.lreturn, 1) := by decide +kernel
theorem dX10_both_169 : decode cX10_both 169 = .ok (.lload_n 1, 1) := by decide +kernel
theorem dX10_both_170 : decode cX10_both 170 = .ok (.lload_n 3, 1) := by decide +kernel
theorem dX10_both_171 : decode cX10_both 171 = .ok (.land, 1) := by decide +kernel
theorem dX10_both_172 : decode cX10_both 172 = .ok (.lreturn, 1) := by decide +kernel
theorem dX10_both_173 : decode cX10_both 173 = .ok (.lload_n 1, 1) := by decide +kernel
theorem dX10_both_174 : decode cX10_both 174 = .ok (.lload_n 3, 1) := by decide +kernel
theorem dX10_both_175 : decode cX10_both 175 = .ok (.lor, 1) := by decide +kernel
theorem dX10_both_176 : decode cX10_both 176 = .ok (.lreturn, 1) := by decide +kernel
theorem ce_X10_both : CeS yX10_both cX10_both 5 (some .long) 3 := ⟨tb_1635, tb_11, tb_1636, by decide, by decide, by decide +kernel⟩
set_option maxHeartbeats 4000000 in
set_option maxRecDepth 20000 in
theorem V_X10_both (l : Launch) (D : va_G) (A : Nat → Prop) (ad : Nat → Nat) (ns : List Nat) (I : MI) (L : ML) (G : MG) (a0 : Int32) (a1 : Int64) (a2 : Int64) (hI : INV I) : Met l yX10_both (wd yX10_both cX10_both 5 (some .long)) ({ frames := 1, cells := 0, slots := 0, locals := 20 }) (va_Pc [.int a0, .long a1, .long a2] (PM D A ad ns I L G)) (va_Ql (fun r u => u = (ad, ns, I, L, G) ∧ (True)) (BM D A) A) 0 0 A := by
  refine m_ofW (by decide) (Nat.le_of_ble_eq_true rfl) ?_
  intro p e s m below meth c ls args hC hE hM hA hS hl
  obtain ⟨hx, hb, hml, hown, hts, hr, hlocks, hin⟩ := hC
  have k0 : (0 : Int32).toInt = 0 := by decide
  have k1 : (1 : Int32).toInt = 1 := by decide
  have kl0 : (0 : Int64).toInt = 0 := by decide
  have hl : lv_has ls 5 [(0, .int (a0)), (1, .long (a1)), (3, .long (a2))] := hl
  refine lv_iload_n hx hb dX10_both_0 rfl (lv_at hl 0 rfl) ?_
  by_cases c1 : (a0).toInt < 2 ∨ 14 < (a0).toInt
  · refine lv_tableOut (tgt := 173) hx hb dX10_both_1 c1 (by decide) ?_
    refine lv_lload_n hx hb dX10_both_173 rfl (lv_at hl 1 rfl) ?_
    refine lv_lload_n hx hb dX10_both_174 rfl (lv_at hl 2 rfl) ?_
    refine lv_lor hx hb dX10_both_175 ?_
    refine lv_topl (fun v2 ev2 => ?_)
    exact m_lret hx hb hr hlocks hM hS (Nat.le_of_ble_eq_true rfl) (Nat.le_of_ble_eq_true rfl) ⟨rfl, trivial⟩ dX10_both_176
  · have qc1 : (a0).toInt = 2 ∨ (a0).toInt = 3 ∨ (a0).toInt = 4 ∨ (a0).toInt = 5 ∨ (a0).toInt = 6 ∨ (a0).toInt = 7 ∨ (a0).toInt = 8 ∨ (a0).toInt = 9 ∨ (a0).toInt = 10 ∨ (a0).toInt = 11 ∨ (a0).toInt = 12 ∨ (a0).toInt = 13 ∨ (a0).toInt = 14 := by omega
    rcases qc1 with qc1 | qc1 | qc1 | qc1 | qc1 | qc1 | qc1 | qc1 | qc1 | qc1 | qc1 | qc1 | qc1
    · refine lv_tableIn (off := 67) (tgt := 68) hx hb dX10_both_1 (by omega) (by omega) (by rw [qc1]; rfl) (by decide) ?_
      refine lv_lload_n hx hb dX10_both_68 rfl (lv_at hl 1 rfl) ?_
      refine lv_lload_n hx hb dX10_both_69 rfl (lv_at hl 2 rfl) ?_
      refine lv_ladd hx hb dX10_both_70 ?_
      refine lv_topl (fun v3 ev3 => ?_)
      exact m_lret hx hb hr hlocks hM hS (Nat.le_of_ble_eq_true rfl) (Nat.le_of_ble_eq_true rfl) ⟨rfl, trivial⟩ dX10_both_71
    · refine lv_tableIn (off := 71) (tgt := 72) hx hb dX10_both_1 (by omega) (by omega) (by rw [qc1]; rfl) (by decide) ?_
      refine lv_lload_n hx hb dX10_both_72 rfl (lv_at hl 1 rfl) ?_
      refine lv_lload_n hx hb dX10_both_73 rfl (lv_at hl 2 rfl) ?_
      refine lv_lsub hx hb dX10_both_74 ?_
      refine lv_topl (fun v4 ev4 => ?_)
      exact m_lret hx hb hr hlocks hM hS (Nat.le_of_ble_eq_true rfl) (Nat.le_of_ble_eq_true rfl) ⟨rfl, trivial⟩ dX10_both_75
    · refine lv_tableIn (off := 93) (tgt := 94) hx hb dX10_both_1 (by omega) (by omega) (by rw [qc1]; rfl) (by decide) ?_
      refine lv_lload_n hx hb dX10_both_94 rfl (lv_at hl 1 rfl) ?_
      refine lv_lload_n hx hb dX10_both_95 rfl (lv_at hl 2 rfl) ?_
      refine W.lcmp hx hb dX10_both_96 ?_
      refine lv_if_ge (tgt := 104) hx hb dX10_both_97 (by decide) (fun c5 => ?_) (fun c5 => ?_)
      · have hc5 := c5
        have q5 := l_ge hc5
        refine lv_iconst (v := (0)) hx hb dX10_both_104 (by decide) ?_
        refine m_calll (m_runS (As := [.int (0)]) (rest := []) hx hb hml hown hts hE hM hS hA ce_X10_truth tb_1637 (V_X10_truth l D A ad ns I L G (0) hI (by first | omega | decide)) rfl rfl ⟨Nat.le_of_ble_eq_true rfl, Nat.le_of_ble_eq_true rfl⟩  rfl hl.1 rfl (Nat.le_of_ble_eq_true rfl) dX10_both_105 ⟨Nat.le_of_ble_eq_true rfl, Nat.le_of_ble_eq_true rfl⟩) hS (fun r6 u H locs hw hM hS => ?_)
        obtain ⟨rfl, xr6⟩ := hw
        have hM : Mem D A ad ns I L G H := hM
        exact m_lret hx hb hr hlocks hM hS (Nat.le_of_ble_eq_true rfl) (Nat.le_of_ble_eq_true rfl) ⟨rfl, trivial⟩ dX10_both_108
      · have hc5 := c5
        have q5 := l_nge hc5
        refine lv_iconst (v := (1)) hx hb dX10_both_100 (by decide) ?_
        refine lv_goto (tgt := 105) hx hb dX10_both_101 (by decide) ?_
        refine m_calll (m_runS (As := [.int (1)]) (rest := []) hx hb hml hown hts hE hM hS hA ce_X10_truth tb_1637 (V_X10_truth l D A ad ns I L G (1) hI (by first | omega | decide)) rfl rfl ⟨Nat.le_of_ble_eq_true rfl, Nat.le_of_ble_eq_true rfl⟩  rfl hl.1 rfl (Nat.le_of_ble_eq_true rfl) dX10_both_105 ⟨Nat.le_of_ble_eq_true rfl, Nat.le_of_ble_eq_true rfl⟩) hS (fun r7 u H locs hw hM hS => ?_)
        obtain ⟨rfl, xr7⟩ := hw
        have hM : Mem D A ad ns I L G H := hM
        exact m_lret hx hb hr hlocks hM hS (Nat.le_of_ble_eq_true rfl) (Nat.le_of_ble_eq_true rfl) ⟨rfl, trivial⟩ dX10_both_108
    · refine lv_tableIn (off := 108) (tgt := 109) hx hb dX10_both_1 (by omega) (by omega) (by rw [qc1]; rfl) (by decide) ?_
      refine lv_lload_n hx hb dX10_both_109 rfl (lv_at hl 1 rfl) ?_
      refine lv_lload_n hx hb dX10_both_110 rfl (lv_at hl 2 rfl) ?_
      refine W.lcmp hx hb dX10_both_111 ?_
      refine lv_if_gt (tgt := 119) hx hb dX10_both_112 (by decide) (fun c8 => ?_) (fun c8 => ?_)
      · have hc8 := c8
        have q8 := l_gt hc8
        refine lv_iconst (v := (0)) hx hb dX10_both_119 (by decide) ?_
        refine m_calll (m_runS (As := [.int (0)]) (rest := []) hx hb hml hown hts hE hM hS hA ce_X10_truth tb_1637 (V_X10_truth l D A ad ns I L G (0) hI (by first | omega | decide)) rfl rfl ⟨Nat.le_of_ble_eq_true rfl, Nat.le_of_ble_eq_true rfl⟩  rfl hl.1 rfl (Nat.le_of_ble_eq_true rfl) dX10_both_120 ⟨Nat.le_of_ble_eq_true rfl, Nat.le_of_ble_eq_true rfl⟩) hS (fun r9 u H locs hw hM hS => ?_)
        obtain ⟨rfl, xr9⟩ := hw
        have hM : Mem D A ad ns I L G H := hM
        exact m_lret hx hb hr hlocks hM hS (Nat.le_of_ble_eq_true rfl) (Nat.le_of_ble_eq_true rfl) ⟨rfl, trivial⟩ dX10_both_123
      · have hc8 := c8
        have q8 := l_ngt hc8
        refine lv_iconst (v := (1)) hx hb dX10_both_115 (by decide) ?_
        refine lv_goto (tgt := 120) hx hb dX10_both_116 (by decide) ?_
        refine m_calll (m_runS (As := [.int (1)]) (rest := []) hx hb hml hown hts hE hM hS hA ce_X10_truth tb_1637 (V_X10_truth l D A ad ns I L G (1) hI (by first | omega | decide)) rfl rfl ⟨Nat.le_of_ble_eq_true rfl, Nat.le_of_ble_eq_true rfl⟩  rfl hl.1 rfl (Nat.le_of_ble_eq_true rfl) dX10_both_120 ⟨Nat.le_of_ble_eq_true rfl, Nat.le_of_ble_eq_true rfl⟩) hS (fun r10 u H locs hw hM hS => ?_)
        obtain ⟨rfl, xr10⟩ := hw
        have hM : Mem D A ad ns I L G H := hM
        exact m_lret hx hb hr hlocks hM hS (Nat.le_of_ble_eq_true rfl) (Nat.le_of_ble_eq_true rfl) ⟨rfl, trivial⟩ dX10_both_123
    · refine lv_tableIn (off := 123) (tgt := 124) hx hb dX10_both_1 (by omega) (by omega) (by rw [qc1]; rfl) (by decide) ?_
      refine lv_lload_n hx hb dX10_both_124 rfl (lv_at hl 1 rfl) ?_
      refine lv_lload_n hx hb dX10_both_125 rfl (lv_at hl 2 rfl) ?_
      refine W.lcmp hx hb dX10_both_126 ?_
      refine lv_if_ne (tgt := 134) hx hb dX10_both_127 (by decide) (fun c11 => ?_) (fun c11 => ?_)
      · have hc11 := c11
        have q11 := l_ne hc11
        refine lv_iconst (v := (0)) hx hb dX10_both_134 (by decide) ?_
        refine m_calll (m_runS (As := [.int (0)]) (rest := []) hx hb hml hown hts hE hM hS hA ce_X10_truth tb_1637 (V_X10_truth l D A ad ns I L G (0) hI (by first | omega | decide)) rfl rfl ⟨Nat.le_of_ble_eq_true rfl, Nat.le_of_ble_eq_true rfl⟩  rfl hl.1 rfl (Nat.le_of_ble_eq_true rfl) dX10_both_135 ⟨Nat.le_of_ble_eq_true rfl, Nat.le_of_ble_eq_true rfl⟩) hS (fun r12 u H locs hw hM hS => ?_)
        obtain ⟨rfl, xr12⟩ := hw
        have hM : Mem D A ad ns I L G H := hM
        exact m_lret hx hb hr hlocks hM hS (Nat.le_of_ble_eq_true rfl) (Nat.le_of_ble_eq_true rfl) ⟨rfl, trivial⟩ dX10_both_138
      · have hc11 := c11
        have q11 := l_eq hc11
        refine lv_iconst (v := (1)) hx hb dX10_both_130 (by decide) ?_
        refine lv_goto (tgt := 135) hx hb dX10_both_131 (by decide) ?_
        refine m_calll (m_runS (As := [.int (1)]) (rest := []) hx hb hml hown hts hE hM hS hA ce_X10_truth tb_1637 (V_X10_truth l D A ad ns I L G (1) hI (by first | omega | decide)) rfl rfl ⟨Nat.le_of_ble_eq_true rfl, Nat.le_of_ble_eq_true rfl⟩  rfl hl.1 rfl (Nat.le_of_ble_eq_true rfl) dX10_both_135 ⟨Nat.le_of_ble_eq_true rfl, Nat.le_of_ble_eq_true rfl⟩) hS (fun r13 u H locs hw hM hS => ?_)
        obtain ⟨rfl, xr13⟩ := hw
        have hM : Mem D A ad ns I L G H := hM
        exact m_lret hx hb hr hlocks hM hS (Nat.le_of_ble_eq_true rfl) (Nat.le_of_ble_eq_true rfl) ⟨rfl, trivial⟩ dX10_both_138
    · refine lv_tableIn (off := 138) (tgt := 139) hx hb dX10_both_1 (by omega) (by omega) (by rw [qc1]; rfl) (by decide) ?_
      refine lv_lload_n hx hb dX10_both_139 rfl (lv_at hl 1 rfl) ?_
      refine lv_lload_n hx hb dX10_both_140 rfl (lv_at hl 2 rfl) ?_
      refine W.lcmp hx hb dX10_both_141 ?_
      refine lv_if_lt (tgt := 149) hx hb dX10_both_142 (by decide) (fun c14 => ?_) (fun c14 => ?_)
      · have hc14 := c14
        have q14 := l_lt hc14
        refine lv_iconst (v := (0)) hx hb dX10_both_149 (by decide) ?_
        refine m_calll (m_runS (As := [.int (0)]) (rest := []) hx hb hml hown hts hE hM hS hA ce_X10_truth tb_1637 (V_X10_truth l D A ad ns I L G (0) hI (by first | omega | decide)) rfl rfl ⟨Nat.le_of_ble_eq_true rfl, Nat.le_of_ble_eq_true rfl⟩  rfl hl.1 rfl (Nat.le_of_ble_eq_true rfl) dX10_both_150 ⟨Nat.le_of_ble_eq_true rfl, Nat.le_of_ble_eq_true rfl⟩) hS (fun r15 u H locs hw hM hS => ?_)
        obtain ⟨rfl, xr15⟩ := hw
        have hM : Mem D A ad ns I L G H := hM
        exact m_lret hx hb hr hlocks hM hS (Nat.le_of_ble_eq_true rfl) (Nat.le_of_ble_eq_true rfl) ⟨rfl, trivial⟩ dX10_both_153
      · have hc14 := c14
        have q14 := l_nlt hc14
        refine lv_iconst (v := (1)) hx hb dX10_both_145 (by decide) ?_
        refine lv_goto (tgt := 150) hx hb dX10_both_146 (by decide) ?_
        refine m_calll (m_runS (As := [.int (1)]) (rest := []) hx hb hml hown hts hE hM hS hA ce_X10_truth tb_1637 (V_X10_truth l D A ad ns I L G (1) hI (by first | omega | decide)) rfl rfl ⟨Nat.le_of_ble_eq_true rfl, Nat.le_of_ble_eq_true rfl⟩  rfl hl.1 rfl (Nat.le_of_ble_eq_true rfl) dX10_both_150 ⟨Nat.le_of_ble_eq_true rfl, Nat.le_of_ble_eq_true rfl⟩) hS (fun r16 u H locs hw hM hS => ?_)
        obtain ⟨rfl, xr16⟩ := hw
        have hM : Mem D A ad ns I L G H := hM
        exact m_lret hx hb hr hlocks hM hS (Nat.le_of_ble_eq_true rfl) (Nat.le_of_ble_eq_true rfl) ⟨rfl, trivial⟩ dX10_both_153
    · refine lv_tableIn (off := 153) (tgt := 154) hx hb dX10_both_1 (by omega) (by omega) (by rw [qc1]; rfl) (by decide) ?_
      refine lv_lload_n hx hb dX10_both_154 rfl (lv_at hl 1 rfl) ?_
      refine lv_lload_n hx hb dX10_both_155 rfl (lv_at hl 2 rfl) ?_
      refine W.lcmp hx hb dX10_both_156 ?_
      refine lv_if_le (tgt := 164) hx hb dX10_both_157 (by decide) (fun c17 => ?_) (fun c17 => ?_)
      · have hc17 := c17
        have q17 := l_le hc17
        refine lv_iconst (v := (0)) hx hb dX10_both_164 (by decide) ?_
        refine m_calll (m_runS (As := [.int (0)]) (rest := []) hx hb hml hown hts hE hM hS hA ce_X10_truth tb_1637 (V_X10_truth l D A ad ns I L G (0) hI (by first | omega | decide)) rfl rfl ⟨Nat.le_of_ble_eq_true rfl, Nat.le_of_ble_eq_true rfl⟩  rfl hl.1 rfl (Nat.le_of_ble_eq_true rfl) dX10_both_165 ⟨Nat.le_of_ble_eq_true rfl, Nat.le_of_ble_eq_true rfl⟩) hS (fun r18 u H locs hw hM hS => ?_)
        obtain ⟨rfl, xr18⟩ := hw
        have hM : Mem D A ad ns I L G H := hM
        exact m_lret hx hb hr hlocks hM hS (Nat.le_of_ble_eq_true rfl) (Nat.le_of_ble_eq_true rfl) ⟨rfl, trivial⟩ dX10_both_168
      · have hc17 := c17
        have q17 := l_nle hc17
        refine lv_iconst (v := (1)) hx hb dX10_both_160 (by decide) ?_
        refine lv_goto (tgt := 165) hx hb dX10_both_161 (by decide) ?_
        refine m_calll (m_runS (As := [.int (1)]) (rest := []) hx hb hml hown hts hE hM hS hA ce_X10_truth tb_1637 (V_X10_truth l D A ad ns I L G (1) hI (by first | omega | decide)) rfl rfl ⟨Nat.le_of_ble_eq_true rfl, Nat.le_of_ble_eq_true rfl⟩  rfl hl.1 rfl (Nat.le_of_ble_eq_true rfl) dX10_both_165 ⟨Nat.le_of_ble_eq_true rfl, Nat.le_of_ble_eq_true rfl⟩) hS (fun r19 u H locs hw hM hS => ?_)
        obtain ⟨rfl, xr19⟩ := hw
        have hM : Mem D A ad ns I L G H := hM
        exact m_lret hx hb hr hlocks hM hS (Nat.le_of_ble_eq_true rfl) (Nat.le_of_ble_eq_true rfl) ⟨rfl, trivial⟩ dX10_both_168
    · refine lv_tableIn (off := 172) (tgt := 173) hx hb dX10_both_1 (by omega) (by omega) (by rw [qc1]; rfl) (by decide) ?_
      refine lv_lload_n hx hb dX10_both_173 rfl (lv_at hl 1 rfl) ?_
      refine lv_lload_n hx hb dX10_both_174 rfl (lv_at hl 2 rfl) ?_
      refine lv_lor hx hb dX10_both_175 ?_
      refine lv_topl (fun v20 ev20 => ?_)
      exact m_lret hx hb hr hlocks hM hS (Nat.le_of_ble_eq_true rfl) (Nat.le_of_ble_eq_true rfl) ⟨rfl, trivial⟩ dX10_both_176
    · refine lv_tableIn (off := 168) (tgt := 169) hx hb dX10_both_1 (by omega) (by omega) (by rw [qc1]; rfl) (by decide) ?_
      refine lv_lload_n hx hb dX10_both_169 rfl (lv_at hl 1 rfl) ?_
      refine lv_lload_n hx hb dX10_both_170 rfl (lv_at hl 2 rfl) ?_
      refine lv_land hx hb dX10_both_171 ?_
      refine lv_topl (fun v21 ev21 => ?_)
      exact m_lret hx hb hr hlocks hM hS (Nat.le_of_ble_eq_true rfl) (Nat.le_of_ble_eq_true rfl) ⟨rfl, trivial⟩ dX10_both_172
    · refine lv_tableIn (off := 172) (tgt := 173) hx hb dX10_both_1 (by omega) (by omega) (by rw [qc1]; rfl) (by decide) ?_
      refine lv_lload_n hx hb dX10_both_173 rfl (lv_at hl 1 rfl) ?_
      refine lv_lload_n hx hb dX10_both_174 rfl (lv_at hl 2 rfl) ?_
      refine lv_lor hx hb dX10_both_175 ?_
      refine lv_topl (fun v22 ev22 => ?_)
      exact m_lret hx hb hr hlocks hM hS (Nat.le_of_ble_eq_true rfl) (Nat.le_of_ble_eq_true rfl) ⟨rfl, trivial⟩ dX10_both_176
    · refine lv_tableIn (off := 172) (tgt := 173) hx hb dX10_both_1 (by omega) (by omega) (by rw [qc1]; rfl) (by decide) ?_
      refine lv_lload_n hx hb dX10_both_173 rfl (lv_at hl 1 rfl) ?_
      refine lv_lload_n hx hb dX10_both_174 rfl (lv_at hl 2 rfl) ?_
      refine lv_lor hx hb dX10_both_175 ?_
      refine lv_topl (fun v23 ev23 => ?_)
      exact m_lret hx hb hr hlocks hM hS (Nat.le_of_ble_eq_true rfl) (Nat.le_of_ble_eq_true rfl) ⟨rfl, trivial⟩ dX10_both_176
    · refine lv_tableIn (off := 75) (tgt := 76) hx hb dX10_both_1 (by omega) (by omega) (by rw [qc1]; rfl) (by decide) ?_
      refine lv_lload_n hx hb dX10_both_76 rfl (lv_at hl 1 rfl) ?_
      refine lv_lload_n hx hb dX10_both_77 rfl (lv_at hl 2 rfl) ?_
      refine lv_lmul hx hb dX10_both_78 ?_
      refine lv_topl (fun v24 ev24 => ?_)
      exact m_lret hx hb hr hlocks hM hS (Nat.le_of_ble_eq_true rfl) (Nat.le_of_ble_eq_true rfl) ⟨rfl, trivial⟩ dX10_both_79
    · refine lv_tableIn (off := 79) (tgt := 80) hx hb dX10_both_1 (by omega) (by omega) (by rw [qc1]; rfl) (by decide) ?_
      refine lv_lload_n hx hb dX10_both_80 rfl (lv_at hl 2 rfl) ?_
      refine lv_lconst (v := 0) hx hb dX10_both_81 (by decide) ?_
      refine W.lcmp hx hb dX10_both_82 ?_
      refine lv_if_ne (tgt := 90) hx hb dX10_both_83 (by decide) (fun c25 => ?_) (fun c25 => ?_)
      · have hc25 := c25
        have q25 := l_ne hc25
        refine lv_lload_n hx hb dX10_both_90 rfl (lv_at hl 1 rfl) ?_
        refine lv_lload_n hx hb dX10_both_91 rfl (lv_at hl 2 rfl) ?_
        refine lv_ldiv hx hb dX10_both_92 (lz_ne (by assumption)) ?_
        refine lv_topl (fun v26 ev26 => ?_)
        exact m_lret hx hb hr hlocks hM hS (Nat.le_of_ble_eq_true rfl) (Nat.le_of_ble_eq_true rfl) ⟨rfl, trivial⟩ dX10_both_93
      · have hc25 := c25
        have q25 := l_eq hc25
        refine lv_lconst (v := 0) hx hb dX10_both_86 (by decide) ?_
        refine lv_goto (tgt := 93) hx hb dX10_both_87 (by decide) ?_
        exact m_lret hx hb hr hlocks hM hS (Nat.le_of_ble_eq_true rfl) (Nat.le_of_ble_eq_true rfl) ⟨rfl, trivial⟩ dX10_both_93
theorem dX10_isLaw_0 : decode cX10_isLaw 0 = .ok (.aload_n 0, 1) := by decide +kernel
theorem dX10_isLaw_1 : decode cX10_isLaw 1 = .ok (.invokevirtual 188, 3) := by decide +kernel
theorem dX10_isLaw_4 : decode cX10_isLaw 4 = .ok (.ifCond .eq 23, 3) := by decide +kernel
theorem dX10_isLaw_7 : decode cX10_isLaw 7 = .ok (.iload_n 1, 1) := by decide +kernel
theorem dX10_isLaw_8 : decode cX10_isLaw 8 = .ok (.i2l, 1) := by decide +kernel
theorem dX10_isLaw_9 : decode cX10_isLaw 9 = .ok (.lconst 0, 1) := by decide +kernel
theorem dX10_isLaw_10 : decode cX10_isLaw 10 = .ok (.aload_n 0, 1) := by decide +kernel
theorem dX10_isLaw_11 : decode cX10_isLaw 11 = .ok (.getfield 371, 3) := by decide +kernel
theorem dX10_isLaw_14 : decode cX10_isLaw 14 = .ok (.iconst 1, 1) := by decide +kernel
theorem dX10_isLaw_15 : decode cX10_isLaw 15 = .ok (.isub, 1) := by decide +kernel
theorem dX10_isLaw_16 : decode cX10_isLaw 16 = .ok (.i2l, 1) := by decide +kernel
theorem dX10_isLaw_17 : decode cX10_isLaw 17 = .ok (.invokestatic 192, 3) := by decide +kernel
theorem dX10_isLaw_20 : decode cX10_isLaw 20 = .ok (.ifCond .eq 7, 3) := by decide +kernel
theorem dX10_isLaw_23 : decode cX10_isLaw 23 = .ok (.iconst 1, 1) := by decide +kernel
theorem dX10_isLaw_24 : decode cX10_isLaw 24 = .ok (.goto 4, 3) := by decide +kernel
theorem dX10_isLaw_27 : decode cX10_isLaw 27 = .ok (.iconst 0, 1) := by decide +kernel
theorem dX10_isLaw_28 : decode cX10_isLaw 28 = .ok (.ireturn, 1) := by decide +kernel
theorem ce_X10_isLaw : CeV RX10 yX10_isLaw cX10_isLaw 2 (some .boolean) 1 := ⟨tb_1610, tp_80, tb_11, tb_1611, rfl, by decide, by decide, by decide +kernel⟩
set_option maxHeartbeats 4000000 in
set_option maxRecDepth 20000 in
theorem V_X10_isLaw (l : Launch) (D : va_G) (A : Nat → Prop) (ad : Nat → Nat) (ns : List Nat) (I : MI) (L : ML) (G : MG) (a0 : Int32) (hJ : SGM ns G) (hI : INV I) : Met l yX10_isLaw (wd yX10_isLaw cX10_isLaw 2 (some .boolean)) ({ frames := 1, cells := 0, slots := 0, locals := 25 }) (va_Pc [.ref (ad (1000)), .int a0] (PM D A ad ns I L G)) (va_Qi (fun r u => u = (ad, ns, I, L, G) ∧ (Bo r ((I 1001 0).toInt = 1 ∧ 0 ≤ a0.toInt ∧ a0.toInt < (I 1000 28).toInt))) (BM D A) A) 0 0 A := by
  refine m_ofW (by decide) (Nat.le_of_ble_eq_true rfl) ?_
  intro p e s m below meth c ls args hC hE hM hA hS hl
  obtain ⟨hx, hb, hml, hown, hts, hr, hlocks, hin⟩ := hC
  have k0 : (0 : Int32).toInt = 0 := by decide
  have k1 : (1 : Int32).toInt = 1 := by decide
  have kl0 : (0 : Int64).toInt = 0 := by decide
  have hl : lv_has ls 2 [(0, .ref (ad (1000))), (1, .int (a0))] := hl
  refine lv_aload_n hx hb dX10_isLaw_0 rfl (lv_at hl 0 rfl) ?_
  refine m_calli (m_runV (1000) (As := []) (rest := []) hx hb hml hown hts hE hM hS hA ce_X10_isTown tb_1441 (V_X10_isTown l D A ad ns I L G hJ hI) rfl rfl ⟨Nat.le_of_ble_eq_true rfl, Nat.le_of_ble_eq_true rfl⟩ hJ.1 rfl rfl (by decide) rfl hl.1 rfl (Nat.le_of_ble_eq_true rfl) dX10_isLaw_1 ⟨Nat.le_of_ble_eq_true rfl, Nat.le_of_ble_eq_true rfl⟩) hS (fun r1 u H locs hw hM hS => ?_)
  obtain ⟨rfl, xr1⟩ := hw
  have hM : Mem D A ad ns I L G H := hM
  have yr1 := bo01 xr1
  refine lv_if_eq (tgt := 27) hx hb dX10_isLaw_4 (by decide) (fun c2 => ?_) (fun c2 => ?_)
  · have hc2 := c2
    have q2 := xr1.f hc2
    refine lv_iconst (v := (0)) hx hb dX10_isLaw_27 (by decide) ?_
    exact m_zret hx hb hr rfl hlocks hM hS (Nat.le_of_ble_eq_true rfl) (Nat.le_of_ble_eq_true rfl) ⟨rfl, (Bo.n (by omega))⟩ dX10_isLaw_28
  · have hc2 := c2
    have q2 := xr1.t hc2
    refine lv_iload_n hx hb dX10_isLaw_7 rfl (lv_at hl 1 rfl) ?_
    refine lv_i2l hx hb dX10_isLaw_8 rfl ?_
    refine lv_topl (fun v3 ev3 => ?_)
    have tv3 := q_i2l ev3
    refine lv_lconst (v := 0) hx hb dX10_isLaw_9 (by decide) ?_
    refine lv_aload_n hx hb dX10_isLaw_10 rfl (lv_at hl 0 rfl) ?_
    refine m_geti (1000) 28 hx hb hts hown hE oc10 hM hJ.1 rfl (by decide) rfl tb_1205 dX10_isLaw_11 ?_
    have g4 := hI.get (1000) 28 (lo := 0) (hi := 6) rfl
    refine lv_iconst (v := (1)) hx hb dX10_isLaw_14 (by decide) ?_
    refine lv_isub hx hb dX10_isLaw_15 ?_
    refine lv_topi (fun v5 ev5 => ?_)
    have tv5 := a_sub ev5 (by omega) (by omega)
    refine lv_i2l hx hb dX10_isLaw_16 rfl ?_
    refine lv_topl (fun v6 ev6 => ?_)
    have tv6 := q_i2l ev6
    refine m_calli (m_runS (As := [.long (v3), .long (0), .long (v6)]) (rest := []) hx hb hml hown hts hE hM hS hA ce_X10_in tb_1425 (V_X10_in l D A ad ns I L G (v3) (0) (v6) hI) rfl rfl ⟨Nat.le_of_ble_eq_true rfl, Nat.le_of_ble_eq_true rfl⟩  rfl hl.1 rfl (Nat.le_of_ble_eq_true rfl) dX10_isLaw_17 ⟨Nat.le_of_ble_eq_true rfl, Nat.le_of_ble_eq_true rfl⟩) hS (fun r7 u H locs hw hM hS => ?_)
    obtain ⟨rfl, xr7⟩ := hw
    have hM : Mem D A ad ns I L G H := hM
    have yr7 := bo01 xr7
    refine lv_if_eq (tgt := 27) hx hb dX10_isLaw_20 (by decide) (fun c8 => ?_) (fun c8 => ?_)
    · have hc8 := c8
      have q8 := xr7.f hc8
      refine lv_iconst (v := (0)) hx hb dX10_isLaw_27 (by decide) ?_
      exact m_zret hx hb hr rfl hlocks hM hS (Nat.le_of_ble_eq_true rfl) (Nat.le_of_ble_eq_true rfl) ⟨rfl, (Bo.n (by omega))⟩ dX10_isLaw_28
    · have hc8 := c8
      have q8 := xr7.t hc8
      refine lv_iconst (v := (1)) hx hb dX10_isLaw_23 (by decide) ?_
      refine lv_goto (tgt := 28) hx hb dX10_isLaw_24 (by decide) ?_
      exact m_zret hx hb hr rfl hlocks hM hS (Nat.le_of_ble_eq_true rfl) (Nat.le_of_ble_eq_true rfl) ⟨rfl, (Bo.y (by omega))⟩ dX10_isLaw_28
theorem dX10_asks_0 : decode cX10_asks 0 = .ok (.aload_n 0, 1) := by decide +kernel
theorem dX10_asks_1 : decode cX10_asks 1 = .ok (.getfield 111, 3) := by decide +kernel
theorem dX10_asks_4 : decode cX10_asks 4 = .ok (.iconst 0, 1) := by decide +kernel
theorem dX10_asks_5 : decode cX10_asks 5 = .ok (.iload_n 1, 1) := by decide +kernel
theorem dX10_asks_6 : decode cX10_asks 6 = .ok (.i2l, 1) := by decide +kernel
theorem dX10_asks_7 : decode cX10_asks 7 = .ok (.lastore, 1) := by decide +kernel
theorem dX10_asks_8 : decode cX10_asks 8 = .ok (.aload_n 0, 1) := by decide +kernel
theorem dX10_asks_9 : decode cX10_asks 9 = .ok (.getfield 111, 3) := by decide +kernel
theorem dX10_asks_12 : decode cX10_asks 12 = .ok (.iconst 1, 1) := by decide +kernel
theorem dX10_asks_13 : decode cX10_asks 13 = .ok (.aload_n 0, 1) := by decide +kernel
theorem dX10_asks_14 : decode cX10_asks 14 = .ok (.getfield 7, 3) := by decide +kernel
theorem dX10_asks_17 : decode cX10_asks 17 = .ok (.iconst 5, 1) := by decide +kernel
theorem dX10_asks_18 : decode cX10_asks 18 = .ok (.iaload, 1) := by decide +kernel
theorem dX10_asks_19 : decode cX10_asks 19 = .ok (.i2l, 1) := by decide +kernel
theorem dX10_asks_20 : decode cX10_asks 20 = .ok (.lastore, 1) := by decide +kernel
theorem dX10_asks_21 : decode cX10_asks 21 = .ok (.aload_n 0, 1) := by decide +kernel
theorem dX10_asks_22 : decode cX10_asks 22 = .ok (.getfield 111, 3) := by decide +kernel
theorem dX10_asks_25 : decode cX10_asks 25 = .ok (.iconst 2, 1) := by decide +kernel
theorem dX10_asks_26 : decode cX10_asks 26 = .ok (.aload_n 0, 1) := by decide +kernel
theorem dX10_asks_27 : decode cX10_asks 27 = .ok (.getfield 7, 3) := by decide +kernel
theorem dX10_asks_30 : decode cX10_asks 30 = .ok (.bipush 6, 2) := by decide +kernel
theorem dX10_asks_32 : decode cX10_asks 32 = .ok (.iaload, 1) := by decide +kernel
theorem dX10_asks_33 : decode cX10_asks 33 = .ok (.i2l, 1) := by decide +kernel
theorem dX10_asks_34 : decode cX10_asks 34 = .ok (.lastore, 1) := by decide +kernel
theorem dX10_asks_35 : decode cX10_asks 35 = .ok (.aload_n 0, 1) := by decide +kernel
theorem dX10_asks_36 : decode cX10_asks 36 = .ok (.getfield 111, 3) := by decide +kernel
theorem dX10_asks_39 : decode cX10_asks 39 = .ok (.iconst 3, 1) := by decide +kernel
theorem dX10_asks_40 : decode cX10_asks 40 = .ok (.iload_n 2, 1) := by decide +kernel
theorem dX10_asks_41 : decode cX10_asks 41 = .ok (.aload_n 0, 1) := by decide +kernel
theorem dX10_asks_42 : decode cX10_asks 42 = .ok (.getfield 7, 3) := by decide +kernel
theorem dX10_asks_45 : decode cX10_asks 45 = .ok (.bipush 8, 2) := by decide +kernel
theorem dX10_asks_47 : decode cX10_asks 47 = .ok (.iaload, 1) := by decide +kernel
theorem dX10_asks_48 : decode cX10_asks 48 = .ok (.if_icmp .ge 13, 3) := by decide +kernel
theorem dX10_asks_51 : decode cX10_asks 51 = .ok (.aload_n 0, 1) := by decide +kernel
theorem dX10_asks_52 : decode cX10_asks 52 = .ok (.getfield 34, 3) := by decide +kernel
theorem dX10_asks_55 : decode cX10_asks 55 = .ok (.iload_n 2, 1) := by decide +kernel
theorem dX10_asks_56 : decode cX10_asks 56 = .ok (.iaload, 1) := by decide +kernel
theorem dX10_asks_57 : decode cX10_asks 57 = .ok (.i2l, 1) := by decide +kernel
theorem dX10_asks_58 : decode cX10_asks 58 = .ok (.goto 4, 3) := by decide +kernel
theorem dX10_asks_61 : decode cX10_asks 61 = .ok (.lconst 0, 1) := by decide +kernel
theorem dX10_asks_62 : decode cX10_asks 62 = .ok (.lastore, 1) := by decide +kernel
theorem dX10_asks_63 : decode cX10_asks 63 = .ok (.aload_n 0, 1) := by decide +kernel
theorem dX10_asks_64 : decode cX10_asks 64 = .ok (.getfield 111, 3) := by decide +kernel
theorem dX10_asks_67 : decode cX10_asks 67 = .ok (.iconst 4, 1) := by decide +kernel
theorem dX10_asks_68 : decode cX10_asks 68 = .ok (.aload_n 0, 1) := by decide +kernel
theorem dX10_asks_69 : decode cX10_asks 69 = .ok (.iload_n 1, 1) := by decide +kernel
theorem dX10_asks_70 : decode cX10_asks 70 = .ok (.invokevirtual 433, 3) := by decide +kernel
theorem dX10_asks_73 : decode cX10_asks 73 = .ok (.iconst (-1), 1) := by decide +kernel
theorem dX10_asks_74 : decode cX10_asks 74 = .ok (.if_icmp .ne 9, 3) := by decide +kernel
theorem dX10_asks_77 : decode cX10_asks 77 = .ok (.ldc2_w 440, 3) := by decide +kernel
theorem dX10_asks_80 : decode cX10_asks 80 = .ok (.goto 9, 3) := by decide +kernel
theorem dX10_asks_83 : decode cX10_asks 83 = .ok (.aload_n 0, 1) := by decide +kernel
theorem dX10_asks_84 : decode cX10_asks 84 = .ok (.iload_n 1, 1) := by decide +kernel
theorem dX10_asks_85 : decode cX10_asks 85 = .ok (.invokevirtual 433, 3) := by decide +kernel
theorem dX10_asks_88 : decode cX10_asks 88 = .ok (.i2l, 1) := by decide +kernel
theorem dX10_asks_89 : decode cX10_asks 89 = .ok (.lastore, 1) := by decide +kernel
theorem dX10_asks_90 : decode cX10_asks 90 = .ok (.iconst 0, 1) := by decide +kernel
theorem dX10_asks_91 : decode cX10_asks 91 = .ok (.istore_n 3, 1) := by decide +kernel
theorem dX10_asks_92 : decode cX10_asks 92 = .ok (.iload_n 3, 1) := by decide +kernel
theorem dX10_asks_93 : decode cX10_asks 93 = .ok (.bipush 8, 2) := by decide +kernel
theorem dX10_asks_95 : decode cX10_asks 95 = .ok (.if_icmp .ge 39, 3) := by decide +kernel
theorem dX10_asks_98 : decode cX10_asks 98 = .ok (.aload_n 0, 1) := by decide +kernel
theorem dX10_asks_99 : decode cX10_asks 99 = .ok (.getfield 111, 3) := by decide +kernel
theorem dX10_asks_102 : decode cX10_asks 102 = .ok (.iconst 5, 1) := by decide +kernel
theorem dX10_asks_103 : decode cX10_asks 103 = .ok (.iload_n 3, 1) := by decide +kernel
theorem dX10_asks_104 : decode cX10_asks 104 = .ok (.iadd, 1) := by decide +kernel
theorem dX10_asks_105 : decode cX10_asks 105 = .ok (.iload_n 3, 1) := by decide +kernel
theorem dX10_asks_106 : decode cX10_asks 106 = .ok (.aload_n 0, 1) := by decide +kernel
theorem dX10_asks_107 : decode cX10_asks 107 = .ok (.getfield 7, 3) := by decide +kernel
theorem dX10_asks_110 : decode cX10_asks 110 = .ok (.bipush 9, 2) := by decide +kernel
theorem dX10_asks_112 : decode cX10_asks 112 = .ok (.iaload, 1) := by decide +kernel
theorem dX10_asks_113 : decode cX10_asks 113 = .ok (.if_icmp .ge 13, 3) := by decide +kernel
theorem dX10_asks_116 : decode cX10_asks 116 = .ok (.aload_n 0, 1) := by decide +kernel
theorem dX10_asks_117 : decode cX10_asks 117 = .ok (.getfield 152, 3) := by decide +kernel
theorem dX10_asks_120 : decode cX10_asks 120 = .ok (.iload_n 3, 1) := by decide +kernel
theorem dX10_asks_121 : decode cX10_asks 121 = .ok (.iaload, 1) := by decide +kernel
theorem dX10_asks_122 : decode cX10_asks 122 = .ok (.i2l, 1) := by decide +kernel
theorem dX10_asks_123 : decode cX10_asks 123 = .ok (.goto 4, 3) := by decide +kernel
theorem dX10_asks_126 : decode cX10_asks 126 = .ok (.lconst 0, 1) := by decide +kernel
theorem dX10_asks_127 : decode cX10_asks 127 = .ok (.lastore, 1) := by decide +kernel
theorem dX10_asks_128 : decode cX10_asks 128 = .ok (.iinc 3 1, 3) := by decide +kernel
theorem dX10_asks_131 : decode cX10_asks 131 = .ok (.goto (-39), 3) := by decide +kernel
theorem dX10_asks_134 : decode cX10_asks 134 = .ok (.return_, 1) := by decide +kernel
theorem ce_X10_asks : CeV RX10 yX10_asks cX10_asks 4 none 2 := ⟨tb_1623, tp_83, tb_11, tb_1624, rfl, by decide, by decide, by decide +kernel⟩
set_option maxHeartbeats 4000000 in
set_option maxRecDepth 20000 in
theorem V_X10_asks (l : Launch) (D : va_G) (A : Nat → Prop) (ad : Nat → Nat) (ns : List Nat) (I : MI) (L : ML) (G : MG) (a0 : Int32) (a1 : Int32) (hJ : SGM ns G) (hI : INV I) (ha0 : 0 ≤ a0.toInt ∧ a0.toInt ≤ 23) (ha1 : 0 ≤ a1.toInt ∧ a1.toInt ≤ 23) : Met l yX10_asks (wd yX10_asks cX10_asks 4 none) ({ frames := 1, cells := 0, slots := 0, locals := 21 }) (va_Pc [.ref (ad (1000)), .int a0, .int a1] (PM D A ad ns I L G)) (va_Qv (fun u => ∃ I2 L2, u = (ad, ns, I2, L2, G) ∧ INV I2 ∧ Kp [] [] I I2) (BM D A) A) 0 0 A := by
  refine m_ofW (by decide) (Nat.le_of_ble_eq_true rfl) ?_
  intro p e s m below meth c ls args hC hE hM hA hS hl
  obtain ⟨hx, hb, hml, hown, hts, hr, hlocks, hin⟩ := hC
  have km1 : (-1 : Int32).toInt = -1 := by decide
  have k0 : (0 : Int32).toInt = 0 := by decide
  have k1 : (1 : Int32).toInt = 1 := by decide
  have k2 : (2 : Int32).toInt = 2 := by decide
  have k3 : (3 : Int32).toInt = 3 := by decide
  have k4 : (4 : Int32).toInt = 4 := by decide
  have k5 : (5 : Int32).toInt = 5 := by decide
  have k6 : (6 : Int32).toInt = 6 := by decide
  have k8 : (8 : Int32).toInt = 8 := by decide
  have k9 : (9 : Int32).toInt = 9 := by decide
  have kl0 : (0 : Int64).toInt = 0 := by decide
  have kl8 : (8 : Int64).toInt = 8 := by decide
  have hK : Kp [] [] I I := Kp.rf
  have hl : lv_has ls 4 [(0, .ref (ad (1000))), (1, .int (a0)), (2, .int (a1))] := hl
  refine lv_aload_n hx hb dX10_asks_0 rfl (lv_at hl 0 rfl) ?_
  refine m_getr (1000) 43 (1043) hx hb hts hown hE oc10 hM hJ.1 rfl (by decide) rfl (hJ.2 43 (by decide)).2 (by decide) tb_1220 dX10_asks_1 ?_
  refine lv_iconst (v := (0)) hx hb dX10_asks_4 (by decide) ?_
  refine lv_iload_n hx hb dX10_asks_5 rfl (lv_at hl 1 rfl) ?_
  refine lv_i2l hx hb dX10_asks_6 rfl ?_
  refine lv_topl (fun v1 ev1 => ?_)
  have tv1 := q_i2l ev1
  refine m_last (1043) hx hb hE hM hS (hJ.2 43 (by decide)).1 rfl (vp_in_iff.mpr (by decide)) dX10_asks_7 (fun H locs L2 eL2 hM hS => ?_)
  refine lv_aload_n hx hb dX10_asks_8 rfl (lv_at hl 0 rfl) ?_
  refine m_getr (1000) 43 (1043) hx hb hts hown hE oc10 hM hJ.1 rfl (by decide) rfl (hJ.2 43 (by decide)).2 (by decide) tb_1220 dX10_asks_9 ?_
  refine lv_iconst (v := (1)) hx hb dX10_asks_12 (by decide) ?_
  refine lv_aload_n hx hb dX10_asks_13 rfl (lv_at hl 0 rfl) ?_
  refine m_getr (1000) 1 (1001) hx hb hts hown hE oc10 hM hJ.1 rfl (by decide) rfl (hJ.2 1 (by decide)).2 (by decide) tb_1178 dX10_asks_14 ?_
  refine lv_iconst (v := (5)) hx hb dX10_asks_17 (by decide) ?_
  refine m_iald (1001) hx hb hE hM (hJ.2 1 (by decide)).1 rfl (vp_in_iff.mpr (by decide)) dX10_asks_18 ?_
  rw [show (5 : Int32).toNatClampNeg = 5 from rfl]
  have g3 := hI.get (1001) 5 (lo := 0) (hi := 11) rfl
  refine lv_i2l hx hb dX10_asks_19 rfl ?_
  refine lv_topl (fun v4 ev4 => ?_)
  have tv4 := q_i2l ev4
  refine m_last (1043) hx hb hE hM hS (hJ.2 43 (by decide)).1 rfl (vp_in_iff.mpr (by decide)) dX10_asks_20 (fun H locs L5 eL5 hM hS => ?_)
  refine lv_aload_n hx hb dX10_asks_21 rfl (lv_at hl 0 rfl) ?_
  refine m_getr (1000) 43 (1043) hx hb hts hown hE oc10 hM hJ.1 rfl (by decide) rfl (hJ.2 43 (by decide)).2 (by decide) tb_1220 dX10_asks_22 ?_
  refine lv_iconst (v := (2)) hx hb dX10_asks_25 (by decide) ?_
  refine lv_aload_n hx hb dX10_asks_26 rfl (lv_at hl 0 rfl) ?_
  refine m_getr (1000) 1 (1001) hx hb hts hown hE oc10 hM hJ.1 rfl (by decide) rfl (hJ.2 1 (by decide)).2 (by decide) tb_1178 dX10_asks_27 ?_
  refine lv_bipush (v := (6)) hx hb dX10_asks_30 (by decide) ?_
  refine m_iald (1001) hx hb hE hM (hJ.2 1 (by decide)).1 rfl (vp_in_iff.mpr (by decide)) dX10_asks_32 ?_
  rw [show (6 : Int32).toNatClampNeg = 6 from rfl]
  refine lv_i2l hx hb dX10_asks_33 rfl ?_
  refine lv_topl (fun v6 ev6 => ?_)
  have tv6 := q_i2l ev6
  refine m_last (1043) hx hb hE hM hS (hJ.2 43 (by decide)).1 rfl (vp_in_iff.mpr (by decide)) dX10_asks_34 (fun H locs L7 eL7 hM hS => ?_)
  refine lv_aload_n hx hb dX10_asks_35 rfl (lv_at hl 0 rfl) ?_
  refine m_getr (1000) 43 (1043) hx hb hts hown hE oc10 hM hJ.1 rfl (by decide) rfl (hJ.2 43 (by decide)).2 (by decide) tb_1220 dX10_asks_36 ?_
  refine lv_iconst (v := (3)) hx hb dX10_asks_39 (by decide) ?_
  refine lv_iload_n hx hb dX10_asks_40 rfl (lv_at hl 2 rfl) ?_
  refine lv_aload_n hx hb dX10_asks_41 rfl (lv_at hl 0 rfl) ?_
  refine m_getr (1000) 1 (1001) hx hb hts hown hE oc10 hM hJ.1 rfl (by decide) rfl (hJ.2 1 (by decide)).2 (by decide) tb_1178 dX10_asks_42 ?_
  refine lv_bipush (v := (8)) hx hb dX10_asks_45 (by decide) ?_
  refine m_iald (1001) hx hb hE hM (hJ.2 1 (by decide)).1 rfl (vp_in_iff.mpr (by decide)) dX10_asks_47 ?_
  rw [show (8 : Int32).toNatClampNeg = 8 from rfl]
  have g8 := hI.get (1001) 8 (lo := 0) (hi := 24) rfl
  refine lv_icmp_ge (tgt := 61) hx hb dX10_asks_48 (by decide) (fun c9 => ?_) (fun c9 => ?_)
  · have hc9 := c9
    have q9 := q_le hc9
    refine lv_lconst (v := 0) hx hb dX10_asks_61 (by decide) ?_
    refine m_last (1043) hx hb hE hM hS (hJ.2 43 (by decide)).1 rfl (vp_in_iff.mpr (by decide)) dX10_asks_62 (fun H locs L10 eL10 hM hS => ?_)
    refine lv_aload_n hx hb dX10_asks_63 rfl (lv_at hl 0 rfl) ?_
    refine m_getr (1000) 43 (1043) hx hb hts hown hE oc10 hM hJ.1 rfl (by decide) rfl (hJ.2 43 (by decide)).2 (by decide) tb_1220 dX10_asks_64 ?_
    refine lv_iconst (v := (4)) hx hb dX10_asks_67 (by decide) ?_
    refine lv_aload_n hx hb dX10_asks_68 rfl (lv_at hl 0 rfl) ?_
    refine lv_iload_n hx hb dX10_asks_69 rfl (lv_at hl 1 rfl) ?_
    refine m_calli (m_runV (1000) (As := [.int (a0)]) (rest := [.int (4), .ref (ad (1043))]) hx hb hml hown hts hE hM hS hA ce_X10_sunOf tb_1625 (V_X10_sunOf l D A ad ns I L10 G (a0) hJ hI (by first | omega | decide)) rfl rfl ⟨Nat.le_of_ble_eq_true rfl, Nat.le_of_ble_eq_true rfl⟩ hJ.1 rfl rfl (by decide) rfl hl.1 rfl (Nat.le_of_ble_eq_true rfl) dX10_asks_70 ⟨Nat.le_of_ble_eq_true rfl, Nat.le_of_ble_eq_true rfl⟩) hS (fun r11 u H locs hw hM hS => ?_)
    obtain ⟨rfl, xr11⟩ := hw
    have hM : Mem D A ad ns I L10 G H := hM
    refine lv_iconst (v := (-1)) hx hb dX10_asks_73 (by decide) ?_
    refine lv_icmp_ne (tgt := 83) hx hb dX10_asks_74 (by decide) (fun c12 => ?_) (fun c12 => ?_)
    · have hc12 := c12
      have q12 := q_ne hc12
      refine lv_aload_n hx hb dX10_asks_83 rfl (lv_at hl 0 rfl) ?_
      refine lv_iload_n hx hb dX10_asks_84 rfl (lv_at hl 1 rfl) ?_
      refine m_calli (m_runV (1000) (As := [.int (a0)]) (rest := [.int (4), .ref (ad (1043))]) hx hb hml hown hts hE hM hS hA ce_X10_sunOf tb_1625 (V_X10_sunOf l D A ad ns I L10 G (a0) hJ hI (by first | omega | decide)) rfl rfl ⟨Nat.le_of_ble_eq_true rfl, Nat.le_of_ble_eq_true rfl⟩ hJ.1 rfl rfl (by decide) rfl hl.1 rfl (Nat.le_of_ble_eq_true rfl) dX10_asks_85 ⟨Nat.le_of_ble_eq_true rfl, Nat.le_of_ble_eq_true rfl⟩) hS (fun r13 u H locs hw hM hS => ?_)
      obtain ⟨rfl, xr13⟩ := hw
      have hM : Mem D A ad ns I L10 G H := hM
      refine lv_i2l hx hb dX10_asks_88 rfl ?_
      refine lv_topl (fun v14 ev14 => ?_)
      have tv14 := q_i2l ev14
      refine m_last (1043) hx hb hE hM hS (hJ.2 43 (by decide)).1 rfl (vp_in_iff.mpr (by decide)) dX10_asks_89 (fun H locs L15 eL15 hM hS => ?_)
      refine lv_iconst (v := (0)) hx hb dX10_asks_90 (by decide) ?_
      refine lv_istore_n (lv' := [(3, .int (0)), (0, .ref (ad (1000))), (1, .int (a0)), (2, .int (a1))]) hx hb dX10_asks_91 rfl hl (by decide) rfl (fun ls hl => ?_)
      have loop92 : ∀ (n : Nat) (x3_92 : Int32) (Ia92 : MI) (La92 : ML) (H : Heap) (locs : List Loc) (ls : Array Slot), INV Ia92 → Kp [] [] I Ia92 → (0 ≤ x3_92.toInt ∧ x3_92.toInt ≤ 8) → (8 - x3_92.toInt).toNat < n → Mem D A ad ns Ia92 La92 G H → va_S A s.heap H locs → lv_has ls 4 [(3, .int (x3_92)), (0, .ref (ad (1000))), (1, .int (a0)), (2, .int (a1))] → W p l e ({ frames := 1, cells := 0, slots := 0, locals := 21 } : Room) s m args below meth c H locs 0 0 (MQ below (va_Qv (fun u => ∃ I2 L2, u = (ad, ns, I2, L2, G) ∧ INV I2 ∧ Kp [] [] I I2) (BM D A) A) args s 0 0 A) (F0 m 92 ls []) := by
        intro n
        induction n with
        | zero =>
          intro x3_92 Ia92 La92 H locs ls hI hK hr3_92 hmu
          exact absurd hmu (Nat.not_lt_zero _)
        | succ n ih92 =>
          intro x3_92 Ia92 La92 H locs ls hI hK hr3_92 hmu92 hM hS hl
          refine lv_iload_n hx hb dX10_asks_92 rfl (lv_at hl 0 rfl) ?_
          refine lv_bipush (v := (8)) hx hb dX10_asks_93 (by decide) ?_
          refine lv_icmp_ge (tgt := 134) hx hb dX10_asks_95 (by decide) (fun c16 => ?_) (fun c16 => ?_)
          · have hc16 := c16
            have q16 := q_le hc16
            exact m_vret hx hb hr hlocks hM hS (Nat.le_of_ble_eq_true rfl) (Nat.le_of_ble_eq_true rfl) ⟨_, _, rfl, hI, hK⟩ dX10_asks_134
          · have hc16 := c16
            have q16 := q_nle hc16
            refine lv_aload_n hx hb dX10_asks_98 rfl (lv_at hl 1 rfl) ?_
            refine m_getr (1000) 43 (1043) hx hb hts hown hE oc10 hM hJ.1 rfl (by decide) rfl (hJ.2 43 (by decide)).2 (by decide) tb_1220 dX10_asks_99 ?_
            refine lv_iconst (v := (5)) hx hb dX10_asks_102 (by decide) ?_
            refine lv_iload_n hx hb dX10_asks_103 rfl (lv_at hl 0 rfl) ?_
            refine lv_iadd hx hb dX10_asks_104 ?_
            refine lv_topi (fun v17 ev17 => ?_)
            have tv17 := a_add ev17 (by omega) (by omega)
            refine lv_iload_n hx hb dX10_asks_105 rfl (lv_at hl 0 rfl) ?_
            refine lv_aload_n hx hb dX10_asks_106 rfl (lv_at hl 1 rfl) ?_
            refine m_getr (1000) 1 (1001) hx hb hts hown hE oc10 hM hJ.1 rfl (by decide) rfl (hJ.2 1 (by decide)).2 (by decide) tb_1178 dX10_asks_107 ?_
            refine lv_bipush (v := (9)) hx hb dX10_asks_110 (by decide) ?_
            refine m_iald (1001) hx hb hE hM (hJ.2 1 (by decide)).1 rfl (vp_in_iff.mpr (by decide)) dX10_asks_112 ?_
            rw [show (9 : Int32).toNatClampNeg = 9 from rfl]
            have g18 := hI.get (1001) 9 (lo := 0) (hi := 8) rfl
            refine lv_icmp_ge (tgt := 126) hx hb dX10_asks_113 (by decide) (fun c19 => ?_) (fun c19 => ?_)
            · have hc19 := c19
              have q19 := q_le hc19
              refine lv_lconst (v := 0) hx hb dX10_asks_126 (by decide) ?_
              refine m_last (1043) hx hb hE hM hS (hJ.2 43 (by decide)).1 rfl (vp_in_iff.mpr (by omega)) dX10_asks_127 (fun H locs L20 eL20 hM hS => ?_)
              obtain ⟨v21, ev21⟩ : ∃ z : Int32, z = x3_92 + Int32.ofInt (1) := ⟨_, rfl⟩
              have tv21 := a_inc ev21 (by decide) (by omega) (by omega)
              refine lv_iinc (v := v21) (lv' := [(3, .int (v21)), (0, .ref (ad (1000))), (1, .int (a0)), (2, .int (a1))]) hx hb dX10_asks_128 hl (k := 0) rfl ev21.symm (by decide) rfl (fun ls hl => ?_)
              refine lv_goto (tgt := 92) hx hb dX10_asks_131 (by decide) ?_
              exact ih92 (v21) Ia92 L20 _ _ ls hI hK (by first | omega | decide) (by omega) hM hS (lv_sub hl [0, 1, 2, 3] rfl)
            · have hc19 := c19
              have q19 := q_nle hc19
              refine lv_aload_n hx hb dX10_asks_116 rfl (lv_at hl 1 rfl) ?_
              refine m_getr (1000) 64 (1064) hx hb hts hown hE oc10 hM hJ.1 rfl (by decide) rfl (hJ.2 64 (by decide)).2 (by decide) tb_1241 dX10_asks_117 ?_
              refine lv_iload_n hx hb dX10_asks_120 rfl (lv_at hl 0 rfl) ?_
              refine m_iald (1064) hx hb hE hM (hJ.2 64 (by decide)).1 rfl (vp_in_iff.mpr (by omega)) dX10_asks_121 ?_
              refine lv_i2l hx hb dX10_asks_122 rfl ?_
              refine lv_topl (fun v22 ev22 => ?_)
              have tv22 := q_i2l ev22
              refine lv_goto (tgt := 127) hx hb dX10_asks_123 (by decide) ?_
              refine m_last (1043) hx hb hE hM hS (hJ.2 43 (by decide)).1 rfl (vp_in_iff.mpr (by omega)) dX10_asks_127 (fun H locs L23 eL23 hM hS => ?_)
              obtain ⟨v24, ev24⟩ : ∃ z : Int32, z = x3_92 + Int32.ofInt (1) := ⟨_, rfl⟩
              have tv24 := a_inc ev24 (by decide) (by omega) (by omega)
              refine lv_iinc (v := v24) (lv' := [(3, .int (v24)), (0, .ref (ad (1000))), (1, .int (a0)), (2, .int (a1))]) hx hb dX10_asks_128 hl (k := 0) rfl ev24.symm (by decide) rfl (fun ls hl => ?_)
              refine lv_goto (tgt := 92) hx hb dX10_asks_131 (by decide) ?_
              exact ih92 (v24) Ia92 L23 _ _ ls hI hK (by first | omega | decide) (by omega) hM hS (lv_sub hl [0, 1, 2, 3] rfl)
      exact loop92 (_ + 1) (0) I L15 _ _ ls hI hK (by first | omega | decide) (Nat.lt_succ_self _) hM hS (lv_sub hl [0, 1, 2, 3] rfl)
    · have hc12 := c12
      have q12 := q_eq hc12
      refine lv_ldc2 (v := (8)) hx hb hown (hts _ tb_1629) dX10_asks_77 ?_
      refine lv_goto (tgt := 89) hx hb dX10_asks_80 (by decide) ?_
      refine m_last (1043) hx hb hE hM hS (hJ.2 43 (by decide)).1 rfl (vp_in_iff.mpr (by decide)) dX10_asks_89 (fun H locs L25 eL25 hM hS => ?_)
      refine lv_iconst (v := (0)) hx hb dX10_asks_90 (by decide) ?_
      refine lv_istore_n (lv' := [(3, .int (0)), (0, .ref (ad (1000))), (1, .int (a0)), (2, .int (a1))]) hx hb dX10_asks_91 rfl hl (by decide) rfl (fun ls hl => ?_)
      have loop92 : ∀ (n : Nat) (x3_92 : Int32) (Ia92 : MI) (La92 : ML) (H : Heap) (locs : List Loc) (ls : Array Slot), INV Ia92 → Kp [] [] I Ia92 → (0 ≤ x3_92.toInt ∧ x3_92.toInt ≤ 8) → (8 - x3_92.toInt).toNat < n → Mem D A ad ns Ia92 La92 G H → va_S A s.heap H locs → lv_has ls 4 [(3, .int (x3_92)), (0, .ref (ad (1000))), (1, .int (a0)), (2, .int (a1))] → W p l e ({ frames := 1, cells := 0, slots := 0, locals := 21 } : Room) s m args below meth c H locs 0 0 (MQ below (va_Qv (fun u => ∃ I2 L2, u = (ad, ns, I2, L2, G) ∧ INV I2 ∧ Kp [] [] I I2) (BM D A) A) args s 0 0 A) (F0 m 92 ls []) := by
        intro n
        induction n with
        | zero =>
          intro x3_92 Ia92 La92 H locs ls hI hK hr3_92 hmu
          exact absurd hmu (Nat.not_lt_zero _)
        | succ n ih92 =>
          intro x3_92 Ia92 La92 H locs ls hI hK hr3_92 hmu92 hM hS hl
          refine lv_iload_n hx hb dX10_asks_92 rfl (lv_at hl 0 rfl) ?_
          refine lv_bipush (v := (8)) hx hb dX10_asks_93 (by decide) ?_
          refine lv_icmp_ge (tgt := 134) hx hb dX10_asks_95 (by decide) (fun c26 => ?_) (fun c26 => ?_)
          · have hc26 := c26
            have q26 := q_le hc26
            exact m_vret hx hb hr hlocks hM hS (Nat.le_of_ble_eq_true rfl) (Nat.le_of_ble_eq_true rfl) ⟨_, _, rfl, hI, hK⟩ dX10_asks_134
          · have hc26 := c26
            have q26 := q_nle hc26
            refine lv_aload_n hx hb dX10_asks_98 rfl (lv_at hl 1 rfl) ?_
            refine m_getr (1000) 43 (1043) hx hb hts hown hE oc10 hM hJ.1 rfl (by decide) rfl (hJ.2 43 (by decide)).2 (by decide) tb_1220 dX10_asks_99 ?_
            refine lv_iconst (v := (5)) hx hb dX10_asks_102 (by decide) ?_
            refine lv_iload_n hx hb dX10_asks_103 rfl (lv_at hl 0 rfl) ?_
            refine lv_iadd hx hb dX10_asks_104 ?_
            refine lv_topi (fun v27 ev27 => ?_)
            have tv27 := a_add ev27 (by omega) (by omega)
            refine lv_iload_n hx hb dX10_asks_105 rfl (lv_at hl 0 rfl) ?_
            refine lv_aload_n hx hb dX10_asks_106 rfl (lv_at hl 1 rfl) ?_
            refine m_getr (1000) 1 (1001) hx hb hts hown hE oc10 hM hJ.1 rfl (by decide) rfl (hJ.2 1 (by decide)).2 (by decide) tb_1178 dX10_asks_107 ?_
            refine lv_bipush (v := (9)) hx hb dX10_asks_110 (by decide) ?_
            refine m_iald (1001) hx hb hE hM (hJ.2 1 (by decide)).1 rfl (vp_in_iff.mpr (by decide)) dX10_asks_112 ?_
            rw [show (9 : Int32).toNatClampNeg = 9 from rfl]
            have g28 := hI.get (1001) 9 (lo := 0) (hi := 8) rfl
            refine lv_icmp_ge (tgt := 126) hx hb dX10_asks_113 (by decide) (fun c29 => ?_) (fun c29 => ?_)
            · have hc29 := c29
              have q29 := q_le hc29
              refine lv_lconst (v := 0) hx hb dX10_asks_126 (by decide) ?_
              refine m_last (1043) hx hb hE hM hS (hJ.2 43 (by decide)).1 rfl (vp_in_iff.mpr (by omega)) dX10_asks_127 (fun H locs L30 eL30 hM hS => ?_)
              obtain ⟨v31, ev31⟩ : ∃ z : Int32, z = x3_92 + Int32.ofInt (1) := ⟨_, rfl⟩
              have tv31 := a_inc ev31 (by decide) (by omega) (by omega)
              refine lv_iinc (v := v31) (lv' := [(3, .int (v31)), (0, .ref (ad (1000))), (1, .int (a0)), (2, .int (a1))]) hx hb dX10_asks_128 hl (k := 0) rfl ev31.symm (by decide) rfl (fun ls hl => ?_)
              refine lv_goto (tgt := 92) hx hb dX10_asks_131 (by decide) ?_
              exact ih92 (v31) Ia92 L30 _ _ ls hI hK (by first | omega | decide) (by omega) hM hS (lv_sub hl [0, 1, 2, 3] rfl)
            · have hc29 := c29
              have q29 := q_nle hc29
              refine lv_aload_n hx hb dX10_asks_116 rfl (lv_at hl 1 rfl) ?_
              refine m_getr (1000) 64 (1064) hx hb hts hown hE oc10 hM hJ.1 rfl (by decide) rfl (hJ.2 64 (by decide)).2 (by decide) tb_1241 dX10_asks_117 ?_
              refine lv_iload_n hx hb dX10_asks_120 rfl (lv_at hl 0 rfl) ?_
              refine m_iald (1064) hx hb hE hM (hJ.2 64 (by decide)).1 rfl (vp_in_iff.mpr (by omega)) dX10_asks_121 ?_
              refine lv_i2l hx hb dX10_asks_122 rfl ?_
              refine lv_topl (fun v32 ev32 => ?_)
              have tv32 := q_i2l ev32
              refine lv_goto (tgt := 127) hx hb dX10_asks_123 (by decide) ?_
              refine m_last (1043) hx hb hE hM hS (hJ.2 43 (by decide)).1 rfl (vp_in_iff.mpr (by omega)) dX10_asks_127 (fun H locs L33 eL33 hM hS => ?_)
              obtain ⟨v34, ev34⟩ : ∃ z : Int32, z = x3_92 + Int32.ofInt (1) := ⟨_, rfl⟩
              have tv34 := a_inc ev34 (by decide) (by omega) (by omega)
              refine lv_iinc (v := v34) (lv' := [(3, .int (v34)), (0, .ref (ad (1000))), (1, .int (a0)), (2, .int (a1))]) hx hb dX10_asks_128 hl (k := 0) rfl ev34.symm (by decide) rfl (fun ls hl => ?_)
              refine lv_goto (tgt := 92) hx hb dX10_asks_131 (by decide) ?_
              exact ih92 (v34) Ia92 L33 _ _ ls hI hK (by first | omega | decide) (by omega) hM hS (lv_sub hl [0, 1, 2, 3] rfl)
      exact loop92 (_ + 1) (0) I L25 _ _ ls hI hK (by first | omega | decide) (Nat.lt_succ_self _) hM hS (lv_sub hl [0, 1, 2, 3] rfl)
  · have hc9 := c9
    have q9 := q_nle hc9
    refine lv_aload_n hx hb dX10_asks_51 rfl (lv_at hl 0 rfl) ?_
    refine m_getr (1000) 9 (1009) hx hb hts hown hE oc10 hM hJ.1 rfl (by decide) rfl (hJ.2 9 (by decide)).2 (by decide) tb_1186 dX10_asks_52 ?_
    refine lv_iload_n hx hb dX10_asks_55 rfl (lv_at hl 2 rfl) ?_
    refine m_iald (1009) hx hb hE hM (hJ.2 9 (by decide)).1 rfl (vp_in_iff.mpr (by omega)) dX10_asks_56 ?_
    refine lv_i2l hx hb dX10_asks_57 rfl ?_
    refine lv_topl (fun v35 ev35 => ?_)
    have tv35 := q_i2l ev35
    refine lv_goto (tgt := 62) hx hb dX10_asks_58 (by decide) ?_
    refine m_last (1043) hx hb hE hM hS (hJ.2 43 (by decide)).1 rfl (vp_in_iff.mpr (by decide)) dX10_asks_62 (fun H locs L36 eL36 hM hS => ?_)
    refine lv_aload_n hx hb dX10_asks_63 rfl (lv_at hl 0 rfl) ?_
    refine m_getr (1000) 43 (1043) hx hb hts hown hE oc10 hM hJ.1 rfl (by decide) rfl (hJ.2 43 (by decide)).2 (by decide) tb_1220 dX10_asks_64 ?_
    refine lv_iconst (v := (4)) hx hb dX10_asks_67 (by decide) ?_
    refine lv_aload_n hx hb dX10_asks_68 rfl (lv_at hl 0 rfl) ?_
    refine lv_iload_n hx hb dX10_asks_69 rfl (lv_at hl 1 rfl) ?_
    refine m_calli (m_runV (1000) (As := [.int (a0)]) (rest := [.int (4), .ref (ad (1043))]) hx hb hml hown hts hE hM hS hA ce_X10_sunOf tb_1625 (V_X10_sunOf l D A ad ns I L36 G (a0) hJ hI (by first | omega | decide)) rfl rfl ⟨Nat.le_of_ble_eq_true rfl, Nat.le_of_ble_eq_true rfl⟩ hJ.1 rfl rfl (by decide) rfl hl.1 rfl (Nat.le_of_ble_eq_true rfl) dX10_asks_70 ⟨Nat.le_of_ble_eq_true rfl, Nat.le_of_ble_eq_true rfl⟩) hS (fun r37 u H locs hw hM hS => ?_)
    obtain ⟨rfl, xr37⟩ := hw
    have hM : Mem D A ad ns I L36 G H := hM
    refine lv_iconst (v := (-1)) hx hb dX10_asks_73 (by decide) ?_
    refine lv_icmp_ne (tgt := 83) hx hb dX10_asks_74 (by decide) (fun c38 => ?_) (fun c38 => ?_)
    · have hc38 := c38
      have q38 := q_ne hc38
      refine lv_aload_n hx hb dX10_asks_83 rfl (lv_at hl 0 rfl) ?_
      refine lv_iload_n hx hb dX10_asks_84 rfl (lv_at hl 1 rfl) ?_
      refine m_calli (m_runV (1000) (As := [.int (a0)]) (rest := [.int (4), .ref (ad (1043))]) hx hb hml hown hts hE hM hS hA ce_X10_sunOf tb_1625 (V_X10_sunOf l D A ad ns I L36 G (a0) hJ hI (by first | omega | decide)) rfl rfl ⟨Nat.le_of_ble_eq_true rfl, Nat.le_of_ble_eq_true rfl⟩ hJ.1 rfl rfl (by decide) rfl hl.1 rfl (Nat.le_of_ble_eq_true rfl) dX10_asks_85 ⟨Nat.le_of_ble_eq_true rfl, Nat.le_of_ble_eq_true rfl⟩) hS (fun r39 u H locs hw hM hS => ?_)
      obtain ⟨rfl, xr39⟩ := hw
      have hM : Mem D A ad ns I L36 G H := hM
      refine lv_i2l hx hb dX10_asks_88 rfl ?_
      refine lv_topl (fun v40 ev40 => ?_)
      have tv40 := q_i2l ev40
      refine m_last (1043) hx hb hE hM hS (hJ.2 43 (by decide)).1 rfl (vp_in_iff.mpr (by decide)) dX10_asks_89 (fun H locs L41 eL41 hM hS => ?_)
      refine lv_iconst (v := (0)) hx hb dX10_asks_90 (by decide) ?_
      refine lv_istore_n (lv' := [(3, .int (0)), (0, .ref (ad (1000))), (1, .int (a0)), (2, .int (a1))]) hx hb dX10_asks_91 rfl hl (by decide) rfl (fun ls hl => ?_)
      have loop92 : ∀ (n : Nat) (x3_92 : Int32) (Ia92 : MI) (La92 : ML) (H : Heap) (locs : List Loc) (ls : Array Slot), INV Ia92 → Kp [] [] I Ia92 → (0 ≤ x3_92.toInt ∧ x3_92.toInt ≤ 8) → (8 - x3_92.toInt).toNat < n → Mem D A ad ns Ia92 La92 G H → va_S A s.heap H locs → lv_has ls 4 [(3, .int (x3_92)), (0, .ref (ad (1000))), (1, .int (a0)), (2, .int (a1))] → W p l e ({ frames := 1, cells := 0, slots := 0, locals := 21 } : Room) s m args below meth c H locs 0 0 (MQ below (va_Qv (fun u => ∃ I2 L2, u = (ad, ns, I2, L2, G) ∧ INV I2 ∧ Kp [] [] I I2) (BM D A) A) args s 0 0 A) (F0 m 92 ls []) := by
        intro n
        induction n with
        | zero =>
          intro x3_92 Ia92 La92 H locs ls hI hK hr3_92 hmu
          exact absurd hmu (Nat.not_lt_zero _)
        | succ n ih92 =>
          intro x3_92 Ia92 La92 H locs ls hI hK hr3_92 hmu92 hM hS hl
          refine lv_iload_n hx hb dX10_asks_92 rfl (lv_at hl 0 rfl) ?_
          refine lv_bipush (v := (8)) hx hb dX10_asks_93 (by decide) ?_
          refine lv_icmp_ge (tgt := 134) hx hb dX10_asks_95 (by decide) (fun c42 => ?_) (fun c42 => ?_)
          · have hc42 := c42
            have q42 := q_le hc42
            exact m_vret hx hb hr hlocks hM hS (Nat.le_of_ble_eq_true rfl) (Nat.le_of_ble_eq_true rfl) ⟨_, _, rfl, hI, hK⟩ dX10_asks_134
          · have hc42 := c42
            have q42 := q_nle hc42
            refine lv_aload_n hx hb dX10_asks_98 rfl (lv_at hl 1 rfl) ?_
            refine m_getr (1000) 43 (1043) hx hb hts hown hE oc10 hM hJ.1 rfl (by decide) rfl (hJ.2 43 (by decide)).2 (by decide) tb_1220 dX10_asks_99 ?_
            refine lv_iconst (v := (5)) hx hb dX10_asks_102 (by decide) ?_
            refine lv_iload_n hx hb dX10_asks_103 rfl (lv_at hl 0 rfl) ?_
            refine lv_iadd hx hb dX10_asks_104 ?_
            refine lv_topi (fun v43 ev43 => ?_)
            have tv43 := a_add ev43 (by omega) (by omega)
            refine lv_iload_n hx hb dX10_asks_105 rfl (lv_at hl 0 rfl) ?_
            refine lv_aload_n hx hb dX10_asks_106 rfl (lv_at hl 1 rfl) ?_
            refine m_getr (1000) 1 (1001) hx hb hts hown hE oc10 hM hJ.1 rfl (by decide) rfl (hJ.2 1 (by decide)).2 (by decide) tb_1178 dX10_asks_107 ?_
            refine lv_bipush (v := (9)) hx hb dX10_asks_110 (by decide) ?_
            refine m_iald (1001) hx hb hE hM (hJ.2 1 (by decide)).1 rfl (vp_in_iff.mpr (by decide)) dX10_asks_112 ?_
            rw [show (9 : Int32).toNatClampNeg = 9 from rfl]
            have g44 := hI.get (1001) 9 (lo := 0) (hi := 8) rfl
            refine lv_icmp_ge (tgt := 126) hx hb dX10_asks_113 (by decide) (fun c45 => ?_) (fun c45 => ?_)
            · have hc45 := c45
              have q45 := q_le hc45
              refine lv_lconst (v := 0) hx hb dX10_asks_126 (by decide) ?_
              refine m_last (1043) hx hb hE hM hS (hJ.2 43 (by decide)).1 rfl (vp_in_iff.mpr (by omega)) dX10_asks_127 (fun H locs L46 eL46 hM hS => ?_)
              obtain ⟨v47, ev47⟩ : ∃ z : Int32, z = x3_92 + Int32.ofInt (1) := ⟨_, rfl⟩
              have tv47 := a_inc ev47 (by decide) (by omega) (by omega)
              refine lv_iinc (v := v47) (lv' := [(3, .int (v47)), (0, .ref (ad (1000))), (1, .int (a0)), (2, .int (a1))]) hx hb dX10_asks_128 hl (k := 0) rfl ev47.symm (by decide) rfl (fun ls hl => ?_)
              refine lv_goto (tgt := 92) hx hb dX10_asks_131 (by decide) ?_
              exact ih92 (v47) Ia92 L46 _ _ ls hI hK (by first | omega | decide) (by omega) hM hS (lv_sub hl [0, 1, 2, 3] rfl)
            · have hc45 := c45
              have q45 := q_nle hc45
              refine lv_aload_n hx hb dX10_asks_116 rfl (lv_at hl 1 rfl) ?_
              refine m_getr (1000) 64 (1064) hx hb hts hown hE oc10 hM hJ.1 rfl (by decide) rfl (hJ.2 64 (by decide)).2 (by decide) tb_1241 dX10_asks_117 ?_
              refine lv_iload_n hx hb dX10_asks_120 rfl (lv_at hl 0 rfl) ?_
              refine m_iald (1064) hx hb hE hM (hJ.2 64 (by decide)).1 rfl (vp_in_iff.mpr (by omega)) dX10_asks_121 ?_
              refine lv_i2l hx hb dX10_asks_122 rfl ?_
              refine lv_topl (fun v48 ev48 => ?_)
              have tv48 := q_i2l ev48
              refine lv_goto (tgt := 127) hx hb dX10_asks_123 (by decide) ?_
              refine m_last (1043) hx hb hE hM hS (hJ.2 43 (by decide)).1 rfl (vp_in_iff.mpr (by omega)) dX10_asks_127 (fun H locs L49 eL49 hM hS => ?_)
              obtain ⟨v50, ev50⟩ : ∃ z : Int32, z = x3_92 + Int32.ofInt (1) := ⟨_, rfl⟩
              have tv50 := a_inc ev50 (by decide) (by omega) (by omega)
              refine lv_iinc (v := v50) (lv' := [(3, .int (v50)), (0, .ref (ad (1000))), (1, .int (a0)), (2, .int (a1))]) hx hb dX10_asks_128 hl (k := 0) rfl ev50.symm (by decide) rfl (fun ls hl => ?_)
              refine lv_goto (tgt := 92) hx hb dX10_asks_131 (by decide) ?_
              exact ih92 (v50) Ia92 L49 _ _ ls hI hK (by first | omega | decide) (by omega) hM hS (lv_sub hl [0, 1, 2, 3] rfl)
      exact loop92 (_ + 1) (0) I L41 _ _ ls hI hK (by first | omega | decide) (Nat.lt_succ_self _) hM hS (lv_sub hl [0, 1, 2, 3] rfl)
    · have hc38 := c38
      have q38 := q_eq hc38
      refine lv_ldc2 (v := (8)) hx hb hown (hts _ tb_1629) dX10_asks_77 ?_
      refine lv_goto (tgt := 89) hx hb dX10_asks_80 (by decide) ?_
      refine m_last (1043) hx hb hE hM hS (hJ.2 43 (by decide)).1 rfl (vp_in_iff.mpr (by decide)) dX10_asks_89 (fun H locs L51 eL51 hM hS => ?_)
      refine lv_iconst (v := (0)) hx hb dX10_asks_90 (by decide) ?_
      refine lv_istore_n (lv' := [(3, .int (0)), (0, .ref (ad (1000))), (1, .int (a0)), (2, .int (a1))]) hx hb dX10_asks_91 rfl hl (by decide) rfl (fun ls hl => ?_)
      have loop92 : ∀ (n : Nat) (x3_92 : Int32) (Ia92 : MI) (La92 : ML) (H : Heap) (locs : List Loc) (ls : Array Slot), INV Ia92 → Kp [] [] I Ia92 → (0 ≤ x3_92.toInt ∧ x3_92.toInt ≤ 8) → (8 - x3_92.toInt).toNat < n → Mem D A ad ns Ia92 La92 G H → va_S A s.heap H locs → lv_has ls 4 [(3, .int (x3_92)), (0, .ref (ad (1000))), (1, .int (a0)), (2, .int (a1))] → W p l e ({ frames := 1, cells := 0, slots := 0, locals := 21 } : Room) s m args below meth c H locs 0 0 (MQ below (va_Qv (fun u => ∃ I2 L2, u = (ad, ns, I2, L2, G) ∧ INV I2 ∧ Kp [] [] I I2) (BM D A) A) args s 0 0 A) (F0 m 92 ls []) := by
        intro n
        induction n with
        | zero =>
          intro x3_92 Ia92 La92 H locs ls hI hK hr3_92 hmu
          exact absurd hmu (Nat.not_lt_zero _)
        | succ n ih92 =>
          intro x3_92 Ia92 La92 H locs ls hI hK hr3_92 hmu92 hM hS hl
          refine lv_iload_n hx hb dX10_asks_92 rfl (lv_at hl 0 rfl) ?_
          refine lv_bipush (v := (8)) hx hb dX10_asks_93 (by decide) ?_
          refine lv_icmp_ge (tgt := 134) hx hb dX10_asks_95 (by decide) (fun c52 => ?_) (fun c52 => ?_)
          · have hc52 := c52
            have q52 := q_le hc52
            exact m_vret hx hb hr hlocks hM hS (Nat.le_of_ble_eq_true rfl) (Nat.le_of_ble_eq_true rfl) ⟨_, _, rfl, hI, hK⟩ dX10_asks_134
          · have hc52 := c52
            have q52 := q_nle hc52
            refine lv_aload_n hx hb dX10_asks_98 rfl (lv_at hl 1 rfl) ?_
            refine m_getr (1000) 43 (1043) hx hb hts hown hE oc10 hM hJ.1 rfl (by decide) rfl (hJ.2 43 (by decide)).2 (by decide) tb_1220 dX10_asks_99 ?_
            refine lv_iconst (v := (5)) hx hb dX10_asks_102 (by decide) ?_
            refine lv_iload_n hx hb dX10_asks_103 rfl (lv_at hl 0 rfl) ?_
            refine lv_iadd hx hb dX10_asks_104 ?_
            refine lv_topi (fun v53 ev53 => ?_)
            have tv53 := a_add ev53 (by omega) (by omega)
            refine lv_iload_n hx hb dX10_asks_105 rfl (lv_at hl 0 rfl) ?_
            refine lv_aload_n hx hb dX10_asks_106 rfl (lv_at hl 1 rfl) ?_
            refine m_getr (1000) 1 (1001) hx hb hts hown hE oc10 hM hJ.1 rfl (by decide) rfl (hJ.2 1 (by decide)).2 (by decide) tb_1178 dX10_asks_107 ?_
            refine lv_bipush (v := (9)) hx hb dX10_asks_110 (by decide) ?_
            refine m_iald (1001) hx hb hE hM (hJ.2 1 (by decide)).1 rfl (vp_in_iff.mpr (by decide)) dX10_asks_112 ?_
            rw [show (9 : Int32).toNatClampNeg = 9 from rfl]
            have g54 := hI.get (1001) 9 (lo := 0) (hi := 8) rfl
            refine lv_icmp_ge (tgt := 126) hx hb dX10_asks_113 (by decide) (fun c55 => ?_) (fun c55 => ?_)
            · have hc55 := c55
              have q55 := q_le hc55
              refine lv_lconst (v := 0) hx hb dX10_asks_126 (by decide) ?_
              refine m_last (1043) hx hb hE hM hS (hJ.2 43 (by decide)).1 rfl (vp_in_iff.mpr (by omega)) dX10_asks_127 (fun H locs L56 eL56 hM hS => ?_)
              obtain ⟨v57, ev57⟩ : ∃ z : Int32, z = x3_92 + Int32.ofInt (1) := ⟨_, rfl⟩
              have tv57 := a_inc ev57 (by decide) (by omega) (by omega)
              refine lv_iinc (v := v57) (lv' := [(3, .int (v57)), (0, .ref (ad (1000))), (1, .int (a0)), (2, .int (a1))]) hx hb dX10_asks_128 hl (k := 0) rfl ev57.symm (by decide) rfl (fun ls hl => ?_)
              refine lv_goto (tgt := 92) hx hb dX10_asks_131 (by decide) ?_
              exact ih92 (v57) Ia92 L56 _ _ ls hI hK (by first | omega | decide) (by omega) hM hS (lv_sub hl [0, 1, 2, 3] rfl)
            · have hc55 := c55
              have q55 := q_nle hc55
              refine lv_aload_n hx hb dX10_asks_116 rfl (lv_at hl 1 rfl) ?_
              refine m_getr (1000) 64 (1064) hx hb hts hown hE oc10 hM hJ.1 rfl (by decide) rfl (hJ.2 64 (by decide)).2 (by decide) tb_1241 dX10_asks_117 ?_
              refine lv_iload_n hx hb dX10_asks_120 rfl (lv_at hl 0 rfl) ?_
              refine m_iald (1064) hx hb hE hM (hJ.2 64 (by decide)).1 rfl (vp_in_iff.mpr (by omega)) dX10_asks_121 ?_
              refine lv_i2l hx hb dX10_asks_122 rfl ?_
              refine lv_topl (fun v58 ev58 => ?_)
              have tv58 := q_i2l ev58
              refine lv_goto (tgt := 127) hx hb dX10_asks_123 (by decide) ?_
              refine m_last (1043) hx hb hE hM hS (hJ.2 43 (by decide)).1 rfl (vp_in_iff.mpr (by omega)) dX10_asks_127 (fun H locs L59 eL59 hM hS => ?_)
              obtain ⟨v60, ev60⟩ : ∃ z : Int32, z = x3_92 + Int32.ofInt (1) := ⟨_, rfl⟩
              have tv60 := a_inc ev60 (by decide) (by omega) (by omega)
              refine lv_iinc (v := v60) (lv' := [(3, .int (v60)), (0, .ref (ad (1000))), (1, .int (a0)), (2, .int (a1))]) hx hb dX10_asks_128 hl (k := 0) rfl ev60.symm (by decide) rfl (fun ls hl => ?_)
              refine lv_goto (tgt := 92) hx hb dX10_asks_131 (by decide) ?_
              exact ih92 (v60) Ia92 L59 _ _ ls hI hK (by first | omega | decide) (by omega) hM hS (lv_sub hl [0, 1, 2, 3] rfl)
      exact loop92 (_ + 1) (0) I L51 _ _ ls hI hK (by first | omega | decide) (Nat.lt_succ_self _) hM hS (lv_sub hl [0, 1, 2, 3] rfl)
theorem dX10_second_0 : decode cX10_second 0 = .ok (.aload_n 0, 1) := by decide +kernel
theorem dX10_second_1 : decode cX10_second 1 = .ok (.iload_n 1, 1) := by decide +kernel
theorem dX10_second_2 : decode cX10_second 2 = .ok (.invokevirtual 472, 3) := by decide +kernel
theorem dX10_second_5 : decode cX10_second 5 = .ok (.ifCond .eq 15, 3) := by decide +kernel
theorem dX10_second_8 : decode cX10_second 8 = .ok (.iload_n 2, 1) := by decide +kernel
theorem dX10_second_9 : decode cX10_second 9 = .ok (.i2l, 1) := by decide +kernel
theorem dX10_second_10 : decode cX10_second 10 = .ok (.lconst 0, 1) := by decide +kernel
theorem dX10_second_11 : decode cX10_second 11 = .ok (.ldc2_w 521, 3) := by decide +kernel
theorem dX10_second_14 : decode cX10_second 14 = .ok (.invokestatic 192, 3) := by decide +kernel
theorem dX10_second_17 : decode cX10_second 17 = .ok (.ifCond .ne 5, 3) := by decide +kernel
theorem dX10_second_20 : decode cX10_second 20 = .ok (.iconst (-1), 1) := by decide +kernel
theorem dX10_second_21 : decode cX10_second 21 = .ok (.ireturn, 1) := by decide +kernel
theorem dX10_second_22 : decode cX10_second 22 = .ok (.bipush (-2), 2) := by decide +kernel
theorem dX10_second_24 : decode cX10_second 24 = .ok (.istore_n 3, 1) := by decide +kernel
theorem dX10_second_25 : decode cX10_second 25 = .ok (.iconst 0, 1) := by decide +kernel
theorem dX10_second_26 : decode cX10_second 26 = .ok (.istore 4, 2) := by decide +kernel
theorem dX10_second_28 : decode cX10_second 28 = .ok (.iconst 0, 1) := by decide +kernel
theorem dX10_second_29 : decode cX10_second 29 = .ok (.istore 5, 2) := by decide +kernel
theorem dX10_second_31 : decode cX10_second 31 = .ok (.iconst 0, 1) := by decide +kernel
theorem dX10_second_32 : decode cX10_second 32 = .ok (.istore 6, 2) := by decide +kernel
theorem dX10_second_34 : decode cX10_second 34 = .ok (.iload 6, 2) := by decide +kernel
theorem dX10_second_36 : decode cX10_second 36 = .ok (.sipush 576, 3) := by decide +kernel
theorem dX10_second_39 : decode cX10_second 39 = .ok (.if_icmp .ge 220, 3) := by decide +kernel
theorem dX10_second_42 : decode cX10_second 42 = .ok (.iload 6, 2) := by decide +kernel
theorem dX10_second_44 : decode cX10_second 44 = .ok (.bipush 24, 2) := by decide +kernel
theorem dX10_second_46 : decode cX10_second 46 = .ok (.irem, 1) := by decide +kernel
theorem dX10_second_47 : decode cX10_second 47 = .ok (.istore 7, 2) := by decide +kernel
theorem dX10_second_49 : decode cX10_second 49 = .ok (.iload 6, 2) := by decide +kernel
theorem dX10_second_51 : decode cX10_second 51 = .ok (.bipush 24, 2) := by decide +kernel
theorem dX10_second_53 : decode cX10_second 53 = .ok (.idiv, 1) := by decide +kernel
theorem dX10_second_54 : decode cX10_second 54 = .ok (.istore 8, 2) := by decide +kernel
theorem dX10_second_56 : decode cX10_second 56 = .ok (.aload_n 0, 1) := by decide +kernel
theorem dX10_second_57 : decode cX10_second 57 = .ok (.iload 7, 2) := by decide +kernel
theorem dX10_second_59 : decode cX10_second 59 = .ok (.iload 8, 2) := by decide +kernel
theorem dX10_second_61 : decode cX10_second 61 = .ok (.invokevirtual 196, 3) := by decide +kernel
theorem dX10_second_64 : decode cX10_second 64 = .ok (.ifCond .eq 43, 3) := by decide +kernel
theorem dX10_second_67 : decode cX10_second 67 = .ok (.iload 7, 2) := by decide +kernel
theorem dX10_second_69 : decode cX10_second 69 = .ok (.ifCond .eq 34, 3) := by decide +kernel
theorem dX10_second_72 : decode cX10_second 72 = .ok (.iload 8, 2) := by decide +kernel
theorem dX10_second_74 : decode cX10_second 74 = .ok (.ifCond .eq 29, 3) := by decide +kernel
theorem dX10_second_77 : decode cX10_second 77 = .ok (.iload 7, 2) := by decide +kernel
theorem dX10_second_79 : decode cX10_second 79 = .ok (.aload_n 0, 1) := by decide +kernel
theorem dX10_second_80 : decode cX10_second 80 = .ok (.getfield 7, 3) := by decide +kernel
theorem dX10_second_83 : decode cX10_second 83 = .ok (.iconst 1, 1) := by decide +kernel
theorem dX10_second_84 : decode cX10_second 84 = .ok (.iaload, 1) := by decide +kernel
theorem dX10_second_85 : decode cX10_second 85 = .ok (.iconst 1, 1) := by decide +kernel
theorem dX10_second_86 : decode cX10_second 86 = .ok (.isub, 1) := by decide +kernel
theorem dX10_second_87 : decode cX10_second 87 = .ok (.if_icmp .eq 16, 3) := by decide +kernel
theorem dX10_second_90 : decode cX10_second 90 = .ok (.iload 8, 2) := by decide +kernel
theorem dX10_second_92 : decode cX10_second 92 = .ok (.aload_n 0, 1) := by decide +kernel
theorem dX10_second_93 : decode cX10_second 93 = .ok (.getfield 7, 3) := by decide +kernel
theorem dX10_second_96 : decode cX10_second 96 = .ok (.iconst 2, 1) := by decide +kernel
theorem dX10_second_97 : decode cX10_second 97 = .ok (.iaload, 1) := by decide +kernel
theorem dX10_second_98 : decode cX10_second 98 = .ok (.iconst 1, 1) := by decide +kernel
theorem dX10_second_99 : decode cX10_second 99 = .ok (.isub, 1) := by decide +kernel
theorem dX10_second_100 : decode cX10_second 100 = .ok (.if_icmp .ne 7, 3) := by decide +kernel
theorem dX10_second_103 : decode cX10_second 103 = .ok (.iconst 1, 1) := by decide +kernel
theorem dX10_second_104 : decode cX10_second 104 = .ok (.goto 4, 3) := by decide +kernel
theorem dX10_second_107 : decode cX10_second 107 = .ok (.iconst 0, 1) := by decide +kernel
theorem dX10_second_108 : decode cX10_second 108 = .ok (.istore 9, 2) := by decide +kernel
theorem dX10_second_110 : decode cX10_second 110 = .ok (.iconst 0, 1) := by decide +kernel
theorem dX10_second_111 : decode cX10_second 111 = .ok (.istore 10, 2) := by decide +kernel
theorem dX10_second_113 : decode cX10_second 113 = .ok (.iload 10, 2) := by decide +kernel
theorem dX10_second_115 : decode cX10_second 115 = .ok (.bipush 8, 2) := by decide +kernel
theorem dX10_second_117 : decode cX10_second 117 = .ok (.if_icmp .ge 136, 3) := by decide +kernel
theorem dX10_second_120 : decode cX10_second 120 = .ok (.iload 9, 2) := by decide +kernel
theorem dX10_second_122 : decode cX10_second 122 = .ok (.ifCond .eq 131, 3) := by decide +kernel
theorem dX10_second_125 : decode cX10_second 125 = .ok (.aload_n 0, 1) := by decide +kernel
theorem dX10_second_126 : decode cX10_second 126 = .ok (.getfield 13, 3) := by decide +kernel
theorem dX10_second_129 : decode cX10_second 129 = .ok (.iload 6, 2) := by decide +kernel
theorem dX10_second_131 : decode cX10_second 131 = .ok (.iaload, 1) := by decide +kernel
theorem dX10_second_132 : decode cX10_second 132 = .ok (.ifCond .ne 121, 3) := by decide +kernel
theorem dX10_second_135 : decode cX10_second 135 = .ok (.iload 6, 2) := by decide +kernel
theorem dX10_second_137 : decode cX10_second 137 = .ok (.aload_n 0, 1) := by decide +kernel
theorem dX10_second_138 : decode cX10_second 138 = .ok (.getfield 7, 3) := by decide +kernel
theorem dX10_second_141 : decode cX10_second 141 = .ok (.iconst 3, 1) := by decide +kernel
theorem dX10_second_142 : decode cX10_second 142 = .ok (.iaload, 1) := by decide +kernel
theorem dX10_second_143 : decode cX10_second 143 = .ok (.if_icmp .eq 110, 3) := by decide +kernel
theorem dX10_second_146 : decode cX10_second 146 = .ok (.aload_n 0, 1) := by decide +kernel
theorem dX10_second_147 : decode cX10_second 147 = .ok (.iload 7, 2) := by decide +kernel
theorem dX10_second_149 : decode cX10_second 149 = .ok (.iload 10, 2) := by decide +kernel
theorem dX10_second_151 : decode cX10_second 151 = .ok (.invokestatic 420, 3) := by decide +kernel
theorem dX10_second_154 : decode cX10_second 154 = .ok (.iadd, 1) := by decide +kernel
theorem dX10_second_155 : decode cX10_second 155 = .ok (.iload 8, 2) := by decide +kernel
theorem dX10_second_157 : decode cX10_second 157 = .ok (.iload 10, 2) := by decide +kernel
theorem dX10_second_159 : decode cX10_second 159 = .ok (.invokestatic 423, 3) := by decide +kernel
theorem dX10_second_162 : decode cX10_second 162 = .ok (.iadd, 1) := by decide +kernel
theorem dX10_second_163 : decode cX10_second 163 = .ok (.invokevirtual 196, 3) := by decide +kernel
theorem dX10_second_166 : decode cX10_second 166 = .ok (.ifCond .eq 81, 3) := by decide +kernel
theorem dX10_second_169 : decode cX10_second 169 = .ok (.iconst 0, 1) := by decide +kernel
theorem dX10_second_170 : decode cX10_second 170 = .ok (.istore 11, 2) := by decide +kernel
theorem dX10_second_172 : decode cX10_second 172 = .ok (.iload 11, 2) := by decide +kernel
theorem dX10_second_174 : decode cX10_second 174 = .ok (.bipush 8, 2) := by decide +kernel
theorem dX10_second_176 : decode cX10_second 176 = .ok (.if_icmp .ge 17, 3) := by decide +kernel
theorem dX10_second_179 : decode cX10_second 179 = .ok (.aload_n 0, 1) := by decide +kernel
theorem dX10_second_180 : decode cX10_second 180 = .ok (.getfield 133, 3) := by decide +kernel
theorem dX10_second_183 : decode cX10_second 183 = .ok (.iload 11, 2) := by decide +kernel
theorem dX10_second_185 : decode cX10_second 185 = .ok (.iconst 0, 1) := by decide +kernel
theorem dX10_second_186 : decode cX10_second 186 = .ok (.iastore, 1) := by decide +kernel
theorem dX10_second_187 : decode cX10_second 187 = .ok (.iinc 11 1, 3) := by decide +kernel
theorem dX10_second_190 : decode cX10_second 190 = .ok (.goto (-18), 3) := by decide +kernel
theorem dX10_second_193 : decode cX10_second 193 = .ok (.aload_n 0, 1) := by decide +kernel
theorem dX10_second_194 : decode cX10_second 194 = .ok (.iload 6, 2) := by decide +kernel
theorem dX10_second_196 : decode cX10_second 196 = .ok (.iload 10, 2) := by decide +kernel
theorem dX10_second_198 : decode cX10_second 198 = .ok (.aload_n 0, 1) := by decide +kernel
theorem dX10_second_199 : decode cX10_second 199 = .ok (.getfield 22, 3) := by decide +kernel
theorem dX10_second_202 : decode cX10_second 202 = .ok (.bipush 24, 2) := by decide +kernel
theorem dX10_second_204 : decode cX10_second 204 = .ok (.aload_n 0, 1) := by decide +kernel
theorem dX10_second_205 : decode cX10_second 205 = .ok (.getfield 7, 3) := by decide +kernel
theorem dX10_second_208 : decode cX10_second 208 = .ok (.iconst 5, 1) := by decide +kernel
theorem dX10_second_209 : decode cX10_second 209 = .ok (.iaload, 1) := by decide +kernel
theorem dX10_second_210 : decode cX10_second 210 = .ok (.imul, 1) := by decide +kernel
theorem dX10_second_211 : decode cX10_second 211 = .ok (.iload_n 1, 1) := by decide +kernel
theorem dX10_second_212 : decode cX10_second 212 = .ok (.iadd, 1) := by decide +kernel
theorem dX10_second_213 : decode cX10_second 213 = .ok (.iaload, 1) := by decide +kernel
theorem dX10_second_214 : decode cX10_second 214 = .ok (.invokevirtual 436, 3) := by decide +kernel
theorem dX10_second_217 : decode cX10_second 217 = .ok (.aload_n 0, 1) := by decide +kernel
theorem dX10_second_218 : decode cX10_second 218 = .ok (.invokevirtual 477, 3) := by decide +kernel
theorem dX10_second_221 : decode cX10_second 221 = .ok (.istore 11, 2) := by decide +kernel
theorem dX10_second_223 : decode cX10_second 223 = .ok (.iload_n 3, 1) := by decide +kernel
theorem dX10_second_224 : decode cX10_second 224 = .ok (.bipush (-2), 2) := by decide +kernel
theorem dX10_second_226 : decode cX10_second 226 = .ok (.if_icmp .eq 10, 3) := by decide +kernel
theorem dX10_second_229 : decode cX10_second 229 = .ok (.iload 11, 2) := by decide +kernel
theorem dX10_second_231 : decode cX10_second 231 = .ok (.iload 5, 2) := by decide +kernel
theorem dX10_second_233 : decode cX10_second 233 = .ok (.if_icmp .le 14, 3) := by decide +kernel
theorem dX10_second_236 : decode cX10_second 236 = .ok (.iload 6, 2) := by decide +kernel
theorem dX10_second_238 : decode cX10_second 238 = .ok (.istore_n 3, 1) := by decide +kernel
theorem dX10_second_239 : decode cX10_second 239 = .ok (.iload 10, 2) := by decide +kernel
theorem dX10_second_241 : decode cX10_second 241 = .ok (.istore 4, 2) := by decide +kernel
theorem dX10_second_243 : decode cX10_second 243 = .ok (.iload 11, 2) := by decide +kernel
theorem dX10_second_245 : decode cX10_second 245 = .ok (.istore 5, 2) := by decide +kernel
theorem dX10_second_247 : decode cX10_second 247 = .ok (.iinc 10 1, 3) := by decide +kernel
theorem dX10_second_250 : decode cX10_second 250 = .ok (.goto (-137), 3) := by decide +kernel
theorem dX10_second_253 : decode cX10_second 253 = .ok (.iinc 6 1, 3) := by decide +kernel
theorem dX10_second_256 : decode cX10_second 256 = .ok (.goto (-222), 3) := by decide +kernel
theorem dX10_second_259 : decode cX10_second 259 = .ok (.iload_n 3, 1) := by decide +kernel
theorem dX10_second_260 : decode cX10_second 260 = .ok (.bipush (-2), 2) := by decide +kernel
theorem dX10_second_262 : decode cX10_second 262 = .ok (.if_icmp .eq 7, 3) := by decide +kernel
theorem dX10_second_265 : decode cX10_second 265 = .ok (.iload_n 2, 1) := by decide +kernel
theorem dX10_second_266 : decode cX10_second 266 = .ok (.ifCond .ne 7, 3) := by decide +kernel
theorem dX10_second_269 : decode cX10_second 269 = .ok (.iload_n 3, 1) := by decide +kernel
theorem dX10_second_270 : decode cX10_second 270 = .ok (.goto 15, 3) := by decide +kernel
theorem dX10_second_273 : decode cX10_second 273 = .ok (.iload_n 2, 1) := by decide +kernel
theorem dX10_second_274 : decode cX10_second 274 = .ok (.iconst 1, 1) := by decide +kernel
theorem dX10_second_275 : decode cX10_second 275 = .ok (.if_icmp .ne 8, 3) := by decide +kernel
theorem dX10_second_278 : decode cX10_second 278 = .ok (.iload 4, 2) := by decide +kernel
theorem dX10_second_280 : decode cX10_second 280 = .ok (.goto 5, 3) := by decide +kernel
theorem dX10_second_283 : decode cX10_second 283 = .ok (.iload 5, 2) := by decide +kernel
theorem dX10_second_285 : decode cX10_second 285 = .ok (.ireturn, 1) := by decide +kernel
theorem ce_X10_second : CeV RX10 yX10_second cX10_second 12 (some .int) 2 := ⟨tb_1786, tb_1787, tb_11, tb_1788, rfl, by decide, by decide, by decide +kernel⟩
theorem dX10_thief_0 : decode cX10_thief 0 = .ok (.aload_n 0, 1) := by decide +kernel
theorem dX10_thief_1 : decode cX10_thief 1 = .ok (.iload_n 1, 1) := by decide +kernel
theorem dX10_thief_2 : decode cX10_thief 2 = .ok (.invokevirtual 472, 3) := by decide +kernel
theorem dX10_thief_5 : decode cX10_thief 5 = .ok (.ifCond .eq 15, 3) := by decide +kernel
theorem dX10_thief_8 : decode cX10_thief 8 = .ok (.iload_n 2, 1) := by decide +kernel
theorem dX10_thief_9 : decode cX10_thief 9 = .ok (.i2l, 1) := by decide +kernel
theorem dX10_thief_10 : decode cX10_thief 10 = .ok (.lconst 0, 1) := by decide +kernel
theorem dX10_thief_11 : decode cX10_thief 11 = .ok (.ldc2_w 521, 3) := by decide +kernel
theorem dX10_thief_14 : decode cX10_thief 14 = .ok (.invokestatic 192, 3) := by decide +kernel
theorem dX10_thief_17 : decode cX10_thief 17 = .ok (.ifCond .ne 5, 3) := by decide +kernel
theorem dX10_thief_20 : decode cX10_thief 20 = .ok (.iconst (-1), 1) := by decide +kernel
theorem dX10_thief_21 : decode cX10_thief 21 = .ok (.ireturn, 1) := by decide +kernel
theorem dX10_thief_22 : decode cX10_thief 22 = .ok (.aload_n 0, 1) := by decide +kernel
theorem dX10_thief_23 : decode cX10_thief 23 = .ok (.iconst (-1), 1) := by decide +kernel
theorem dX10_thief_24 : decode cX10_thief 24 = .ok (.putfield 136, 3) := by decide +kernel
theorem dX10_thief_27 : decode cX10_thief 27 = .ok (.aload_n 0, 1) := by decide +kernel
theorem dX10_thief_28 : decode cX10_thief 28 = .ok (.iload_n 1, 1) := by decide +kernel
theorem dX10_thief_29 : decode cX10_thief 29 = .ok (.invokevirtual 523, 3) := by decide +kernel
theorem dX10_thief_32 : decode cX10_thief 32 = .ok (.iconst (-1), 1) := by decide +kernel
theorem dX10_thief_33 : decode cX10_thief 33 = .ok (.istore_n 3, 1) := by decide +kernel
theorem dX10_thief_34 : decode cX10_thief 34 = .ok (.iconst 0, 1) := by decide +kernel
theorem dX10_thief_35 : decode cX10_thief 35 = .ok (.istore 4, 2) := by decide +kernel
theorem dX10_thief_37 : decode cX10_thief 37 = .ok (.iload 4, 2) := by decide +kernel
theorem dX10_thief_39 : decode cX10_thief 39 = .ok (.aload_n 0, 1) := by decide +kernel
theorem dX10_thief_40 : decode cX10_thief 40 = .ok (.getfield 7, 3) := by decide +kernel
theorem dX10_thief_43 : decode cX10_thief 43 = .ok (.bipush 8, 2) := by decide +kernel
theorem dX10_thief_45 : decode cX10_thief 45 = .ok (.iaload, 1) := by decide +kernel
theorem dX10_thief_46 : decode cX10_thief 46 = .ok (.if_icmp .ge 87, 3) := by decide +kernel
theorem dX10_thief_49 : decode cX10_thief 49 = .ok (.aload_n 0, 1) := by decide +kernel
theorem dX10_thief_50 : decode cX10_thief 50 = .ok (.getfield 149, 3) := by decide +kernel
theorem dX10_thief_53 : decode cX10_thief 53 = .ok (.iload 4, 2) := by decide +kernel
theorem dX10_thief_55 : decode cX10_thief 55 = .ok (.iaload, 1) := by decide +kernel
theorem dX10_thief_56 : decode cX10_thief 56 = .ok (.ifCond .le 35, 3) := by decide +kernel
theorem dX10_thief_59 : decode cX10_thief 59 = .ok (.aload_n 0, 1) := by decide +kernel
theorem dX10_thief_60 : decode cX10_thief 60 = .ok (.getfield 55, 3) := by decide +kernel
theorem dX10_thief_63 : decode cX10_thief 63 = .ok (.iload 4, 2) := by decide +kernel
theorem dX10_thief_65 : decode cX10_thief 65 = .ok (.iaload, 1) := by decide +kernel
theorem dX10_thief_66 : decode cX10_thief 66 = .ok (.iconst (-1), 1) := by decide +kernel
theorem dX10_thief_67 : decode cX10_thief 67 = .ok (.if_icmp .eq 24, 3) := by decide +kernel
theorem dX10_thief_70 : decode cX10_thief 70 = .ok (.aload_n 0, 1) := by decide +kernel
theorem dX10_thief_71 : decode cX10_thief 71 = .ok (.getfield 55, 3) := by decide +kernel
theorem dX10_thief_74 : decode cX10_thief 74 = .ok (.iload 4, 2) := by decide +kernel
theorem dX10_thief_76 : decode cX10_thief 76 = .ok (.iaload, 1) := by decide +kernel
theorem dX10_thief_77 : decode cX10_thief 77 = .ok (.aload_n 0, 1) := by decide +kernel
theorem dX10_thief_78 : decode cX10_thief 78 = .ok (.getfield 146, 3) := by decide +kernel
theorem dX10_thief_81 : decode cX10_thief 81 = .ok (.iload 4, 2) := by decide +kernel
theorem dX10_thief_83 : decode cX10_thief 83 = .ok (.iaload, 1) := by decide +kernel
theorem dX10_thief_84 : decode cX10_thief 84 = .ok (.if_icmp .ge 7, 3) := by decide +kernel
theorem dX10_thief_87 : decode cX10_thief 87 = .ok (.iconst 1, 1) := by decide +kernel
theorem dX10_thief_88 : decode cX10_thief 88 = .ok (.goto 4, 3) := by decide +kernel
theorem dX10_thief_91 : decode cX10_thief 91 = .ok (.iconst 0, 1) := by decide +kernel
theorem dX10_thief_92 : decode cX10_thief 92 = .ok (.istore 5, 2) := by decide +kernel
theorem dX10_thief_94 : decode cX10_thief 94 = .ok (.iload 5, 2) := by decide +kernel
theorem dX10_thief_96 : decode cX10_thief 96 = .ok (.ifCond .eq 29, 3) := by decide +kernel
theorem dX10_thief_99 : decode cX10_thief 99 = .ok (.iload_n 3, 1) := by decide +kernel
theorem dX10_thief_100 : decode cX10_thief 100 = .ok (.iconst (-1), 1) := by decide +kernel
theorem dX10_thief_101 : decode cX10_thief 101 = .ok (.if_icmp .eq 19, 3) := by decide +kernel
theorem dX10_thief_104 : decode cX10_thief 104 = .ok (.aload_n 0, 1) := by decide +kernel
theorem dX10_thief_105 : decode cX10_thief 105 = .ok (.getfield 149, 3) := by decide +kernel
theorem dX10_thief_108 : decode cX10_thief 108 = .ok (.iload 4, 2) := by decide +kernel
theorem dX10_thief_110 : decode cX10_thief 110 = .ok (.iaload, 1) := by decide +kernel
theorem dX10_thief_111 : decode cX10_thief 111 = .ok (.aload_n 0, 1) := by decide +kernel
theorem dX10_thief_112 : decode cX10_thief 112 = .ok (.getfield 149, 3) := by decide +kernel
theorem dX10_thief_115 : decode cX10_thief 115 = .ok (.iload_n 3, 1) := by decide +kernel
theorem dX10_thief_116 : decode cX10_thief 116 = .ok (.iaload, 1) := by decide +kernel
theorem dX10_thief_117 : decode cX10_thief 117 = .ok (.if_icmp .ge 8, 3) := by decide +kernel
theorem dX10_thief_120 : decode cX10_thief 120 = .ok (.iload 4, 2) := by decide +kernel
theorem dX10_thief_122 : decode cX10_thief 122 = .ok (.goto 4, 3) := by decide +kernel
theorem dX10_thief_125 : decode cX10_thief 125 = .ok (.iload_n 3, 1) := by decide +kernel
theorem dX10_thief_126 : decode cX10_thief 126 = .ok (.istore_n 3, 1) := by decide +kernel
theorem dX10_thief_127 : decode cX10_thief 127 = .ok (.iinc 4 1, 3) := by decide +kernel
theorem dX10_thief_130 : decode cX10_thief 130 = .ok (.goto (-93), 3) := by decide +kernel
theorem dX10_thief_133 : decode cX10_thief 133 = .ok (.iload_n 3, 1) := by decide +kernel
theorem dX10_thief_134 : decode cX10_thief 134 = .ok (.iconst (-1), 1) := by decide +kernel
theorem dX10_thief_135 : decode cX10_thief 135 = .ok (.if_icmp .ne 14, 3) := by decide +kernel
theorem dX10_thief_138 : decode cX10_thief 138 = .ok (.iload_n 2, 1) := by decide +kernel
theorem dX10_thief_139 : decode cX10_thief 139 = .ok (.ifCond .ne 8, 3) := by decide +kernel
theorem dX10_thief_142 : decode cX10_thief 142 = .ok (.bipush (-2), 2) := by decide +kernel
theorem dX10_thief_144 : decode cX10_thief 144 = .ok (.goto 4, 3) := by decide +kernel
theorem dX10_thief_147 : decode cX10_thief 147 = .ok (.iconst 0, 1) := by decide +kernel
theorem dX10_thief_148 : decode cX10_thief 148 = .ok (.ireturn, 1) := by decide +kernel
theorem dX10_thief_149 : decode cX10_thief 149 = .ok (.aload_n 0, 1) := by decide +kernel
theorem dX10_thief_150 : decode cX10_thief 150 = .ok (.getfield 146, 3) := by decide +kernel
theorem dX10_thief_153 : decode cX10_thief 153 = .ok (.iload_n 3, 1) := by decide +kernel
theorem dX10_thief_154 : decode cX10_thief 154 = .ok (.iaload, 1) := by decide +kernel
theorem dX10_thief_155 : decode cX10_thief 155 = .ok (.aload_n 0, 1) := by decide +kernel
theorem dX10_thief_156 : decode cX10_thief 156 = .ok (.getfield 55, 3) := by decide +kernel
theorem dX10_thief_159 : decode cX10_thief 159 = .ok (.iload_n 3, 1) := by decide +kernel
theorem dX10_thief_160 : decode cX10_thief 160 = .ok (.iaload, 1) := by decide +kernel
theorem dX10_thief_161 : decode cX10_thief 161 = .ok (.isub, 1) := by decide +kernel
theorem dX10_thief_162 : decode cX10_thief 162 = .ok (.istore 4, 2) := by decide +kernel
theorem dX10_thief_164 : decode cX10_thief 164 = .ok (.aload_n 0, 1) := by decide +kernel
theorem dX10_thief_165 : decode cX10_thief 165 = .ok (.getfield 149, 3) := by decide +kernel
theorem dX10_thief_168 : decode cX10_thief 168 = .ok (.aload_n 0, 1) := by decide +kernel
theorem dX10_thief_169 : decode cX10_thief 169 = .ok (.getfield 143, 3) := by decide +kernel
theorem dX10_thief_172 : decode cX10_thief 172 = .ok (.invokestatic 483, 3) := by decide +kernel
theorem dX10_thief_175 : decode cX10_thief 175 = .ok (.aload_n 0, 1) := by decide +kernel
theorem dX10_thief_176 : decode cX10_thief 176 = .ok (.iload_n 3, 1) := by decide +kernel
theorem dX10_thief_177 : decode cX10_thief 177 = .ok (.putfield 136, 3) := by decide +kernel
theorem dX10_thief_180 : decode cX10_thief 180 = .ok (.aload_n 0, 1) := by decide +kernel
theorem dX10_thief_181 : decode cX10_thief 181 = .ok (.iload_n 1, 1) := by decide +kernel
theorem dX10_thief_182 : decode cX10_thief 182 = .ok (.invokevirtual 523, 3) := by decide +kernel
theorem dX10_thief_185 : decode cX10_thief 185 = .ok (.aload_n 0, 1) := by decide +kernel
theorem dX10_thief_186 : decode cX10_thief 186 = .ok (.iconst (-1), 1) := by decide +kernel
theorem dX10_thief_187 : decode cX10_thief 187 = .ok (.putfield 136, 3) := by decide +kernel
theorem dX10_thief_190 : decode cX10_thief 190 = .ok (.iconst 1, 1) := by decide +kernel
theorem dX10_thief_191 : decode cX10_thief 191 = .ok (.istore 5, 2) := by decide +kernel
theorem dX10_thief_193 : decode cX10_thief 193 = .ok (.iconst 0, 1) := by decide +kernel
theorem dX10_thief_194 : decode cX10_thief 194 = .ok (.istore 6, 2) := by decide +kernel
theorem dX10_thief_196 : decode cX10_thief 196 = .ok (.iload 6, 2) := by decide +kernel
theorem dX10_thief_198 : decode cX10_thief 198 = .ok (.aload_n 0, 1) := by decide +kernel
theorem dX10_thief_199 : decode cX10_thief 199 = .ok (.getfield 7, 3) := by decide +kernel
theorem dX10_thief_202 : decode cX10_thief 202 = .ok (.bipush 8, 2) := by decide +kernel
theorem dX10_thief_204 : decode cX10_thief 204 = .ok (.iaload, 1) := by decide +kernel
theorem dX10_thief_205 : decode cX10_thief 205 = .ok (.if_icmp .ge 65, 3) := by decide +kernel
theorem dX10_thief_208 : decode cX10_thief 208 = .ok (.iload 5, 2) := by decide +kernel
theorem dX10_thief_210 : decode cX10_thief 210 = .ok (.ifCond .eq 51, 3) := by decide +kernel
theorem dX10_thief_213 : decode cX10_thief 213 = .ok (.aload_n 0, 1) := by decide +kernel
theorem dX10_thief_214 : decode cX10_thief 214 = .ok (.getfield 143, 3) := by decide +kernel
theorem dX10_thief_217 : decode cX10_thief 217 = .ok (.iload 6, 2) := by decide +kernel
theorem dX10_thief_219 : decode cX10_thief 219 = .ok (.iaload, 1) := by decide +kernel
theorem dX10_thief_220 : decode cX10_thief 220 = .ok (.aload_n 0, 1) := by decide +kernel
theorem dX10_thief_221 : decode cX10_thief 221 = .ok (.getfield 143, 3) := by decide +kernel
theorem dX10_thief_224 : decode cX10_thief 224 = .ok (.iload_n 3, 1) := by decide +kernel
theorem dX10_thief_225 : decode cX10_thief 225 = .ok (.iaload, 1) := by decide +kernel
theorem dX10_thief_226 : decode cX10_thief 226 = .ok (.if_icmp .le 31, 3) := by decide +kernel
theorem dX10_thief_229 : decode cX10_thief 229 = .ok (.aload_n 0, 1) := by decide +kernel
theorem dX10_thief_230 : decode cX10_thief 230 = .ok (.getfield 55, 3) := by decide +kernel
theorem dX10_thief_233 : decode cX10_thief 233 = .ok (.iload 6, 2) := by decide +kernel
theorem dX10_thief_235 : decode cX10_thief 235 = .ok (.iaload, 1) := by decide +kernel
theorem dX10_thief_236 : decode cX10_thief 236 = .ok (.iconst (-1), 1) := by decide +kernel
theorem dX10_thief_237 : decode cX10_thief 237 = .ok (.if_icmp .eq 20, 3) := by decide +kernel
theorem dX10_thief_240 : decode cX10_thief 240 = .ok (.aload_n 0, 1) := by decide +kernel
theorem dX10_thief_241 : decode cX10_thief 241 = .ok (.getfield 55, 3) := by decide +kernel
theorem dX10_thief_244 : decode cX10_thief 244 = .ok (.iload 6, 2) := by decide +kernel
theorem dX10_thief_246 : decode cX10_thief 246 = .ok (.iaload, 1) := by decide +kernel
theorem dX10_thief_247 : decode cX10_thief 247 = .ok (.aload_n 0, 1) := by decide +kernel
theorem dX10_thief_248 : decode cX10_thief 248 = .ok (.getfield 146, 3) := by decide +kernel
theorem dX10_thief_251 : decode cX10_thief 251 = .ok (.iload 6, 2) := by decide +kernel
theorem dX10_thief_253 : decode cX10_thief 253 = .ok (.iaload, 1) := by decide +kernel
theorem dX10_thief_254 : decode cX10_thief 254 = .ok (.if_icmp .ne 7, 3) := by decide +kernel
theorem dX10_thief_257 : decode cX10_thief 257 = .ok (.iconst 1, 1) := by decide +kernel
theorem dX10_thief_258 : decode cX10_thief 258 = .ok (.goto 4, 3) := by decide +kernel
theorem dX10_thief_261 : decode cX10_thief 261 = .ok (.iconst 0, 1) := by decide +kernel
theorem dX10_thief_262 : decode cX10_thief 262 = .ok (.istore 5, 2) := by decide +kernel
theorem dX10_thief_264 : decode cX10_thief 264 = .ok (.iinc 6 1, 3) := by decide +kernel
theorem dX10_thief_267 : decode cX10_thief 267 = .ok (.goto (-71), 3) := by decide +kernel
theorem dX10_thief_270 : decode cX10_thief 270 = .ok (.iload_n 2, 1) := by decide +kernel
theorem dX10_thief_271 : decode cX10_thief 271 = .ok (.ifCond .ne 7, 3) := by decide +kernel
theorem dX10_thief_274 : decode cX10_thief 274 = .ok (.iload_n 3, 1) := by decide +kernel
theorem dX10_thief_275 : decode cX10_thief 275 = .ok (.goto 23, 3) := by decide +kernel
theorem dX10_thief_278 : decode cX10_thief 278 = .ok (.iload_n 2, 1) := by decide +kernel
theorem dX10_thief_279 : decode cX10_thief 279 = .ok (.iconst 1, 1) := by decide +kernel
theorem dX10_thief_280 : decode cX10_thief 280 = .ok (.if_icmp .ne 8, 3) := by decide +kernel
theorem dX10_thief_283 : decode cX10_thief 283 = .ok (.iload 4, 2) := by decide +kernel
theorem dX10_thief_285 : decode cX10_thief 285 = .ok (.goto 13, 3) := by decide +kernel
theorem dX10_thief_288 : decode cX10_thief 288 = .ok (.iload 5, 2) := by decide +kernel
theorem dX10_thief_290 : decode cX10_thief 290 = .ok (.ifCond .eq 7, 3) := by decide +kernel
theorem dX10_thief_293 : decode cX10_thief 293 = .ok (.iconst 1, 1) := by decide +kernel
theorem dX10_thief_294 : decode cX10_thief 294 = .ok (.goto 4, 3) := by decide +kernel
theorem dX10_thief_297 : decode cX10_thief 297 = .ok (.iconst 0, 1) := by decide +kernel
theorem dX10_thief_298 : decode cX10_thief 298 = .ok (.ireturn, 1) := by decide +kernel
theorem ce_X10_thief : CeV RX10 yX10_thief cX10_thief 7 (some .int) 2 := ⟨tb_1791, tb_1792, tb_11, tb_1793, rfl, by decide, by decide, by decide +kernel⟩
theorem dX10_town_0 : decode cX10_town 0 = .ok (.iload_n 1, 1) := by decide +kernel
theorem dX10_town_1 : decode cX10_town 1 = .ok (.i2l, 1) := by decide +kernel
theorem dX10_town_2 : decode cX10_town 2 = .ok (.ldc2_w 200, 3) := by decide +kernel
theorem dX10_town_5 : decode cX10_town 5 = .ok (.ldc2_w 202, 3) := by decide +kernel
theorem dX10_town_8 : decode cX10_town 8 = .ok (.invokestatic 192, 3) := by decide +kernel
theorem dX10_town_11 : decode cX10_town 11 = .ok (.ifCond .eq 57, 3) := by decide +kernel
theorem dX10_town_14 : decode cX10_town 14 = .ok (.iload_n 2, 1) := by decide +kernel
theorem dX10_town_15 : decode cX10_town 15 = .ok (.i2l, 1) := by decide +kernel
theorem dX10_town_16 : decode cX10_town 16 = .ok (.ldc2_w 200, 3) := by decide +kernel
theorem dX10_town_19 : decode cX10_town 19 = .ok (.ldc2_w 202, 3) := by decide +kernel
theorem dX10_town_22 : decode cX10_town 22 = .ok (.invokestatic 192, 3) := by decide +kernel
theorem dX10_town_25 : decode cX10_town 25 = .ok (.ifCond .eq 43, 3) := by decide +kernel
theorem dX10_town_28 : decode cX10_town 28 = .ok (.iload_n 3, 1) := by decide +kernel
theorem dX10_town_29 : decode cX10_town 29 = .ok (.i2l, 1) := by decide +kernel
theorem dX10_town_30 : decode cX10_town 30 = .ok (.lconst 0, 1) := by decide +kernel
theorem dX10_town_31 : decode cX10_town 31 = .ok (.iload_n 1, 1) := by decide +kernel
theorem dX10_town_32 : decode cX10_town 32 = .ok (.iconst 1, 1) := by decide +kernel
theorem dX10_town_33 : decode cX10_town 33 = .ok (.isub, 1) := by decide +kernel
theorem dX10_town_34 : decode cX10_town 34 = .ok (.i2l, 1) := by decide +kernel
theorem dX10_town_35 : decode cX10_town 35 = .ok (.invokestatic 192, 3) := by decide +kernel
theorem dX10_town_38 : decode cX10_town 38 = .ok (.ifCond .eq 30, 3) := by decide +kernel
theorem dX10_town_41 : decode cX10_town 41 = .ok (.iload 4, 2) := by decide +kernel
theorem dX10_town_43 : decode cX10_town 43 = .ok (.i2l, 1) := by decide +kernel
theorem dX10_town_44 : decode cX10_town 44 = .ok (.lconst 0, 1) := by decide +kernel
theorem dX10_town_45 : decode cX10_town 45 = .ok (.iload_n 2, 1) := by decide +kernel
theorem dX10_town_46 : decode cX10_town 46 = .ok (.iconst 1, 1) := by decide +kernel
theorem dX10_town_47 : decode cX10_town 47 = .ok (.isub, 1) := by decide +kernel
theorem dX10_town_48 : decode cX10_town 48 = .ok (.i2l, 1) := by decide +kernel
theorem dX10_town_49 : decode cX10_town 49 = .ok (.invokestatic 192, 3) := by decide +kernel
theorem dX10_town_52 : decode cX10_town 52 = .ok (.ifCond .eq 16, 3) := by decide +kernel
theorem dX10_town_55 : decode cX10_town 55 = .ok (.iload 5, 2) := by decide +kernel
theorem dX10_town_57 : decode cX10_town 57 = .ok (.i2l, 1) := by decide +kernel
theorem dX10_town_58 : decode cX10_town 58 = .ok (.lconst 0, 1) := by decide +kernel
theorem dX10_town_59 : decode cX10_town 59 = .ok (.ldc2_w 204, 3) := by decide +kernel
theorem dX10_town_62 : decode cX10_town 62 = .ok (.invokestatic 192, 3) := by decide +kernel
theorem dX10_town_65 : decode cX10_town 65 = .ok (.ifCond .ne 5, 3) := by decide +kernel
theorem dX10_town_68 : decode cX10_town 68 = .ok (.iconst 0, 1) := by decide +kernel
theorem dX10_town_69 : decode cX10_town 69 = .ok (.ireturn, 1) := by decide +kernel
theorem dX10_town_70 : decode cX10_town 70 = .ok (.iconst 0, 1) := by decide +kernel
theorem dX10_town_71 : decode cX10_town 71 = .ok (.istore 6, 2) := by decide +kernel
theorem dX10_town_73 : decode cX10_town 73 = .ok (.iload 6, 2) := by decide +kernel
theorem dX10_town_75 : decode cX10_town 75 = .ok (.bipush 10, 2) := by decide +kernel
theorem dX10_town_77 : decode cX10_town 77 = .ok (.if_icmp .ge 17, 3) := by decide +kernel
theorem dX10_town_80 : decode cX10_town 80 = .ok (.aload_n 0, 1) := by decide +kernel
theorem dX10_town_81 : decode cX10_town 81 = .ok (.getfield 7, 3) := by decide +kernel
theorem dX10_town_84 : decode cX10_town 84 = .ok (.iload 6, 2) := by decide +kernel
theorem dX10_town_86 : decode cX10_town 86 = .ok (.iconst 0, 1) := by decide +kernel
theorem dX10_town_87 : decode cX10_town 87 = .ok (.iastore, 1) := by decide +kernel
theorem dX10_town_88 : decode cX10_town 88 = .ok (.iinc 6 1, 3) := by decide +kernel
theorem dX10_town_91 : decode cX10_town 91 = .ok (.goto (-18), 3) := by decide +kernel
theorem dX10_town_94 : decode cX10_town 94 = .ok (.aload_n 0, 1) := by decide +kernel
theorem dX10_town_95 : decode cX10_town 95 = .ok (.getfield 7, 3) := by decide +kernel
theorem dX10_town_98 : decode cX10_town 98 = .ok (.iconst 0, 1) := by decide +kernel
theorem dX10_town_99 : decode cX10_town 99 = .ok (.iconst 1, 1) := by decide +kernel
theorem dX10_town_100 : decode cX10_town 100 = .ok (.iastore, 1) := by decide +kernel
theorem dX10_town_101 : decode cX10_town 101 = .ok (.aload_n 0, 1) := by decide +kernel
theorem dX10_town_102 : decode cX10_town 102 = .ok (.getfield 7, 3) := by decide +kernel
theorem dX10_town_105 : decode cX10_town 105 = .ok (.iconst 1, 1) := by decide +kernel
theorem dX10_town_106 : decode cX10_town 106 = .ok (.iload_n 1, 1) := by decide +kernel
theorem dX10_town_107 : decode cX10_town 107 = .ok (.iastore, 1) := by decide +kernel
theorem dX10_town_108 : decode cX10_town 108 = .ok (.aload_n 0, 1) := by decide +kernel
theorem dX10_town_109 : decode cX10_town 109 = .ok (.getfield 7, 3) := by decide +kernel
theorem dX10_town_112 : decode cX10_town 112 = .ok (.iconst 2, 1) := by decide +kernel
theorem dX10_town_113 : decode cX10_town 113 = .ok (.iload_n 2, 1) := by decide +kernel
theorem dX10_town_114 : decode cX10_town 114 = .ok (.iastore, 1) := by decide +kernel
theorem dX10_town_115 : decode cX10_town 115 = .ok (.aload_n 0, 1) := by decide +kernel
theorem dX10_town_116 : decode cX10_town 116 = .ok (.getfield 7, 3) := by decide +kernel
theorem dX10_town_119 : decode cX10_town 119 = .ok (.iconst 3, 1) := by decide +kernel
theorem dX10_town_120 : decode cX10_town 120 = .ok (.bipush 24, 2) := by decide +kernel
theorem dX10_town_122 : decode cX10_town 122 = .ok (.iload 4, 2) := by decide +kernel
theorem dX10_town_124 : decode cX10_town 124 = .ok (.imul, 1) := by decide +kernel
theorem dX10_town_125 : decode cX10_town 125 = .ok (.iload_n 3, 1) := by decide +kernel
theorem dX10_town_126 : decode cX10_town 126 = .ok (.iadd, 1) := by decide +kernel
theorem dX10_town_127 : decode cX10_town 127 = .ok (.iastore, 1) := by decide +kernel
theorem dX10_town_128 : decode cX10_town 128 = .ok (.aload_n 0, 1) := by decide +kernel
theorem dX10_town_129 : decode cX10_town 129 = .ok (.getfield 7, 3) := by decide +kernel
theorem dX10_town_132 : decode cX10_town 132 = .ok (.iconst 4, 1) := by decide +kernel
theorem dX10_town_133 : decode cX10_town 133 = .ok (.iload 5, 2) := by decide +kernel
theorem dX10_town_135 : decode cX10_town 135 = .ok (.iastore, 1) := by decide +kernel
theorem dX10_town_136 : decode cX10_town 136 = .ok (.iconst 0, 1) := by decide +kernel
theorem dX10_town_137 : decode cX10_town 137 = .ok (.istore 6, 2) := by decide +kernel
theorem dX10_town_139 : decode cX10_town 139 = .ok (.iload 6, 2) := by decide +kernel
theorem dX10_town_141 : decode cX10_town 141 = .ok (.sipush 576, 3) := by decide +kernel
theorem dX10_town_144 : decode cX10_town 144 = .ok (.if_icmp .ge 33, 3) := by decide +kernel
theorem dX10_town_147 : decode cX10_town 147 = .ok (.aload_n 0, 1) := by decide +kernel
theorem dX10_town_148 : decode cX10_town 148 = .ok (.getfield 13, 3) := by decide +kernel
theorem dX10_town_151 : decode cX10_town 151 = .ok (.iload 6, 2) := by decide +kernel
theorem dX10_town_153 : decode cX10_town 153 = .ok (.iconst 0, 1) := by decide +kernel
theorem dX10_town_154 : decode cX10_town 154 = .ok (.iastore, 1) := by decide +kernel
theorem dX10_town_155 : decode cX10_town 155 = .ok (.aload_n 0, 1) := by decide +kernel
theorem dX10_town_156 : decode cX10_town 156 = .ok (.getfield 16, 3) := by decide +kernel
theorem dX10_town_159 : decode cX10_town 159 = .ok (.iload 6, 2) := by decide +kernel
theorem dX10_town_161 : decode cX10_town 161 = .ok (.iconst (-1), 1) := by decide +kernel
theorem dX10_town_162 : decode cX10_town 162 = .ok (.iastore, 1) := by decide +kernel
theorem dX10_town_163 : decode cX10_town 163 = .ok (.aload_n 0, 1) := by decide +kernel
theorem dX10_town_164 : decode cX10_town 164 = .ok (.getfield 25, 3) := by decide +kernel
theorem dX10_town_167 : decode cX10_town 167 = .ok (.iload 6, 2) := by decide +kernel
theorem dX10_town_169 : decode cX10_town 169 = .ok (.iconst (-1), 1) := by decide +kernel
theorem dX10_town_170 : decode cX10_town 170 = .ok (.iastore, 1) := by decide +kernel
theorem dX10_town_171 : decode cX10_town 171 = .ok (.iinc 6 1, 3) := by decide +kernel
theorem dX10_town_174 : decode cX10_town 174 = .ok (.goto (-35), 3) := by decide +kernel
theorem dX10_town_177 : decode cX10_town 177 = .ok (.iconst 0, 1) := by decide +kernel
theorem dX10_town_178 : decode cX10_town 178 = .ok (.istore 6, 2) := by decide +kernel
theorem dX10_town_180 : decode cX10_town 180 = .ok (.iload 6, 2) := by decide +kernel
theorem dX10_town_182 : decode cX10_town 182 = .ok (.sipush 288, 3) := by decide +kernel
theorem dX10_town_185 : decode cX10_town 185 = .ok (.if_icmp .ge 25, 3) := by decide +kernel
theorem dX10_town_188 : decode cX10_town 188 = .ok (.aload_n 0, 1) := by decide +kernel
theorem dX10_town_189 : decode cX10_town 189 = .ok (.getfield 19, 3) := by decide +kernel
theorem dX10_town_192 : decode cX10_town 192 = .ok (.iload 6, 2) := by decide +kernel
theorem dX10_town_194 : decode cX10_town 194 = .ok (.iconst (-1), 1) := by decide +kernel
theorem dX10_town_195 : decode cX10_town 195 = .ok (.iastore, 1) := by decide +kernel
theorem dX10_town_196 : decode cX10_town 196 = .ok (.aload_n 0, 1) := by decide +kernel
theorem dX10_town_197 : decode cX10_town 197 = .ok (.getfield 22, 3) := by decide +kernel
theorem dX10_town_200 : decode cX10_town 200 = .ok (.iload 6, 2) := by decide +kernel
theorem dX10_town_202 : decode cX10_town 202 = .ok (.iconst 0, 1) := by decide +kernel
theorem dX10_town_203 : decode cX10_town 203 = .ok (.iastore, 1) := by decide +kernel
theorem dX10_town_204 : decode cX10_town 204 = .ok (.iinc 6 1, 3) := by decide +kernel
theorem dX10_town_207 : decode cX10_town 207 = .ok (.goto (-27), 3) := by decide +kernel
theorem dX10_town_210 : decode cX10_town 210 = .ok (.iconst 1, 1) := by decide +kernel
theorem dX10_town_211 : decode cX10_town 211 = .ok (.ireturn, 1) := by decide +kernel
theorem ce_X10_town : CeV RX10 yX10_town cX10_town 7 (some .boolean) 5 := ⟨tb_1420, tb_1421, tb_11, tb_1422, rfl, by decide, by decide, by decide +kernel⟩
