set_option maxHeartbeats 4000000 in
set_option maxRecDepth 20000 in
theorem V_X10_truth_y (l : Launch) (D : va_G) (A : Nat → Prop) (ad : Nat → Nat) (ns : List Nat) (I : MI) (L : ML) (G : MG) (a0 : Int32) (hI : INV I) (ha0 : 0 ≤ a0.toInt ∧ a0.toInt ≤ 1) : Met l yX10_truth (wd yX10_truth cX10_truth 1 (some .long)) ({ frames := 0, cells := 0, slots := 0, locals := 0 }) (va_Pc [.int a0] (PM D A ad ns I L G)) (va_Ql (fun r u => u = (ad, ns, I, L, G) ∧ (r = if a0.toInt = 0 then 0 else 1)) (BM D A) A) 0 0 A := by
  refine m_ofW (by decide) (Nat.le_of_ble_eq_true rfl) ?_
  intro p e s m below meth c ls args hC hE hM hA hS hl
  obtain ⟨hx, hb, hml, hown, hts, hr, hlocks, hin⟩ := hC
  have k0 : (0 : Int32).toInt = 0 := by decide
  have kl0 : (0 : Int64).toInt = 0 := by decide
  have kl1 : (1 : Int64).toInt = 1 := by decide
  have hl : lv_has ls 1 [(0, .int (a0))] := hl
  refine lv_iload_n hx hb dX10_truth_0 rfl (lv_at hl 0 rfl) ?_
  refine lv_if_eq (tgt := 8) hx hb dX10_truth_1 (by decide) (fun c1 => ?_) (fun c1 => ?_)
  · have hc1 := c1
    have q1 := q_eq hc1
    refine lv_lconst (v := 0) hx hb dX10_truth_8 (by decide) ?_
    exact m_lret hx hb hr hlocks hM hS (Nat.le_of_ble_eq_true rfl) (Nat.le_of_ble_eq_true rfl) ⟨rfl, (if_pos (by omega)).symm⟩ dX10_truth_9
  · have hc1 := c1
    have q1 := q_ne hc1
    refine lv_lconst (v := 1) hx hb dX10_truth_4 (by decide) ?_
    refine lv_goto (tgt := 9) hx hb dX10_truth_5 (by decide) ?_
    exact m_lret hx hb hr hlocks hM hS (Nat.le_of_ble_eq_true rfl) (Nat.le_of_ble_eq_true rfl) ⟨rfl, (if_neg (by omega)).symm⟩ dX10_truth_9
set_option maxHeartbeats 4000000 in
set_option maxRecDepth 20000 in
theorem V_X10_both_y (l : Launch) (D : va_G) (A : Nat → Prop) (ad : Nat → Nat) (ns : List Nat) (I : MI) (L : ML) (G : MG) (a0 : Int32) (a1 : Int64) (a2 : Int64) (hI : INV I) : Met l yX10_both (wd yX10_both cX10_both 5 (some .long)) ({ frames := 1, cells := 0, slots := 0, locals := 20 }) (va_Pc [.int a0, .long a1, .long a2] (PM D A ad ns I L G)) (va_Ql (fun r u => u = (ad, ns, I, L, G) ∧ (r = bo a0.toInt a1 a2)) (BM D A) A) 0 0 A := by
  refine m_ofW (by decide) (Nat.le_of_ble_eq_true rfl) ?_
  intro p e s m below meth c ls args hC hE hM hA hS hl
  obtain ⟨hx, hb, hml, hown, hts, hr, hlocks, hin⟩ := hC
  have k0 : (0 : Int32).toInt = 0 := by decide
  have k1 : (1 : Int32).toInt = 1 := by decide
  have kl0 : (0 : Int64).toInt = 0 := by decide
  have kl0 : (0 : Int64).toInt = 0 := rfl
  have kl1 : (1 : Int64).toInt = 1 := rfl
  have hl : lv_has ls 5 [(0, .int (a0)), (1, .long (a1)), (3, .long (a2))] := hl
  refine lv_iload_n hx hb dX10_both_0 rfl (lv_at hl 0 rfl) ?_
  by_cases c1 : (a0).toInt < 2 ∨ 14 < (a0).toInt
  · refine lv_tableOut (tgt := 173) hx hb dX10_both_1 c1 (by decide) ?_
    refine lv_lload_n hx hb dX10_both_173 rfl (lv_at hl 1 rfl) ?_
    refine lv_lload_n hx hb dX10_both_174 rfl (lv_at hl 2 rfl) ?_
    refine lv_lor hx hb dX10_both_175 ?_
    refine lv_topl (fun v2 ev2 => ?_)
    exact m_lret hx hb hr hlocks hM hS (Nat.le_of_ble_eq_true rfl) (Nat.le_of_ble_eq_true rfl) ⟨rfl, (by unfold bo; (repeat' split) <;> first | exact ev2 | (exfalso; omega))⟩ dX10_both_176
  · have qc1 : (a0).toInt = 2 ∨ (a0).toInt = 3 ∨ (a0).toInt = 4 ∨ (a0).toInt = 5 ∨ (a0).toInt = 6 ∨ (a0).toInt = 7 ∨ (a0).toInt = 8 ∨ (a0).toInt = 9 ∨ (a0).toInt = 10 ∨ (a0).toInt = 11 ∨ (a0).toInt = 12 ∨ (a0).toInt = 13 ∨ (a0).toInt = 14 := by omega
    rcases qc1 with qc1 | qc1 | qc1 | qc1 | qc1 | qc1 | qc1 | qc1 | qc1 | qc1 | qc1 | qc1 | qc1
    · refine lv_tableIn (off := 67) (tgt := 68) hx hb dX10_both_1 (by omega) (by omega) (by rw [qc1]; rfl) (by decide) ?_
      refine lv_lload_n hx hb dX10_both_68 rfl (lv_at hl 1 rfl) ?_
      refine lv_lload_n hx hb dX10_both_69 rfl (lv_at hl 2 rfl) ?_
      refine lv_ladd hx hb dX10_both_70 ?_
      refine lv_topl (fun v3 ev3 => ?_)
      exact m_lret hx hb hr hlocks hM hS (Nat.le_of_ble_eq_true rfl) (Nat.le_of_ble_eq_true rfl) ⟨rfl, (by rw [qc1]; first | exact ev3 | (unfold bo; (repeat' split) <;> first | exact ev3 | (exfalso; omega)))⟩ dX10_both_71
    · refine lv_tableIn (off := 71) (tgt := 72) hx hb dX10_both_1 (by omega) (by omega) (by rw [qc1]; rfl) (by decide) ?_
      refine lv_lload_n hx hb dX10_both_72 rfl (lv_at hl 1 rfl) ?_
      refine lv_lload_n hx hb dX10_both_73 rfl (lv_at hl 2 rfl) ?_
      refine lv_lsub hx hb dX10_both_74 ?_
      refine lv_topl (fun v4 ev4 => ?_)
      exact m_lret hx hb hr hlocks hM hS (Nat.le_of_ble_eq_true rfl) (Nat.le_of_ble_eq_true rfl) ⟨rfl, (by rw [qc1]; first | exact ev4 | (unfold bo; (repeat' split) <;> first | exact ev4 | (exfalso; omega)))⟩ dX10_both_75
    · refine lv_tableIn (off := 93) (tgt := 94) hx hb dX10_both_1 (by omega) (by omega) (by rw [qc1]; rfl) (by decide) ?_
      refine lv_lload_n hx hb dX10_both_94 rfl (lv_at hl 1 rfl) ?_
      refine lv_lload_n hx hb dX10_both_95 rfl (lv_at hl 2 rfl) ?_
      refine W.lcmp hx hb dX10_both_96 ?_
      refine lv_if_ge (tgt := 104) hx hb dX10_both_97 (by decide) (fun c5 => ?_) (fun c5 => ?_)
      · have hc5 := c5
        have q5 := l_ge hc5
        refine lv_iconst (v := (0)) hx hb dX10_both_104 (by decide) ?_
        refine m_calll (m_runS (As := [.int (0)]) (rest := []) hx hb hml hown hts hE hM hS hA ce_X10_truth tb_1637 (V_X10_truth_y l D A ad ns I L G (0) hI (by first | omega | decide)) rfl rfl ⟨Nat.le_of_ble_eq_true rfl, Nat.le_of_ble_eq_true rfl⟩  rfl hl.1 rfl (Nat.le_of_ble_eq_true rfl) dX10_both_105 ⟨Nat.le_of_ble_eq_true rfl, Nat.le_of_ble_eq_true rfl⟩) hS (fun r6 u H locs hw hM hS => ?_)
        obtain ⟨rfl, xr6⟩ := hw
        have hM : Mem D A ad ns I L G H := hM
        rw [if_pos (by decide)] at xr6
        exact m_lret hx hb hr hlocks hM hS (Nat.le_of_ble_eq_true rfl) (Nat.le_of_ble_eq_true rfl) ⟨rfl, (xr6.trans ((bo_c (by omega)).2 (by unfold bc; omega)).symm)⟩ dX10_both_108
      · have hc5 := c5
        have q5 := l_nge hc5
        refine lv_iconst (v := (1)) hx hb dX10_both_100 (by decide) ?_
        refine lv_goto (tgt := 105) hx hb dX10_both_101 (by decide) ?_
        refine m_calll (m_runS (As := [.int (1)]) (rest := []) hx hb hml hown hts hE hM hS hA ce_X10_truth tb_1637 (V_X10_truth_y l D A ad ns I L G (1) hI (by first | omega | decide)) rfl rfl ⟨Nat.le_of_ble_eq_true rfl, Nat.le_of_ble_eq_true rfl⟩  rfl hl.1 rfl (Nat.le_of_ble_eq_true rfl) dX10_both_105 ⟨Nat.le_of_ble_eq_true rfl, Nat.le_of_ble_eq_true rfl⟩) hS (fun r7 u H locs hw hM hS => ?_)
        obtain ⟨rfl, xr7⟩ := hw
        have hM : Mem D A ad ns I L G H := hM
        rw [if_neg (by decide)] at xr7
        exact m_lret hx hb hr hlocks hM hS (Nat.le_of_ble_eq_true rfl) (Nat.le_of_ble_eq_true rfl) ⟨rfl, (xr7.trans ((bo_c (by omega)).1 (by unfold bc; omega)).symm)⟩ dX10_both_108
    · refine lv_tableIn (off := 108) (tgt := 109) hx hb dX10_both_1 (by omega) (by omega) (by rw [qc1]; rfl) (by decide) ?_
      refine lv_lload_n hx hb dX10_both_109 rfl (lv_at hl 1 rfl) ?_
      refine lv_lload_n hx hb dX10_both_110 rfl (lv_at hl 2 rfl) ?_
      refine W.lcmp hx hb dX10_both_111 ?_
      refine lv_if_gt (tgt := 119) hx hb dX10_both_112 (by decide) (fun c8 => ?_) (fun c8 => ?_)
      · have hc8 := c8
        have q8 := l_gt hc8
        refine lv_iconst (v := (0)) hx hb dX10_both_119 (by decide) ?_
        refine m_calll (m_runS (As := [.int (0)]) (rest := []) hx hb hml hown hts hE hM hS hA ce_X10_truth tb_1637 (V_X10_truth_y l D A ad ns I L G (0) hI (by first | omega | decide)) rfl rfl ⟨Nat.le_of_ble_eq_true rfl, Nat.le_of_ble_eq_true rfl⟩  rfl hl.1 rfl (Nat.le_of_ble_eq_true rfl) dX10_both_120 ⟨Nat.le_of_ble_eq_true rfl, Nat.le_of_ble_eq_true rfl⟩) hS (fun r9 u H locs hw hM hS => ?_)
        obtain ⟨rfl, xr9⟩ := hw
        have hM : Mem D A ad ns I L G H := hM
        rw [if_pos (by decide)] at xr9
        exact m_lret hx hb hr hlocks hM hS (Nat.le_of_ble_eq_true rfl) (Nat.le_of_ble_eq_true rfl) ⟨rfl, (xr9.trans ((bo_c (by omega)).2 (by unfold bc; omega)).symm)⟩ dX10_both_123
      · have hc8 := c8
        have q8 := l_ngt hc8
        refine lv_iconst (v := (1)) hx hb dX10_both_115 (by decide) ?_
        refine lv_goto (tgt := 120) hx hb dX10_both_116 (by decide) ?_
        refine m_calll (m_runS (As := [.int (1)]) (rest := []) hx hb hml hown hts hE hM hS hA ce_X10_truth tb_1637 (V_X10_truth_y l D A ad ns I L G (1) hI (by first | omega | decide)) rfl rfl ⟨Nat.le_of_ble_eq_true rfl, Nat.le_of_ble_eq_true rfl⟩  rfl hl.1 rfl (Nat.le_of_ble_eq_true rfl) dX10_both_120 ⟨Nat.le_of_ble_eq_true rfl, Nat.le_of_ble_eq_true rfl⟩) hS (fun r10 u H locs hw hM hS => ?_)
        obtain ⟨rfl, xr10⟩ := hw
        have hM : Mem D A ad ns I L G H := hM
        rw [if_neg (by decide)] at xr10
        exact m_lret hx hb hr hlocks hM hS (Nat.le_of_ble_eq_true rfl) (Nat.le_of_ble_eq_true rfl) ⟨rfl, (xr10.trans ((bo_c (by omega)).1 (by unfold bc; omega)).symm)⟩ dX10_both_123
    · refine lv_tableIn (off := 123) (tgt := 124) hx hb dX10_both_1 (by omega) (by omega) (by rw [qc1]; rfl) (by decide) ?_
      refine lv_lload_n hx hb dX10_both_124 rfl (lv_at hl 1 rfl) ?_
      refine lv_lload_n hx hb dX10_both_125 rfl (lv_at hl 2 rfl) ?_
      refine W.lcmp hx hb dX10_both_126 ?_
      refine lv_if_ne (tgt := 134) hx hb dX10_both_127 (by decide) (fun c11 => ?_) (fun c11 => ?_)
      · have hc11 := c11
        have q11 := l_ne hc11
        refine lv_iconst (v := (0)) hx hb dX10_both_134 (by decide) ?_
        refine m_calll (m_runS (As := [.int (0)]) (rest := []) hx hb hml hown hts hE hM hS hA ce_X10_truth tb_1637 (V_X10_truth_y l D A ad ns I L G (0) hI (by first | omega | decide)) rfl rfl ⟨Nat.le_of_ble_eq_true rfl, Nat.le_of_ble_eq_true rfl⟩  rfl hl.1 rfl (Nat.le_of_ble_eq_true rfl) dX10_both_135 ⟨Nat.le_of_ble_eq_true rfl, Nat.le_of_ble_eq_true rfl⟩) hS (fun r12 u H locs hw hM hS => ?_)
        obtain ⟨rfl, xr12⟩ := hw
        have hM : Mem D A ad ns I L G H := hM
        rw [if_pos (by decide)] at xr12
        exact m_lret hx hb hr hlocks hM hS (Nat.le_of_ble_eq_true rfl) (Nat.le_of_ble_eq_true rfl) ⟨rfl, (xr12.trans ((bo_c (by omega)).2 (by unfold bc; omega)).symm)⟩ dX10_both_138
      · have hc11 := c11
        have q11 := l_eq hc11
        refine lv_iconst (v := (1)) hx hb dX10_both_130 (by decide) ?_
        refine lv_goto (tgt := 135) hx hb dX10_both_131 (by decide) ?_
        refine m_calll (m_runS (As := [.int (1)]) (rest := []) hx hb hml hown hts hE hM hS hA ce_X10_truth tb_1637 (V_X10_truth_y l D A ad ns I L G (1) hI (by first | omega | decide)) rfl rfl ⟨Nat.le_of_ble_eq_true rfl, Nat.le_of_ble_eq_true rfl⟩  rfl hl.1 rfl (Nat.le_of_ble_eq_true rfl) dX10_both_135 ⟨Nat.le_of_ble_eq_true rfl, Nat.le_of_ble_eq_true rfl⟩) hS (fun r13 u H locs hw hM hS => ?_)
        obtain ⟨rfl, xr13⟩ := hw
        have hM : Mem D A ad ns I L G H := hM
        rw [if_neg (by decide)] at xr13
        exact m_lret hx hb hr hlocks hM hS (Nat.le_of_ble_eq_true rfl) (Nat.le_of_ble_eq_true rfl) ⟨rfl, (xr13.trans ((bo_c (by omega)).1 (by unfold bc; omega)).symm)⟩ dX10_both_138
    · refine lv_tableIn (off := 138) (tgt := 139) hx hb dX10_both_1 (by omega) (by omega) (by rw [qc1]; rfl) (by decide) ?_
      refine lv_lload_n hx hb dX10_both_139 rfl (lv_at hl 1 rfl) ?_
      refine lv_lload_n hx hb dX10_both_140 rfl (lv_at hl 2 rfl) ?_
      refine W.lcmp hx hb dX10_both_141 ?_
      refine lv_if_lt (tgt := 149) hx hb dX10_both_142 (by decide) (fun c14 => ?_) (fun c14 => ?_)
      · have hc14 := c14
        have q14 := l_lt hc14
        refine lv_iconst (v := (0)) hx hb dX10_both_149 (by decide) ?_
        refine m_calll (m_runS (As := [.int (0)]) (rest := []) hx hb hml hown hts hE hM hS hA ce_X10_truth tb_1637 (V_X10_truth_y l D A ad ns I L G (0) hI (by first | omega | decide)) rfl rfl ⟨Nat.le_of_ble_eq_true rfl, Nat.le_of_ble_eq_true rfl⟩  rfl hl.1 rfl (Nat.le_of_ble_eq_true rfl) dX10_both_150 ⟨Nat.le_of_ble_eq_true rfl, Nat.le_of_ble_eq_true rfl⟩) hS (fun r15 u H locs hw hM hS => ?_)
        obtain ⟨rfl, xr15⟩ := hw
        have hM : Mem D A ad ns I L G H := hM
        rw [if_pos (by decide)] at xr15
        exact m_lret hx hb hr hlocks hM hS (Nat.le_of_ble_eq_true rfl) (Nat.le_of_ble_eq_true rfl) ⟨rfl, (xr15.trans ((bo_c (by omega)).2 (by unfold bc; omega)).symm)⟩ dX10_both_153
      · have hc14 := c14
        have q14 := l_nlt hc14
        refine lv_iconst (v := (1)) hx hb dX10_both_145 (by decide) ?_
        refine lv_goto (tgt := 150) hx hb dX10_both_146 (by decide) ?_
        refine m_calll (m_runS (As := [.int (1)]) (rest := []) hx hb hml hown hts hE hM hS hA ce_X10_truth tb_1637 (V_X10_truth_y l D A ad ns I L G (1) hI (by first | omega | decide)) rfl rfl ⟨Nat.le_of_ble_eq_true rfl, Nat.le_of_ble_eq_true rfl⟩  rfl hl.1 rfl (Nat.le_of_ble_eq_true rfl) dX10_both_150 ⟨Nat.le_of_ble_eq_true rfl, Nat.le_of_ble_eq_true rfl⟩) hS (fun r16 u H locs hw hM hS => ?_)
        obtain ⟨rfl, xr16⟩ := hw
        have hM : Mem D A ad ns I L G H := hM
        rw [if_neg (by decide)] at xr16
        exact m_lret hx hb hr hlocks hM hS (Nat.le_of_ble_eq_true rfl) (Nat.le_of_ble_eq_true rfl) ⟨rfl, (xr16.trans ((bo_c (by omega)).1 (by unfold bc; omega)).symm)⟩ dX10_both_153
    · refine lv_tableIn (off := 153) (tgt := 154) hx hb dX10_both_1 (by omega) (by omega) (by rw [qc1]; rfl) (by decide) ?_
      refine lv_lload_n hx hb dX10_both_154 rfl (lv_at hl 1 rfl) ?_
      refine lv_lload_n hx hb dX10_both_155 rfl (lv_at hl 2 rfl) ?_
      refine W.lcmp hx hb dX10_both_156 ?_
      refine lv_if_le (tgt := 164) hx hb dX10_both_157 (by decide) (fun c17 => ?_) (fun c17 => ?_)
      · have hc17 := c17
        have q17 := l_le hc17
        refine lv_iconst (v := (0)) hx hb dX10_both_164 (by decide) ?_
        refine m_calll (m_runS (As := [.int (0)]) (rest := []) hx hb hml hown hts hE hM hS hA ce_X10_truth tb_1637 (V_X10_truth_y l D A ad ns I L G (0) hI (by first | omega | decide)) rfl rfl ⟨Nat.le_of_ble_eq_true rfl, Nat.le_of_ble_eq_true rfl⟩  rfl hl.1 rfl (Nat.le_of_ble_eq_true rfl) dX10_both_165 ⟨Nat.le_of_ble_eq_true rfl, Nat.le_of_ble_eq_true rfl⟩) hS (fun r18 u H locs hw hM hS => ?_)
        obtain ⟨rfl, xr18⟩ := hw
        have hM : Mem D A ad ns I L G H := hM
        rw [if_pos (by decide)] at xr18
        exact m_lret hx hb hr hlocks hM hS (Nat.le_of_ble_eq_true rfl) (Nat.le_of_ble_eq_true rfl) ⟨rfl, (xr18.trans ((bo_c (by omega)).2 (by unfold bc; omega)).symm)⟩ dX10_both_168
      · have hc17 := c17
        have q17 := l_nle hc17
        refine lv_iconst (v := (1)) hx hb dX10_both_160 (by decide) ?_
        refine lv_goto (tgt := 165) hx hb dX10_both_161 (by decide) ?_
        refine m_calll (m_runS (As := [.int (1)]) (rest := []) hx hb hml hown hts hE hM hS hA ce_X10_truth tb_1637 (V_X10_truth_y l D A ad ns I L G (1) hI (by first | omega | decide)) rfl rfl ⟨Nat.le_of_ble_eq_true rfl, Nat.le_of_ble_eq_true rfl⟩  rfl hl.1 rfl (Nat.le_of_ble_eq_true rfl) dX10_both_165 ⟨Nat.le_of_ble_eq_true rfl, Nat.le_of_ble_eq_true rfl⟩) hS (fun r19 u H locs hw hM hS => ?_)
        obtain ⟨rfl, xr19⟩ := hw
        have hM : Mem D A ad ns I L G H := hM
        rw [if_neg (by decide)] at xr19
        exact m_lret hx hb hr hlocks hM hS (Nat.le_of_ble_eq_true rfl) (Nat.le_of_ble_eq_true rfl) ⟨rfl, (xr19.trans ((bo_c (by omega)).1 (by unfold bc; omega)).symm)⟩ dX10_both_168
    · refine lv_tableIn (off := 172) (tgt := 173) hx hb dX10_both_1 (by omega) (by omega) (by rw [qc1]; rfl) (by decide) ?_
      refine lv_lload_n hx hb dX10_both_173 rfl (lv_at hl 1 rfl) ?_
      refine lv_lload_n hx hb dX10_both_174 rfl (lv_at hl 2 rfl) ?_
      refine lv_lor hx hb dX10_both_175 ?_
      refine lv_topl (fun v20 ev20 => ?_)
      exact m_lret hx hb hr hlocks hM hS (Nat.le_of_ble_eq_true rfl) (Nat.le_of_ble_eq_true rfl) ⟨rfl, (by rw [qc1]; first | exact ev20 | (unfold bo; (repeat' split) <;> first | exact ev20 | (exfalso; omega)))⟩ dX10_both_176
    · refine lv_tableIn (off := 168) (tgt := 169) hx hb dX10_both_1 (by omega) (by omega) (by rw [qc1]; rfl) (by decide) ?_
      refine lv_lload_n hx hb dX10_both_169 rfl (lv_at hl 1 rfl) ?_
      refine lv_lload_n hx hb dX10_both_170 rfl (lv_at hl 2 rfl) ?_
      refine lv_land hx hb dX10_both_171 ?_
      refine lv_topl (fun v21 ev21 => ?_)
      exact m_lret hx hb hr hlocks hM hS (Nat.le_of_ble_eq_true rfl) (Nat.le_of_ble_eq_true rfl) ⟨rfl, (by rw [qc1]; first | exact ev21 | (unfold bo; (repeat' split) <;> first | exact ev21 | (exfalso; omega)))⟩ dX10_both_172
    · refine lv_tableIn (off := 172) (tgt := 173) hx hb dX10_both_1 (by omega) (by omega) (by rw [qc1]; rfl) (by decide) ?_
      refine lv_lload_n hx hb dX10_both_173 rfl (lv_at hl 1 rfl) ?_
      refine lv_lload_n hx hb dX10_both_174 rfl (lv_at hl 2 rfl) ?_
      refine lv_lor hx hb dX10_both_175 ?_
      refine lv_topl (fun v22 ev22 => ?_)
      exact m_lret hx hb hr hlocks hM hS (Nat.le_of_ble_eq_true rfl) (Nat.le_of_ble_eq_true rfl) ⟨rfl, (by rw [qc1]; first | exact ev22 | (unfold bo; (repeat' split) <;> first | exact ev22 | (exfalso; omega)))⟩ dX10_both_176
    · refine lv_tableIn (off := 172) (tgt := 173) hx hb dX10_both_1 (by omega) (by omega) (by rw [qc1]; rfl) (by decide) ?_
      refine lv_lload_n hx hb dX10_both_173 rfl (lv_at hl 1 rfl) ?_
      refine lv_lload_n hx hb dX10_both_174 rfl (lv_at hl 2 rfl) ?_
      refine lv_lor hx hb dX10_both_175 ?_
      refine lv_topl (fun v23 ev23 => ?_)
      exact m_lret hx hb hr hlocks hM hS (Nat.le_of_ble_eq_true rfl) (Nat.le_of_ble_eq_true rfl) ⟨rfl, (by rw [qc1]; first | exact ev23 | (unfold bo; (repeat' split) <;> first | exact ev23 | (exfalso; omega)))⟩ dX10_both_176
    · refine lv_tableIn (off := 75) (tgt := 76) hx hb dX10_both_1 (by omega) (by omega) (by rw [qc1]; rfl) (by decide) ?_
      refine lv_lload_n hx hb dX10_both_76 rfl (lv_at hl 1 rfl) ?_
      refine lv_lload_n hx hb dX10_both_77 rfl (lv_at hl 2 rfl) ?_
      refine lv_lmul hx hb dX10_both_78 ?_
      refine lv_topl (fun v24 ev24 => ?_)
      exact m_lret hx hb hr hlocks hM hS (Nat.le_of_ble_eq_true rfl) (Nat.le_of_ble_eq_true rfl) ⟨rfl, (by rw [qc1]; first | exact ev24 | (unfold bo; (repeat' split) <;> first | exact ev24 | (exfalso; omega)))⟩ dX10_both_79
    · refine lv_tableIn (off := 79) (tgt := 80) hx hb dX10_both_1 (by omega) (by omega) (by rw [qc1]; rfl) (by decide) ?_
      refine lv_lload_n hx hb dX10_both_80 rfl (lv_at hl 2 rfl) ?_
      refine lv_lconst (v := 0) hx hb dX10_both_81 (by decide) ?_
      refine W.lcmp hx hb dX10_both_82 ?_
      refine lv_if_ne (tgt := 90) hx hb dX10_both_83 (by decide) (fun c25 => ?_) (fun c25 => ?_)
      · have hc25 := c25
        have q25 := l_ne hc25
        refine lv_lload_n hx hb dX10_both_90 rfl (lv_at hl 1 rfl) ?_
        refine lv_lload_n hx hb dX10_both_91 rfl (lv_at hl 2 rfl) ?_
        refine lv_ldiv hx hb dX10_both_92 (lz_ne (by assumption)) ?_
        refine lv_topl (fun v26 ev26 => ?_)
        exact m_lret hx hb hr hlocks hM hS (Nat.le_of_ble_eq_true rfl) (Nat.le_of_ble_eq_true rfl) ⟨rfl, (by have hb0 : ¬ a2 = 0 := l0_iff.mpr (by omega); unfold bo; rw [if_neg (by omega), if_neg (by omega), if_neg (by omega), if_pos (by omega), if_neg hb0]; exact ev26)⟩ dX10_both_93
      · have hc25 := c25
        have q25 := l_eq hc25
        refine lv_lconst (v := 0) hx hb dX10_both_86 (by decide) ?_
        refine lv_goto (tgt := 93) hx hb dX10_both_87 (by decide) ?_
        exact m_lret hx hb hr hlocks hM hS (Nat.le_of_ble_eq_true rfl) (Nat.le_of_ble_eq_true rfl) ⟨rfl, (by have hb0 : a2 = 0 := Int64.toInt_inj.mp (by omega); unfold bo; rw [if_neg (by omega), if_neg (by omega), if_neg (by omega), if_pos (by omega), if_pos hb0])⟩ dX10_both_93
set_option maxHeartbeats 4000000 in
set_option maxRecDepth 20000 in
theorem V_X10_answer_y (l : Launch) (D : va_G) (A : Nat → Prop) (ad : Nat → Nat) (ns : List Nat) (I : MI) (L : ML) (G : MG) (f : Nat → Int32) (tt : Bool) (a0 : Int32) (a1 : Int32) (a2 : Int32) (hJ : SGM ns G) (hI : INV I) (hle : a1.toInt ≤ a2.toInt) (hce : ∀ i : Nat, (a1).toNatClampNeg ≤ i → i < (a2).toNatClampNeg → enc (I 1035 (300 * (a0).toNatClampNeg + i)).toInt (I 1036 (300 * (a0).toNatClampNeg + i)).toInt = (f i).toInt) (hty : tyx (sgF f (a1).toNatClampNeg (a2.toInt - a1.toInt).toNat) [] = some [tt]) (hcv : cv (sgF f (a1).toNatClampNeg (a2.toInt - a1.toInt).toNat) ≤ 60) (ha0 : 0 ≤ a0.toInt ∧ a0.toInt ≤ 5) (ha1 : 0 ≤ a1.toInt ∧ a1.toInt ≤ 300) (ha2 : 0 ≤ a2.toInt ∧ a2.toInt ≤ 300) : Met l yX10_answer (wd yX10_answer cX10_answer 8 (some .long)) ({ frames := 2, cells := 0, slots := 0, locals := 44 }) (va_Pc [.ref (ad (1000)), .int a0, .int a1, .int a2] (PM D A ad ns I L G)) (va_Ql (fun r u => ∃ I2 L2, u = (ad, ns, I2, L2, G) ∧ INV I2 ∧ Kp [] [] I I2 ∧ ((evl (L 1043) (sgF f (a1).toNatClampNeg (a2.toInt - a1.toInt).toNat) []) = [r] ∧ L2 1043 = L 1043)) (BM D A) A) 0 0 A := by
  refine m_ofW (by decide) (Nat.le_of_ble_eq_true rfl) ?_
  intro p e s m below meth c ls args hC hE hM hA hS hl
  obtain ⟨hx, hb, hml, hown, hts, hr, hlocks, hin⟩ := hC
  have k0 : (0 : Int32).toInt = 0 := by decide
  have k1 : (1 : Int32).toInt = 1 := by decide
  have k9 : (9 : Int32).toInt = 9 := by decide
  have k300 : (300 : Int32).toInt = 300 := by decide
  have kl1 : (1 : Int64).toInt = 1 := by decide
  have hK : Kp [] [] I I := Kp.rf
  have hl : lv_has ls 8 [(0, .ref (ad (1000))), (1, .int (a0)), (2, .int (a1)), (3, .int (a2))] := hl
  refine lv_iconst (v := (0)) hx hb dX10_answer_0 (by decide) ?_
  refine lv_istore (lv' := [(4, .int (0)), (0, .ref (ad (1000))), (1, .int (a0)), (2, .int (a1)), (3, .int (a2))]) hx hb dX10_answer_1 hl (by decide) rfl (fun ls hl => ?_)
  refine lv_iload_n hx hb dX10_answer_3 rfl (lv_at hl 3 rfl) ?_
  refine lv_istore (lv' := [(5, .int (a1)), (4, .int (0)), (0, .ref (ad (1000))), (1, .int (a0)), (2, .int (a1)), (3, .int (a2))]) hx hb dX10_answer_4 hl (by decide) rfl (fun ls hl => ?_)
  have loop6 : ∀ (n : Nat) (x5_6 : Int32) (x4_6 : Int32) (Ia6 : MI) (La6 : ML) (H : Heap) (locs : List Loc) (ls : Array Slot), INV Ia6 → Kp [] [] I Ia6 → (0 ≤ x5_6.toInt ∧ x5_6.toInt ≤ 300) → (0 ≤ x4_6.toInt ∧ x4_6.toInt ≤ 60) → (a1.toInt ≤ (x5_6).toInt ∧ (x5_6).toInt ≤ a2.toInt) → (La6 1043 = L 1043) → (EVI (L 1043) f (x5_6).toNatClampNeg (a2.toInt - (x5_6).toInt).toNat (stL (La6 1044) (x4_6).toNatClampNeg) (evl (L 1043) (sgF f (a1).toNatClampNeg (a2.toInt - a1.toInt).toNat) []) [tt]) → (a2.toInt - x5_6.toInt).toNat < n → Mem D A ad ns Ia6 La6 G H → va_S A s.heap H locs → lv_has ls 8 [(5, .int (x5_6)), (4, .int (x4_6)), (0, .ref (ad (1000))), (1, .int (a0)), (2, .int (a1)), (3, .int (a2))] → W p l e ({ frames := 2, cells := 0, slots := 0, locals := 44 } : Room) s m args below meth c H locs 0 0 (MQ below (va_Ql (fun r u => ∃ I2 L2, u = (ad, ns, I2, L2, G) ∧ INV I2 ∧ Kp [] [] I I2 ∧ ((evl (L 1043) (sgF f (a1).toNatClampNeg (a2.toInt - a1.toInt).toNat) []) = [r] ∧ L2 1043 = L 1043)) (BM D A) A) args s 0 0 A) (F0 m 6 ls []) := by
    intro n
    induction n with
    | zero =>
      intro x5_6 x4_6 Ia6 La6 H locs ls hI hK hr5_6 hr4_6 hle6 hL6 hev6 hmu
      exact absurd hmu (Nat.not_lt_zero _)
    | succ n ih6 =>
      intro x5_6 x4_6 Ia6 La6 H locs ls hI hK hr5_6 hr4_6 hle6 hL6 hev6 hmu6 hM hS hl
      refine lv_iload hx hb dX10_answer_6 (lv_at hl 0 rfl) ?_
      refine lv_iload_n hx hb dX10_answer_8 rfl (lv_at hl 5 rfl) ?_
      refine lv_icmp_ge (tgt := 153) hx hb dX10_answer_9 (by decide) (fun c1 => ?_) (fun c1 => ?_)
      · have hc1 := c1
        have q1 := q_le hc1
        refine lv_aload_n hx hb dX10_answer_153 rfl (lv_at hl 2 rfl) ?_
        refine m_getr (1000) 44 (1044) hx hb hts hown hE oc10 hM hJ.1 rfl (by decide) rfl (hJ.2 44 (by decide)).2 (by decide) tb_1221 dX10_answer_154 ?_
        refine lv_iconst (v := (0)) hx hb dX10_answer_157 (by decide) ?_
        refine m_lald (1044) hx hb hE hM (hJ.2 44 (by decide)).1 rfl (vp_in_iff.mpr (by decide)) dX10_answer_158 ?_
        rw [show (0 : Int32).toNatClampNeg = 0 from rfl]
        have zt4 := tn (i := x4_6) (by omega)
        have hfin := hev6
        rw [show (a2.toInt - (x5_6).toInt).toNat = 0 from by omega] at hfin
        have hf2 := hfin.fin
        rw [stL_len] at hf2
        exact m_lret hx hb hr hlocks hM hS (Nat.le_of_ble_eq_true rfl) (Nat.le_of_ble_eq_true rfl) ⟨_, _, rfl, hI, hK, ⟨by rw [hf2.1, hf2.2]; rfl, hL6⟩⟩ dX10_answer_159
      · have hc1 := c1
        have q1 := q_nle hc1
        have zt5 := tn (i := x5_6) (by omega)
        have zt4 := tn (i := x4_6) (by omega)
        have za0 := tn (i := a0) (by omega)
        have za1 := tn (i := a1) (by omega)
        have za2 := tn (i := a2) (by omega)
        have hV0 := hev6
        rw [show (a2.toInt - (x5_6).toInt).toNat = (a2.toInt - (x5_6).toInt - 1).toNat + 1 from by omega] at hV0
        obtain ⟨hV1, hV2, hV3, hV4, hopx⟩ := hV0.head
        rw [stL_len] at hV2 hV3 hV4
        have hII : Ia6 = I := funext fun n => funext fun k => hK n k rfl rfl
        have hcs := enc_cases (hce (x5_6).toNatClampNeg (by omega) (by omega)) hopx
        rw [← hII] at hcs
        refine lv_aload_n hx hb dX10_answer_12 rfl (lv_at hl 2 rfl) ?_
        refine m_getr (1000) 35 (1035) hx hb hts hown hE oc10 hM hJ.1 rfl (by decide) rfl (hJ.2 35 (by decide)).2 (by decide) tb_1212 dX10_answer_13 ?_
        refine lv_sipush (v := (300)) hx hb dX10_answer_16 (by decide) ?_
        refine lv_iload_n hx hb dX10_answer_19 rfl (lv_at hl 3 rfl) ?_
        refine lv_imul hx hb dX10_answer_20 ?_
        refine lv_topi (fun v2 ev2 => ?_)
        have tv2 := a_mulL (c := 300) ev2 (by decide) (by omega) (by omega)
        refine lv_iload hx hb dX10_answer_21 (lv_at hl 0 rfl) ?_
        refine lv_iadd hx hb dX10_answer_23 ?_
        refine lv_topi (fun v3 ev3 => ?_)
        have tv3 := a_add ev3 (by omega) (by omega)
        refine m_iald (1035) hx hb hE hM (hJ.2 35 (by decide)).1 rfl (vp_in_iff.mpr (by omega)) dX10_answer_24 ?_
        have es4 : (Ia6 1035 (v3).toNatClampNeg).toInt = (Ia6 1035 (300 * (a0).toNatClampNeg + (x5_6).toNatClampNeg)).toInt := by rw [show (v3).toNatClampNeg = (300 * (a0).toNatClampNeg + (x5_6).toNatClampNeg) from by have tt0 := tn (i := v3) (by omega); omega]
        refine lv_istore (lv' := [(6, .int (Ia6 (1035) (v3).toNatClampNeg)), (5, .int (x5_6)), (4, .int (x4_6)), (0, .ref (ad (1000))), (1, .int (a0)), (2, .int (a1)), (3, .int (a2))]) hx hb dX10_answer_25 hl (by decide) rfl (fun ls hl => ?_)
        refine lv_aload_n hx hb dX10_answer_27 rfl (lv_at hl 3 rfl) ?_
        refine m_getr (1000) 36 (1036) hx hb hts hown hE oc10 hM hJ.1 rfl (by decide) rfl (hJ.2 36 (by decide)).2 (by decide) tb_1213 dX10_answer_28 ?_
        refine lv_sipush (v := (300)) hx hb dX10_answer_31 (by decide) ?_
        refine lv_iload_n hx hb dX10_answer_34 rfl (lv_at hl 4 rfl) ?_
        refine lv_imul hx hb dX10_answer_35 ?_
        refine lv_topi (fun v5 ev5 => ?_)
        have tv5 := a_mulL (c := 300) ev5 (by decide) (by omega) (by omega)
        refine lv_iload hx hb dX10_answer_36 (lv_at hl 1 rfl) ?_
        refine lv_iadd hx hb dX10_answer_38 ?_
        refine lv_topi (fun v6 ev6 => ?_)
        have tv6 := a_add ev6 (by omega) (by omega)
        refine m_iald (1036) hx hb hE hM (hJ.2 36 (by decide)).1 rfl (vp_in_iff.mpr (by omega)) dX10_answer_39 ?_
        have es7 : (Ia6 1036 (v6).toNatClampNeg).toInt = (Ia6 1036 (300 * (a0).toNatClampNeg + (x5_6).toNatClampNeg)).toInt := by rw [show (v6).toNatClampNeg = (300 * (a0).toNatClampNeg + (x5_6).toNatClampNeg) from by have tt0 := tn (i := v6) (by omega); omega]
        refine lv_istore (lv' := [(7, .int (Ia6 (1036) (v6).toNatClampNeg)), (6, .int (Ia6 (1035) (v3).toNatClampNeg)), (5, .int (x5_6)), (4, .int (x4_6)), (0, .ref (ad (1000))), (1, .int (a0)), (2, .int (a1)), (3, .int (a2))]) hx hb dX10_answer_40 hl (by decide) rfl (fun ls hl => ?_)
        refine lv_iload hx hb dX10_answer_42 (lv_at hl 1 rfl) ?_
        refine lv_if_eq (tgt := 53) hx hb dX10_answer_44 (by decide) (fun c8 => ?_) (fun c8 => ?_)
        · have hc8 := c8
          have q8 := q_eq hc8
          refine lv_aload_n hx hb dX10_answer_53 rfl (lv_at hl 4 rfl) ?_
          refine m_getr (1000) 44 (1044) hx hb hts hown hE oc10 hM hJ.1 rfl (by decide) rfl (hJ.2 44 (by decide)).2 (by decide) tb_1221 dX10_answer_54 ?_
          refine lv_iload hx hb dX10_answer_57 (lv_at hl 3 rfl) ?_
          refine lv_iload hx hb dX10_answer_59 (lv_at hl 1 rfl) ?_
          refine lv_if_ne (tgt := 70) hx hb dX10_answer_61 (by decide) (fun c9 => ?_) (fun c9 => ?_)
          · have hc9 := c9
            have q9 := q_ne hc9
            refine lv_aload_n hx hb dX10_answer_70 rfl (lv_at hl 4 rfl) ?_
            refine m_getr (1000) 43 (1043) hx hb hts hown hE oc10 hM hJ.1 rfl (by decide) rfl (hJ.2 43 (by decide)).2 (by decide) tb_1220 dX10_answer_71 ?_
            refine lv_iload hx hb dX10_answer_74 (lv_at hl 0 rfl) ?_
            refine m_lald (1043) hx hb hE hM (hJ.2 43 (by decide)).1 rfl (vp_in_iff.mpr (by omega)) dX10_answer_76 ?_
            refine m_last (1044) hx hb hE hM hS (hJ.2 44 (by decide)).1 rfl (vp_in_iff.mpr (by omega)) dX10_answer_77 (fun H locs L10 eL10 hM hS => ?_)
            obtain ⟨v11, ev11⟩ : ∃ z : Int32, z = x4_6 + Int32.ofInt (1) := ⟨_, rfl⟩
            have tv11 := a_inc ev11 (by decide) (by omega) (by omega)
            refine lv_iinc (v := v11) (lv' := [(4, .int (v11)), (7, .int (Ia6 (1036) (v6).toNatClampNeg)), (6, .int (Ia6 (1035) (v3).toNatClampNeg)), (5, .int (x5_6)), (0, .ref (ad (1000))), (1, .int (a0)), (2, .int (a1)), (3, .int (a2))]) hx hb dX10_answer_78 hl (k := 3) rfl ev11.symm (by decide) rfl (fun ls hl => ?_)
            refine lv_goto (tgt := 147) hx hb dX10_answer_81 (by decide) ?_
            obtain ⟨v12, ev12⟩ : ∃ z : Int32, z = x5_6 + Int32.ofInt (1) := ⟨_, rfl⟩
            have tv12 := a_inc ev12 (by decide) (by omega) (by omega)
            refine lv_iinc (v := v12) (lv' := [(5, .int (v12)), (4, .int (v11)), (7, .int (Ia6 (1036) (v6).toNatClampNeg)), (6, .int (Ia6 (1035) (v3).toNatClampNeg)), (0, .ref (ad (1000))), (1, .int (a0)), (2, .int (a1)), (3, .int (a2))]) hx hb dX10_answer_147 hl (k := 3) rfl ev12.symm (by decide) rfl (fun ls hl => ?_)
            refine lv_goto (tgt := 6) hx hb dX10_answer_150 (by decide) ?_
            exact ih6 (v12) (v11) Ia6 L10 _ _ ls hI hK (by first | omega | decide) (by first | omega | decide) (by omega) (by exfalso; omega) (by exfalso; omega) (by omega) hM hS (lv_sub hl [0, 1, 4, 5, 6, 7] rfl)
          · have hc9 := c9
            have q9 := q_eq hc9
            refine lv_iload hx hb dX10_answer_64 (lv_at hl 0 rfl) ?_
            refine lv_i2l hx hb dX10_answer_66 rfl ?_
            refine lv_topl (fun v13 ev13 => ?_)
            have tv13 := q_i2l ev13
            refine lv_goto (tgt := 77) hx hb dX10_answer_67 (by decide) ?_
            refine m_last (1044) hx hb hE hM hS (hJ.2 44 (by decide)).1 rfl (vp_in_iff.mpr (by omega)) dX10_answer_77 (fun H locs L14 eL14 hM hS => ?_)
            obtain ⟨v15, ev15⟩ : ∃ z : Int32, z = x4_6 + Int32.ofInt (1) := ⟨_, rfl⟩
            have tv15 := a_inc ev15 (by decide) (by omega) (by omega)
            refine lv_iinc (v := v15) (lv' := [(4, .int (v15)), (7, .int (Ia6 (1036) (v6).toNatClampNeg)), (6, .int (Ia6 (1035) (v3).toNatClampNeg)), (5, .int (x5_6)), (0, .ref (ad (1000))), (1, .int (a0)), (2, .int (a1)), (3, .int (a2))]) hx hb dX10_answer_78 hl (k := 3) rfl ev15.symm (by decide) rfl (fun ls hl => ?_)
            refine lv_goto (tgt := 147) hx hb dX10_answer_81 (by decide) ?_
            obtain ⟨v16, ev16⟩ : ∃ z : Int32, z = x5_6 + Int32.ofInt (1) := ⟨_, rfl⟩
            have tv16 := a_inc ev16 (by decide) (by omega) (by omega)
            refine lv_iinc (v := v16) (lv' := [(5, .int (v16)), (4, .int (v15)), (7, .int (Ia6 (1036) (v6).toNatClampNeg)), (6, .int (Ia6 (1035) (v3).toNatClampNeg)), (0, .ref (ad (1000))), (1, .int (a0)), (2, .int (a1)), (3, .int (a2))]) hx hb dX10_answer_147 hl (k := 3) rfl ev16.symm (by decide) rfl (fun ls hl => ?_)
            refine lv_goto (tgt := 6) hx hb dX10_answer_150 (by decide) ?_
            exact ih6 (v16) (v15) Ia6 L14 _ _ ls hI hK (by first | omega | decide) (by first | omega | decide) (by omega) (by rw [eL14, u2_ne _ _ _ (by decide)]; exact hL6) (by rw [show (v16).toNatClampNeg = (x5_6).toNatClampNeg + 1 from (by have z := tn (i := v16) (by omega); omega), show (a2.toInt - (v16).toInt).toNat = (a2.toInt - (x5_6).toInt - 1).toNat from (by omega)]; have hh := hV1; rw [show (v15).toNatClampNeg = (x4_6).toNatClampNeg + 1 from (by have z := tn (i := v15) (by omega); omega), eL14, ev_push (e := L 1043) (c := (f (x5_6).toNatClampNeg).toInt) (by omega) (by unfold vl; rw [if_pos (by omega)]; exact (ev13).trans ((i64_of _).trans (congrArg Int64.ofInt (by omega))))]; exact hh) (by omega) hM hS (lv_sub hl [0, 1, 4, 5, 6, 7] rfl)
        · have hc8 := c8
          have q8 := q_ne hc8
          refine lv_iload hx hb dX10_answer_47 (lv_at hl 1 rfl) ?_
          refine lv_iconst (v := (1)) hx hb dX10_answer_49 (by decide) ?_
          refine lv_icmp_ne (tgt := 84) hx hb dX10_answer_50 (by decide) (fun c17 => ?_) (fun c17 => ?_)
          · have hc17 := c17
            have q17 := q_ne hc17
            refine lv_iload hx hb dX10_answer_84 (lv_at hl 1 rfl) ?_
            refine lv_bipush (v := (9)) hx hb dX10_answer_86 (by decide) ?_
            refine lv_icmp_ne (tgt := 114) hx hb dX10_answer_88 (by decide) (fun c18 => ?_) (fun c18 => ?_)
            · have hc18 := c18
              have q18 := q_ne hc18
              obtain ⟨v19, ev19⟩ : ∃ z : Int32, z = x4_6 + Int32.ofInt (-1) := ⟨_, rfl⟩
              have tv19 := a_inc ev19 (by decide) (by omega) (by omega)
              refine lv_iinc (v := v19) (lv' := [(4, .int (v19)), (7, .int (Ia6 (1036) (v6).toNatClampNeg)), (6, .int (Ia6 (1035) (v3).toNatClampNeg)), (5, .int (x5_6)), (0, .ref (ad (1000))), (1, .int (a0)), (2, .int (a1)), (3, .int (a2))]) hx hb dX10_answer_114 hl (k := 3) rfl ev19.symm (by decide) rfl (fun ls hl => ?_)
              refine lv_aload_n hx hb dX10_answer_117 rfl (lv_at hl 4 rfl) ?_
              refine m_getr (1000) 44 (1044) hx hb hts hown hE oc10 hM hJ.1 rfl (by decide) rfl (hJ.2 44 (by decide)).2 (by decide) tb_1221 dX10_answer_118 ?_
              refine lv_iload hx hb dX10_answer_121 (lv_at hl 0 rfl) ?_
              refine lv_iconst (v := (1)) hx hb dX10_answer_123 (by decide) ?_
              refine lv_isub hx hb dX10_answer_124 ?_
              refine lv_topi (fun v20 ev20 => ?_)
              have tv20 := a_sub ev20 (by omega) (by omega)
              refine lv_iload hx hb dX10_answer_125 (lv_at hl 2 rfl) ?_
              refine lv_aload_n hx hb dX10_answer_127 rfl (lv_at hl 4 rfl) ?_
              refine m_getr (1000) 44 (1044) hx hb hts hown hE oc10 hM hJ.1 rfl (by decide) rfl (hJ.2 44 (by decide)).2 (by decide) tb_1221 dX10_answer_128 ?_
              refine lv_iload hx hb dX10_answer_131 (lv_at hl 0 rfl) ?_
              refine lv_iconst (v := (1)) hx hb dX10_answer_133 (by decide) ?_
              refine lv_isub hx hb dX10_answer_134 ?_
              refine lv_topi (fun v21 ev21 => ?_)
              have tv21 := a_sub ev21 (by omega) (by omega)
              refine m_lald (1044) hx hb hE hM (hJ.2 44 (by decide)).1 rfl (vp_in_iff.mpr (by omega)) dX10_answer_135 ?_
              refine lv_aload_n hx hb dX10_answer_136 rfl (lv_at hl 4 rfl) ?_
              refine m_getr (1000) 44 (1044) hx hb hts hown hE oc10 hM hJ.1 rfl (by decide) rfl (hJ.2 44 (by decide)).2 (by decide) tb_1221 dX10_answer_137 ?_
              refine lv_iload hx hb dX10_answer_140 (lv_at hl 0 rfl) ?_
              refine m_lald (1044) hx hb hE hM (hJ.2 44 (by decide)).1 rfl (vp_in_iff.mpr (by omega)) dX10_answer_142 ?_
              refine m_calll (m_runS (As := [.int (Ia6 (1035) (v3).toNatClampNeg), .long (La6 (1044) (v21).toNatClampNeg), .long (La6 (1044) (v19).toNatClampNeg)]) (rest := [.int (v20), .ref (ad (1044))]) hx hb hml hown hts hE hM hS hA ce_X10_both tb_1634 (V_X10_both_y l D A ad ns Ia6 La6 G (Ia6 (1035) (v3).toNatClampNeg) (La6 (1044) (v21).toNatClampNeg) (La6 (1044) (v19).toNatClampNeg) hI) rfl rfl ⟨Nat.le_of_ble_eq_true rfl, Nat.le_of_ble_eq_true rfl⟩  rfl hl.1 rfl (Nat.le_of_ble_eq_true rfl) dX10_answer_143 ⟨Nat.le_of_ble_eq_true rfl, Nat.le_of_ble_eq_true rfl⟩) hS (fun r22 u H locs hw hM hS => ?_)
              obtain ⟨rfl, xr22⟩ := hw
              have hM : Mem D A ad ns Ia6 La6 G H := hM
              refine m_last (1044) hx hb hE hM hS (hJ.2 44 (by decide)).1 rfl (vp_in_iff.mpr (by omega)) dX10_answer_146 (fun H locs L23 eL23 hM hS => ?_)
              obtain ⟨v24, ev24⟩ : ∃ z : Int32, z = x5_6 + Int32.ofInt (1) := ⟨_, rfl⟩
              have tv24 := a_inc ev24 (by decide) (by omega) (by omega)
              refine lv_iinc (v := v24) (lv' := [(5, .int (v24)), (4, .int (v19)), (7, .int (Ia6 (1036) (v6).toNatClampNeg)), (6, .int (Ia6 (1035) (v3).toNatClampNeg)), (0, .ref (ad (1000))), (1, .int (a0)), (2, .int (a1)), (3, .int (a2))]) hx hb dX10_answer_147 hl (k := 3) rfl ev24.symm (by decide) rfl (fun ls hl => ?_)
              refine lv_goto (tgt := 6) hx hb dX10_answer_150 (by decide) ?_
              exact ih6 (v24) (v19) Ia6 L23 _ _ ls hI hK (by first | omega | decide) (by first | omega | decide) (by omega) (by rw [eL23, u2_ne _ _ _ (by decide)]; exact hL6) (by rw [show (v24).toNatClampNeg = (x5_6).toNatClampNeg + 1 from (by have z := tn (i := v24) (by omega); omega), show (a2.toInt - (v24).toInt).toNat = (a2.toInt - (x5_6).toInt - 1).toNat from (by omega)]; have hh := hV1; rw [show (x4_6).toNatClampNeg = (v20).toNatClampNeg + 2 from (by have z := tn (i := v20) (by omega); omega)] at hh; have hV9 := hV0; rw [show (x4_6).toNatClampNeg = (v20).toNatClampNeg + 2 from (by have z := tn (i := v20) (by omega); omega)] at hV9; have hlg := fun z => hV9.lg z; have hfj : enc (Ia6 (1035) (v3).toNatClampNeg : Int32).toInt (Ia6 1036 (300 * (a0).toNatClampNeg + (x5_6).toNatClampNeg)).toInt = (f (x5_6).toNatClampNeg).toInt := (by rw [show (Ia6 (1035) (v3).toNatClampNeg : Int32).toInt = (Ia6 1035 (300 * (a0).toNatClampNeg + (x5_6).toNatClampNeg)).toInt from (by omega), hII]; exact hce (x5_6).toNatClampNeg (by omega) (by omega)); rw [show (v19).toNatClampNeg = (v20).toNatClampNeg + 1 from (by have z := tn (i := v20) (by omega); have z2 := tn (i := v19) (by omega); omega), eL23, ev_jn (e := L 1043) (c := (f (x5_6).toNatClampNeg).toInt) (by omega) (by rw [xr22, show (v21).toNatClampNeg = (v20).toNatClampNeg from (by have z := tn (i := v21) (by omega); have z2 := tn (i := v20) (by omega); omega), show (v19).toNatClampNeg = (v20).toNatClampNeg + 1 from (by have z := tn (i := v19) (by omega); have z2 := tn (i := v20) (by omega); omega), ← hfj]; exact bo_jn (by omega) (fun hq => by rw [hfj] at hq; exact hlg hq))]; exact hh) (by omega) hM hS (lv_sub hl [0, 1, 4, 5, 6, 7] rfl)
            · have hc18 := c18
              have q18 := q_eq hc18
              refine lv_aload_n hx hb dX10_answer_91 rfl (lv_at hl 4 rfl) ?_
              refine m_getr (1000) 44 (1044) hx hb hts hown hE oc10 hM hJ.1 rfl (by decide) rfl (hJ.2 44 (by decide)).2 (by decide) tb_1221 dX10_answer_92 ?_
              refine lv_iload hx hb dX10_answer_95 (lv_at hl 3 rfl) ?_
              refine lv_iconst (v := (1)) hx hb dX10_answer_97 (by decide) ?_
              refine lv_isub hx hb dX10_answer_98 ?_
              refine lv_topi (fun v25 ev25 => ?_)
              have tv25 := a_sub ev25 (by omega) (by omega)
              refine lv_lconst (v := 1) hx hb dX10_answer_99 (by decide) ?_
              refine lv_aload_n hx hb dX10_answer_100 rfl (lv_at hl 4 rfl) ?_
              refine m_getr (1000) 44 (1044) hx hb hts hown hE oc10 hM hJ.1 rfl (by decide) rfl (hJ.2 44 (by decide)).2 (by decide) tb_1221 dX10_answer_101 ?_
              refine lv_iload hx hb dX10_answer_104 (lv_at hl 3 rfl) ?_
              refine lv_iconst (v := (1)) hx hb dX10_answer_106 (by decide) ?_
              refine lv_isub hx hb dX10_answer_107 ?_
              refine lv_topi (fun v26 ev26 => ?_)
              have tv26 := a_sub ev26 (by omega) (by omega)
              refine m_lald (1044) hx hb hE hM (hJ.2 44 (by decide)).1 rfl (vp_in_iff.mpr (by omega)) dX10_answer_108 ?_
              refine lv_lsub hx hb dX10_answer_109 ?_
              refine lv_topl (fun v27 ev27 => ?_)
              refine m_last (1044) hx hb hE hM hS (hJ.2 44 (by decide)).1 rfl (vp_in_iff.mpr (by omega)) dX10_answer_110 (fun H locs L28 eL28 hM hS => ?_)
              refine lv_goto (tgt := 147) hx hb dX10_answer_111 (by decide) ?_
              obtain ⟨v29, ev29⟩ : ∃ z : Int32, z = x5_6 + Int32.ofInt (1) := ⟨_, rfl⟩
              have tv29 := a_inc ev29 (by decide) (by omega) (by omega)
              refine lv_iinc (v := v29) (lv' := [(5, .int (v29)), (7, .int (Ia6 (1036) (v6).toNatClampNeg)), (6, .int (Ia6 (1035) (v3).toNatClampNeg)), (4, .int (x4_6)), (0, .ref (ad (1000))), (1, .int (a0)), (2, .int (a1)), (3, .int (a2))]) hx hb dX10_answer_147 hl (k := 2) rfl ev29.symm (by decide) rfl (fun ls hl => ?_)
              refine lv_goto (tgt := 6) hx hb dX10_answer_150 (by decide) ?_
              exact ih6 (v29) (x4_6) Ia6 L28 _ _ ls hI hK (by first | omega | decide) (by first | omega | decide) (by omega) (by rw [eL28, u2_ne _ _ _ (by decide)]; exact hL6) (by rw [show (v29).toNatClampNeg = (x5_6).toNatClampNeg + 1 from (by have z := tn (i := v29) (by omega); omega), show (a2.toInt - (v29).toInt).toNat = (a2.toInt - (x5_6).toInt - 1).toNat from (by omega)]; have hh := hV1; rw [show (x4_6).toNatClampNeg = (v25).toNatClampNeg + 1 from (by have z := tn (i := v25) (by omega); omega)] at hh ⊢; rw [eL28, ev_not (e := L 1043) (by rw [ev27, show (v26).toNatClampNeg = (v25).toNatClampNeg from (by have z := tn (i := v26) (by omega); have z2 := tn (i := v25) (by omega); omega)])]; rw [show (f (x5_6).toNatClampNeg).toInt = -14 from (by omega)] at hh; exact hh) (by omega) hM hS (lv_sub hl [0, 3, 4, 5, 6, 7] rfl)
          · have hc17 := c17
            have q17 := q_eq hc17
            refine lv_aload_n hx hb dX10_answer_53 rfl (lv_at hl 4 rfl) ?_
            refine m_getr (1000) 44 (1044) hx hb hts hown hE oc10 hM hJ.1 rfl (by decide) rfl (hJ.2 44 (by decide)).2 (by decide) tb_1221 dX10_answer_54 ?_
            refine lv_iload hx hb dX10_answer_57 (lv_at hl 3 rfl) ?_
            refine lv_iload hx hb dX10_answer_59 (lv_at hl 1 rfl) ?_
            refine lv_if_ne (tgt := 70) hx hb dX10_answer_61 (by decide) (fun c30 => ?_) (fun c30 => ?_)
            · have hc30 := c30
              have q30 := q_ne hc30
              refine lv_aload_n hx hb dX10_answer_70 rfl (lv_at hl 4 rfl) ?_
              refine m_getr (1000) 43 (1043) hx hb hts hown hE oc10 hM hJ.1 rfl (by decide) rfl (hJ.2 43 (by decide)).2 (by decide) tb_1220 dX10_answer_71 ?_
              refine lv_iload hx hb dX10_answer_74 (lv_at hl 0 rfl) ?_
              refine m_lald (1043) hx hb hE hM (hJ.2 43 (by decide)).1 rfl (vp_in_iff.mpr (by omega)) dX10_answer_76 ?_
              refine m_last (1044) hx hb hE hM hS (hJ.2 44 (by decide)).1 rfl (vp_in_iff.mpr (by omega)) dX10_answer_77 (fun H locs L31 eL31 hM hS => ?_)
              obtain ⟨v32, ev32⟩ : ∃ z : Int32, z = x4_6 + Int32.ofInt (1) := ⟨_, rfl⟩
              have tv32 := a_inc ev32 (by decide) (by omega) (by omega)
              refine lv_iinc (v := v32) (lv' := [(4, .int (v32)), (7, .int (Ia6 (1036) (v6).toNatClampNeg)), (6, .int (Ia6 (1035) (v3).toNatClampNeg)), (5, .int (x5_6)), (0, .ref (ad (1000))), (1, .int (a0)), (2, .int (a1)), (3, .int (a2))]) hx hb dX10_answer_78 hl (k := 3) rfl ev32.symm (by decide) rfl (fun ls hl => ?_)
              refine lv_goto (tgt := 147) hx hb dX10_answer_81 (by decide) ?_
              obtain ⟨v33, ev33⟩ : ∃ z : Int32, z = x5_6 + Int32.ofInt (1) := ⟨_, rfl⟩
              have tv33 := a_inc ev33 (by decide) (by omega) (by omega)
              refine lv_iinc (v := v33) (lv' := [(5, .int (v33)), (4, .int (v32)), (7, .int (Ia6 (1036) (v6).toNatClampNeg)), (6, .int (Ia6 (1035) (v3).toNatClampNeg)), (0, .ref (ad (1000))), (1, .int (a0)), (2, .int (a1)), (3, .int (a2))]) hx hb dX10_answer_147 hl (k := 3) rfl ev33.symm (by decide) rfl (fun ls hl => ?_)
              refine lv_goto (tgt := 6) hx hb dX10_answer_150 (by decide) ?_
              exact ih6 (v33) (v32) Ia6 L31 _ _ ls hI hK (by first | omega | decide) (by first | omega | decide) (by omega) (by rw [eL31, u2_ne _ _ _ (by decide)]; exact hL6) (by rw [show (v33).toNatClampNeg = (x5_6).toNatClampNeg + 1 from (by have z := tn (i := v33) (by omega); omega), show (a2.toInt - (v33).toInt).toNat = (a2.toInt - (x5_6).toInt - 1).toNat from (by omega)]; have hh := hV1; rw [show (v32).toNatClampNeg = (x4_6).toNatClampNeg + 1 from (by have z := tn (i := v32) (by omega); omega), eL31, ev_push (e := L 1043) (c := (f (x5_6).toNatClampNeg).toInt) (by omega) (by unfold vl; rw [if_neg (by omega), ← hL6, show (-1 - (f (x5_6).toNatClampNeg).toInt).toNat = (Ia6 (1036) (v6).toNatClampNeg).toNatClampNeg from (by have z := tn (i := Ia6 (1036) (v6).toNatClampNeg) (by omega); omega)])]; exact hh) (by omega) hM hS (lv_sub hl [0, 1, 4, 5, 6, 7] rfl)
            · have hc30 := c30
              have q30 := q_eq hc30
              refine lv_iload hx hb dX10_answer_64 (lv_at hl 0 rfl) ?_
              refine lv_i2l hx hb dX10_answer_66 rfl ?_
              refine lv_topl (fun v34 ev34 => ?_)
              have tv34 := q_i2l ev34
              refine lv_goto (tgt := 77) hx hb dX10_answer_67 (by decide) ?_
              refine m_last (1044) hx hb hE hM hS (hJ.2 44 (by decide)).1 rfl (vp_in_iff.mpr (by omega)) dX10_answer_77 (fun H locs L35 eL35 hM hS => ?_)
              obtain ⟨v36, ev36⟩ : ∃ z : Int32, z = x4_6 + Int32.ofInt (1) := ⟨_, rfl⟩
              have tv36 := a_inc ev36 (by decide) (by omega) (by omega)
              refine lv_iinc (v := v36) (lv' := [(4, .int (v36)), (7, .int (Ia6 (1036) (v6).toNatClampNeg)), (6, .int (Ia6 (1035) (v3).toNatClampNeg)), (5, .int (x5_6)), (0, .ref (ad (1000))), (1, .int (a0)), (2, .int (a1)), (3, .int (a2))]) hx hb dX10_answer_78 hl (k := 3) rfl ev36.symm (by decide) rfl (fun ls hl => ?_)
              refine lv_goto (tgt := 147) hx hb dX10_answer_81 (by decide) ?_
              obtain ⟨v37, ev37⟩ : ∃ z : Int32, z = x5_6 + Int32.ofInt (1) := ⟨_, rfl⟩
              have tv37 := a_inc ev37 (by decide) (by omega) (by omega)
              refine lv_iinc (v := v37) (lv' := [(5, .int (v37)), (4, .int (v36)), (7, .int (Ia6 (1036) (v6).toNatClampNeg)), (6, .int (Ia6 (1035) (v3).toNatClampNeg)), (0, .ref (ad (1000))), (1, .int (a0)), (2, .int (a1)), (3, .int (a2))]) hx hb dX10_answer_147 hl (k := 3) rfl ev37.symm (by decide) rfl (fun ls hl => ?_)
              refine lv_goto (tgt := 6) hx hb dX10_answer_150 (by decide) ?_
              exact ih6 (v37) (v36) Ia6 L35 _ _ ls hI hK (by first | omega | decide) (by first | omega | decide) (by omega) (by exfalso; omega) (by exfalso; omega) (by omega) hM hS (lv_sub hl [0, 1, 4, 5, 6, 7] rfl)
  exact loop6 (_ + 1) (a1) (0) I L _ _ ls hI hK (by first | omega | decide) (by first | omega | decide) (by omega) rfl (EVI.z hty hcv) (Nat.lt_succ_self _) hM hS (lv_sub hl [0, 1, 2, 3, 4, 5] rfl)
set_option maxHeartbeats 4000000 in
set_option maxRecDepth 20000 in
theorem V_X10_asks_y (l : Launch) (D : va_G) (A : Nat → Prop) (ad : Nat → Nat) (ns : List Nat) (I : MI) (L : ML) (G : MG) (a0 : Int32) (a1 : Int32) (hJ : SGM ns G) (hI : INV I) (hkm : a1.toInt < (I 1001 8).toInt) (hgz : ∀ j : Nat, (I 1001 9).toNatClampNeg ≤ j → j < 8 → I 1064 j = 0) (ha0 : 0 ≤ a0.toInt ∧ a0.toInt ≤ 23) (ha1 : 0 ≤ a1.toInt ∧ a1.toInt ≤ 23) : Met l yX10_asks (wd yX10_asks cX10_asks 4 none) ({ frames := 1, cells := 0, slots := 0, locals := 21 }) (va_Pc [.ref (ad (1000)), .int a0, .int a1] (PM D A ad ns I L G)) (va_Qv (fun u => ∃ I2 L2, u = (ad, ns, I2, L2, G) ∧ INV I2 ∧ Kp [] [] I I2 ∧ (∀ j : Nat, j < 13 → L2 1043 j = envV (live I) a0 (I 1064) (a1).toNatClampNeg j)) (BM D A) A) 0 0 A := by
  refine m_ofW (by decide) (Nat.le_of_ble_eq_true rfl) ?_
  intro p e s m below meth c ls args hC hE hM hA hS hl
  obtain ⟨hx, hb, hml, hown, hts, hr, hlocks, hin⟩ := hC
  have km1 : (-1 : Int32).toInt = -1 := by decide
  have k0 : (0 : Int32).toInt = 0 := by decide
  have k1 : (1 : Int32).toInt = 1 := by decide
  have k2 : (2 : Int32).toInt = 2 := by decide
  have k3 : (3 : Int32).toInt = 3 := by decide
  have k4 : (4 : Int32).toInt = 4 := by decide
  have k5 : (5 : Int32).toInt = 5 := by decide
  have k6 : (6 : Int32).toInt = 6 := by decide
  have k8 : (8 : Int32).toInt = 8 := by decide
  have k9 : (9 : Int32).toInt = 9 := by decide
  have kl0 : (0 : Int64).toInt = 0 := by decide
  have kl8 : (8 : Int64).toInt = 8 := by decide
  have hK : Kp [] [] I I := Kp.rf
  have hl : lv_has ls 4 [(0, .ref (ad (1000))), (1, .int (a0)), (2, .int (a1))] := hl
  refine lv_aload_n hx hb dX10_asks_0 rfl (lv_at hl 0 rfl) ?_
  refine m_getr (1000) 43 (1043) hx hb hts hown hE oc10 hM hJ.1 rfl (by decide) rfl (hJ.2 43 (by decide)).2 (by decide) tb_1220 dX10_asks_1 ?_
  refine lv_iconst (v := (0)) hx hb dX10_asks_4 (by decide) ?_
  refine lv_iload_n hx hb dX10_asks_5 rfl (lv_at hl 1 rfl) ?_
  refine lv_i2l hx hb dX10_asks_6 rfl ?_
  refine lv_topl (fun v1 ev1 => ?_)
  have tv1 := q_i2l ev1
  refine m_last (1043) hx hb hE hM hS (hJ.2 43 (by decide)).1 rfl (vp_in_iff.mpr (by decide)) dX10_asks_7 (fun H locs L2 eL2 hM hS => ?_)
  refine lv_aload_n hx hb dX10_asks_8 rfl (lv_at hl 0 rfl) ?_
  refine m_getr (1000) 43 (1043) hx hb hts hown hE oc10 hM hJ.1 rfl (by decide) rfl (hJ.2 43 (by decide)).2 (by decide) tb_1220 dX10_asks_9 ?_
  refine lv_iconst (v := (1)) hx hb dX10_asks_12 (by decide) ?_
  refine lv_aload_n hx hb dX10_asks_13 rfl (lv_at hl 0 rfl) ?_
  refine m_getr (1000) 1 (1001) hx hb hts hown hE oc10 hM hJ.1 rfl (by decide) rfl (hJ.2 1 (by decide)).2 (by decide) tb_1178 dX10_asks_14 ?_
  refine lv_iconst (v := (5)) hx hb dX10_asks_17 (by decide) ?_
  refine m_iald (1001) hx hb hE hM (hJ.2 1 (by decide)).1 rfl (vp_in_iff.mpr (by decide)) dX10_asks_18 ?_
  rw [show (5 : Int32).toNatClampNeg = 5 from rfl]
  have g3 := hI.get (1001) 5 (lo := 0) (hi := 11) rfl
  refine lv_i2l hx hb dX10_asks_19 rfl ?_
  refine lv_topl (fun v4 ev4 => ?_)
  have tv4 := q_i2l ev4
  refine m_last (1043) hx hb hE hM hS (hJ.2 43 (by decide)).1 rfl (vp_in_iff.mpr (by decide)) dX10_asks_20 (fun H locs L5 eL5 hM hS => ?_)
  refine lv_aload_n hx hb dX10_asks_21 rfl (lv_at hl 0 rfl) ?_
  refine m_getr (1000) 43 (1043) hx hb hts hown hE oc10 hM hJ.1 rfl (by decide) rfl (hJ.2 43 (by decide)).2 (by decide) tb_1220 dX10_asks_22 ?_
  refine lv_iconst (v := (2)) hx hb dX10_asks_25 (by decide) ?_
  refine lv_aload_n hx hb dX10_asks_26 rfl (lv_at hl 0 rfl) ?_
  refine m_getr (1000) 1 (1001) hx hb hts hown hE oc10 hM hJ.1 rfl (by decide) rfl (hJ.2 1 (by decide)).2 (by decide) tb_1178 dX10_asks_27 ?_
  refine lv_bipush (v := (6)) hx hb dX10_asks_30 (by decide) ?_
  refine m_iald (1001) hx hb hE hM (hJ.2 1 (by decide)).1 rfl (vp_in_iff.mpr (by decide)) dX10_asks_32 ?_
  rw [show (6 : Int32).toNatClampNeg = 6 from rfl]
  refine lv_i2l hx hb dX10_asks_33 rfl ?_
  refine lv_topl (fun v6 ev6 => ?_)
  have tv6 := q_i2l ev6
  refine m_last (1043) hx hb hE hM hS (hJ.2 43 (by decide)).1 rfl (vp_in_iff.mpr (by decide)) dX10_asks_34 (fun H locs L7 eL7 hM hS => ?_)
  refine lv_aload_n hx hb dX10_asks_35 rfl (lv_at hl 0 rfl) ?_
  refine m_getr (1000) 43 (1043) hx hb hts hown hE oc10 hM hJ.1 rfl (by decide) rfl (hJ.2 43 (by decide)).2 (by decide) tb_1220 dX10_asks_36 ?_
  refine lv_iconst (v := (3)) hx hb dX10_asks_39 (by decide) ?_
  refine lv_iload_n hx hb dX10_asks_40 rfl (lv_at hl 2 rfl) ?_
  refine lv_aload_n hx hb dX10_asks_41 rfl (lv_at hl 0 rfl) ?_
  refine m_getr (1000) 1 (1001) hx hb hts hown hE oc10 hM hJ.1 rfl (by decide) rfl (hJ.2 1 (by decide)).2 (by decide) tb_1178 dX10_asks_42 ?_
  refine lv_bipush (v := (8)) hx hb dX10_asks_45 (by decide) ?_
  refine m_iald (1001) hx hb hE hM (hJ.2 1 (by decide)).1 rfl (vp_in_iff.mpr (by decide)) dX10_asks_47 ?_
  rw [show (8 : Int32).toNatClampNeg = 8 from rfl]
  have g8 := hI.get (1001) 8 (lo := 0) (hi := 24) rfl
  refine lv_icmp_ge (tgt := 61) hx hb dX10_asks_48 (by decide) (fun c9 => ?_) (fun c9 => ?_)
  · have hc9 := c9
    have q9 := q_le hc9
    exfalso; omega
  · have hc9 := c9
    have q9 := q_nle hc9
    refine lv_aload_n hx hb dX10_asks_51 rfl (lv_at hl 0 rfl) ?_
    refine m_getr (1000) 9 (1009) hx hb hts hown hE oc10 hM hJ.1 rfl (by decide) rfl (hJ.2 9 (by decide)).2 (by decide) tb_1186 dX10_asks_52 ?_
    refine lv_iload_n hx hb dX10_asks_55 rfl (lv_at hl 2 rfl) ?_
    refine m_iald (1009) hx hb hE hM (hJ.2 9 (by decide)).1 rfl (vp_in_iff.mpr (by omega)) dX10_asks_56 ?_
    refine lv_i2l hx hb dX10_asks_57 rfl ?_
    refine lv_topl (fun v10 ev10 => ?_)
    have tv10 := q_i2l ev10
    refine lv_goto (tgt := 62) hx hb dX10_asks_58 (by decide) ?_
    refine m_last (1043) hx hb hE hM hS (hJ.2 43 (by decide)).1 rfl (vp_in_iff.mpr (by decide)) dX10_asks_62 (fun H locs L11 eL11 hM hS => ?_)
    refine lv_aload_n hx hb dX10_asks_63 rfl (lv_at hl 0 rfl) ?_
    refine m_getr (1000) 43 (1043) hx hb hts hown hE oc10 hM hJ.1 rfl (by decide) rfl (hJ.2 43 (by decide)).2 (by decide) tb_1220 dX10_asks_64 ?_
    refine lv_iconst (v := (4)) hx hb dX10_asks_67 (by decide) ?_
    refine lv_aload_n hx hb dX10_asks_68 rfl (lv_at hl 0 rfl) ?_
    refine lv_iload_n hx hb dX10_asks_69 rfl (lv_at hl 1 rfl) ?_
    refine m_calli (m_runV (1000) (As := [.int (a0)]) (rest := [.int (4), .ref (ad (1043))]) hx hb hml hown hts hE hM hS hA ce_X10_sunOf tb_1625 (V_X10_sunOf_l l D A ad ns I L11 G (a0) hJ hI (by first | omega | decide)) rfl rfl ⟨Nat.le_of_ble_eq_true rfl, Nat.le_of_ble_eq_true rfl⟩ hJ.1 rfl rfl (by decide) rfl hl.1 rfl (Nat.le_of_ble_eq_true rfl) dX10_asks_70 ⟨Nat.le_of_ble_eq_true rfl, Nat.le_of_ble_eq_true rfl⟩) hS (fun r12 u H locs hw hM hS => ?_)
    obtain ⟨rfl, xr12⟩ := hw
    have hM : Mem D A ad ns I L11 G H := hM
    refine lv_iconst (v := (-1)) hx hb dX10_asks_73 (by decide) ?_
    refine lv_icmp_ne (tgt := 83) hx hb dX10_asks_74 (by decide) (fun c13 => ?_) (fun c13 => ?_)
    · have hc13 := c13
      have q13 := q_ne hc13
      refine lv_aload_n hx hb dX10_asks_83 rfl (lv_at hl 0 rfl) ?_
      refine lv_iload_n hx hb dX10_asks_84 rfl (lv_at hl 1 rfl) ?_
      refine m_calli (m_runV (1000) (As := [.int (a0)]) (rest := [.int (4), .ref (ad (1043))]) hx hb hml hown hts hE hM hS hA ce_X10_sunOf tb_1625 (V_X10_sunOf_l l D A ad ns I L11 G (a0) hJ hI (by first | omega | decide)) rfl rfl ⟨Nat.le_of_ble_eq_true rfl, Nat.le_of_ble_eq_true rfl⟩ hJ.1 rfl rfl (by decide) rfl hl.1 rfl (Nat.le_of_ble_eq_true rfl) dX10_asks_85 ⟨Nat.le_of_ble_eq_true rfl, Nat.le_of_ble_eq_true rfl⟩) hS (fun r14 u H locs hw hM hS => ?_)
      obtain ⟨rfl, xr14⟩ := hw
      have hM : Mem D A ad ns I L11 G H := hM
      refine lv_i2l hx hb dX10_asks_88 rfl ?_
      refine lv_topl (fun v15 ev15 => ?_)
      have tv15 := q_i2l ev15
      refine m_last (1043) hx hb hE hM hS (hJ.2 43 (by decide)).1 rfl (vp_in_iff.mpr (by decide)) dX10_asks_89 (fun H locs L16 eL16 hM hS => ?_)
      refine lv_iconst (v := (0)) hx hb dX10_asks_90 (by decide) ?_
      refine lv_istore_n (lv' := [(3, .int (0)), (0, .ref (ad (1000))), (1, .int (a0)), (2, .int (a1))]) hx hb dX10_asks_91 rfl hl (by decide) rfl (fun ls hl => ?_)
      have av0 : L16 1043 0 = v1 := by rw [eL16, u2_v, if_neg (by decide), eL11, u2_v, if_neg (by decide), eL7, u2_v, if_neg (by decide), eL5, u2_v, if_neg (by decide), eL2]; exact u2_self _ _ _ _
      have av1 : L16 1043 1 = v4 := by rw [eL16, u2_v, if_neg (by decide), eL11, u2_v, if_neg (by decide), eL7, u2_v, if_neg (by decide), eL5]; exact u2_self _ _ _ _
      have av2 : L16 1043 2 = v6 := by rw [eL16, u2_v, if_neg (by decide), eL11, u2_v, if_neg (by decide), eL7]; exact u2_self _ _ _ _
      have av3 : L16 1043 3 = v10 := by rw [eL16, u2_v, if_neg (by decide), eL11]; exact u2_self _ _ _ _
      have av4 : L16 1043 4 = v15 := by rw [eL16]; exact u2_self _ _ _ _
      have hz0 : (0 : Int32).toNatClampNeg = 0 := rfl
      have loop92 : ∀ (n : Nat) (x3_92 : Int32) (Ia92 : MI) (La92 : ML) (H : Heap) (locs : List Loc) (ls : Array Slot), INV Ia92 → Kp [] [] I Ia92 → (0 ≤ x3_92.toInt ∧ x3_92.toInt ≤ 8) → (∀ j : Nat, j < 5 + (x3_92).toNatClampNeg → La92 1043 j = envV (live I) a0 (I 1064) (a1).toNatClampNeg j) → (8 - x3_92.toInt).toNat < n → Mem D A ad ns Ia92 La92 G H → va_S A s.heap H locs → lv_has ls 4 [(3, .int (x3_92)), (0, .ref (ad (1000))), (1, .int (a0)), (2, .int (a1))] → W p l e ({ frames := 1, cells := 0, slots := 0, locals := 21 } : Room) s m args below meth c H locs 0 0 (MQ below (va_Qv (fun u => ∃ I2 L2, u = (ad, ns, I2, L2, G) ∧ INV I2 ∧ Kp [] [] I I2 ∧ (∀ j : Nat, j < 13 → L2 1043 j = envV (live I) a0 (I 1064) (a1).toNatClampNeg j)) (BM D A) A) args s 0 0 A) (F0 m 92 ls []) := by
        intro n
        induction n with
        | zero =>
          intro x3_92 Ia92 La92 H locs ls hI hK hr3_92 ha92 hmu
          exact absurd hmu (Nat.not_lt_zero _)
        | succ n ih92 =>
          intro x3_92 Ia92 La92 H locs ls hI hK hr3_92 ha92 hmu92 hM hS hl
          have hII : Ia92 = I := funext fun n => funext fun k => hK n k rfl rfl
          refine lv_iload_n hx hb dX10_asks_92 rfl (lv_at hl 0 rfl) ?_
          refine lv_bipush (v := (8)) hx hb dX10_asks_93 (by decide) ?_
          refine lv_icmp_ge (tgt := 134) hx hb dX10_asks_95 (by decide) (fun c17 => ?_) (fun c17 => ?_)
          · have hc17 := c17
            have q17 := q_le hc17
            exact m_vret hx hb hr hlocks hM hS (Nat.le_of_ble_eq_true rfl) (Nat.le_of_ble_eq_true rfl) ⟨_, _, rfl, hI, hK, (fun j hj => ha92 j (by have z := tn (i := x3_92) (by omega); omega))⟩ dX10_asks_134
          · have hc17 := c17
            have q17 := q_nle hc17
            refine lv_aload_n hx hb dX10_asks_98 rfl (lv_at hl 1 rfl) ?_
            refine m_getr (1000) 43 (1043) hx hb hts hown hE oc10 hM hJ.1 rfl (by decide) rfl (hJ.2 43 (by decide)).2 (by decide) tb_1220 dX10_asks_99 ?_
            refine lv_iconst (v := (5)) hx hb dX10_asks_102 (by decide) ?_
            refine lv_iload_n hx hb dX10_asks_103 rfl (lv_at hl 0 rfl) ?_
            refine lv_iadd hx hb dX10_asks_104 ?_
            refine lv_topi (fun v18 ev18 => ?_)
            have tv18 := a_add ev18 (by omega) (by omega)
            refine lv_iload_n hx hb dX10_asks_105 rfl (lv_at hl 0 rfl) ?_
            refine lv_aload_n hx hb dX10_asks_106 rfl (lv_at hl 1 rfl) ?_
            refine m_getr (1000) 1 (1001) hx hb hts hown hE oc10 hM hJ.1 rfl (by decide) rfl (hJ.2 1 (by decide)).2 (by decide) tb_1178 dX10_asks_107 ?_
            refine lv_bipush (v := (9)) hx hb dX10_asks_110 (by decide) ?_
            refine m_iald (1001) hx hb hE hM (hJ.2 1 (by decide)).1 rfl (vp_in_iff.mpr (by decide)) dX10_asks_112 ?_
            rw [show (9 : Int32).toNatClampNeg = 9 from rfl]
            have g19 := hI.get (1001) 9 (lo := 0) (hi := 8) rfl
            refine lv_icmp_ge (tgt := 126) hx hb dX10_asks_113 (by decide) (fun c20 => ?_) (fun c20 => ?_)
            · have hc20 := c20
              have q20 := q_le hc20
              refine lv_lconst (v := 0) hx hb dX10_asks_126 (by decide) ?_
              refine m_last (1043) hx hb hE hM hS (hJ.2 43 (by decide)).1 rfl (vp_in_iff.mpr (by omega)) dX10_asks_127 (fun H locs L21 eL21 hM hS => ?_)
              obtain ⟨v22, ev22⟩ : ∃ z : Int32, z = x3_92 + Int32.ofInt (1) := ⟨_, rfl⟩
              have tv22 := a_inc ev22 (by decide) (by omega) (by omega)
              refine lv_iinc (v := v22) (lv' := [(3, .int (v22)), (0, .ref (ad (1000))), (1, .int (a0)), (2, .int (a1))]) hx hb dX10_asks_128 hl (k := 0) rfl ev22.symm (by decide) rfl (fun ls hl => ?_)
              refine lv_goto (tgt := 92) hx hb dX10_asks_131 (by decide) ?_
              exact ih92 (v22) Ia92 L21 _ _ ls hI hK (by first | omega | decide) (fun j hj => by have zi := tn (i := v18) (by omega); have z3 := tn (i := x3_92) (by omega); have z4 := tn (i := v22) (by omega); by_cases hq : j = (v18).toNatClampNeg; (rw [hq, eL21, u2_self, show (v18).toNatClampNeg = (x3_92).toNatClampNeg + 5 from (by omega)]; exact (by show (0 : Int64) = (I 1064 (x3_92).toNatClampNeg).toInt64; rw [hgz (x3_92).toNatClampNeg (by have g9 := tn (i := Ia92 1001 9) (by omega); rw [← hII]; omega) (by omega)]; rfl)); (rw [eL21, u2_v, if_neg (fun z => hq z.2)]; exact ha92 j (by omega))) (by omega) hM hS (lv_sub hl [0, 1, 2, 3] rfl)
            · have hc20 := c20
              have q20 := q_nle hc20
              refine lv_aload_n hx hb dX10_asks_116 rfl (lv_at hl 1 rfl) ?_
              refine m_getr (1000) 64 (1064) hx hb hts hown hE oc10 hM hJ.1 rfl (by decide) rfl (hJ.2 64 (by decide)).2 (by decide) tb_1241 dX10_asks_117 ?_
              refine lv_iload_n hx hb dX10_asks_120 rfl (lv_at hl 0 rfl) ?_
              refine m_iald (1064) hx hb hE hM (hJ.2 64 (by decide)).1 rfl (vp_in_iff.mpr (by omega)) dX10_asks_121 ?_
              refine lv_i2l hx hb dX10_asks_122 rfl ?_
              refine lv_topl (fun v23 ev23 => ?_)
              have tv23 := q_i2l ev23
              refine lv_goto (tgt := 127) hx hb dX10_asks_123 (by decide) ?_
              refine m_last (1043) hx hb hE hM hS (hJ.2 43 (by decide)).1 rfl (vp_in_iff.mpr (by omega)) dX10_asks_127 (fun H locs L24 eL24 hM hS => ?_)
              obtain ⟨v25, ev25⟩ : ∃ z : Int32, z = x3_92 + Int32.ofInt (1) := ⟨_, rfl⟩
              have tv25 := a_inc ev25 (by decide) (by omega) (by omega)
              refine lv_iinc (v := v25) (lv' := [(3, .int (v25)), (0, .ref (ad (1000))), (1, .int (a0)), (2, .int (a1))]) hx hb dX10_asks_128 hl (k := 0) rfl ev25.symm (by decide) rfl (fun ls hl => ?_)
              refine lv_goto (tgt := 92) hx hb dX10_asks_131 (by decide) ?_
              exact ih92 (v25) Ia92 L24 _ _ ls hI hK (by first | omega | decide) (fun j hj => by have zi := tn (i := v18) (by omega); have z3 := tn (i := x3_92) (by omega); have z4 := tn (i := v25) (by omega); by_cases hq : j = (v18).toNatClampNeg; (rw [hq, eL24, u2_self, show (v18).toNatClampNeg = (x3_92).toNatClampNeg + 5 from (by omega)]; exact (by rw [ev23, hII]; rfl)); (rw [eL24, u2_v, if_neg (fun z => hq z.2)]; exact ha92 j (by omega))) (by omega) hM hS (lv_sub hl [0, 1, 2, 3] rfl)
      exact loop92 (_ + 1) (0) I L16 _ _ ls hI hK (by first | omega | decide) (fun j hj => by rcases (show j = 0 ∨ j = 1 ∨ j = 2 ∨ j = 3 ∨ j = 4 from by omega) with rfl | rfl | rfl | rfl | rfl; exact av0.trans ev1; exact av1.trans ev4; exact av2.trans ev6; exact av3.trans ev10; exact av4.trans ((ev15.trans (by rw [xr14, ← wy_M (I := I) (h := a0)])).trans (if_neg (by rw [wy_M, ← xr12]; omega)).symm)) (Nat.lt_succ_self _) hM hS (lv_sub hl [0, 1, 2, 3] rfl)
    · have hc13 := c13
      have q13 := q_eq hc13
      refine lv_ldc2 (v := (8)) hx hb hown (hts _ tb_1629) dX10_asks_77 ?_
      refine lv_goto (tgt := 89) hx hb dX10_asks_80 (by decide) ?_
      refine m_last (1043) hx hb hE hM hS (hJ.2 43 (by decide)).1 rfl (vp_in_iff.mpr (by decide)) dX10_asks_89 (fun H locs L26 eL26 hM hS => ?_)
      refine lv_iconst (v := (0)) hx hb dX10_asks_90 (by decide) ?_
      refine lv_istore_n (lv' := [(3, .int (0)), (0, .ref (ad (1000))), (1, .int (a0)), (2, .int (a1))]) hx hb dX10_asks_91 rfl hl (by decide) rfl (fun ls hl => ?_)
      have av0 : L26 1043 0 = v1 := by rw [eL26, u2_v, if_neg (by decide), eL11, u2_v, if_neg (by decide), eL7, u2_v, if_neg (by decide), eL5, u2_v, if_neg (by decide), eL2]; exact u2_self _ _ _ _
      have av1 : L26 1043 1 = v4 := by rw [eL26, u2_v, if_neg (by decide), eL11, u2_v, if_neg (by decide), eL7, u2_v, if_neg (by decide), eL5]; exact u2_self _ _ _ _
      have av2 : L26 1043 2 = v6 := by rw [eL26, u2_v, if_neg (by decide), eL11, u2_v, if_neg (by decide), eL7]; exact u2_self _ _ _ _
      have av3 : L26 1043 3 = v10 := by rw [eL26, u2_v, if_neg (by decide), eL11]; exact u2_self _ _ _ _
      have av4 : L26 1043 4 = (8 : Int64) := by rw [eL26]; exact u2_self _ _ _ _
      have hz0 : (0 : Int32).toNatClampNeg = 0 := rfl
      have loop92 : ∀ (n : Nat) (x3_92 : Int32) (Ia92 : MI) (La92 : ML) (H : Heap) (locs : List Loc) (ls : Array Slot), INV Ia92 → Kp [] [] I Ia92 → (0 ≤ x3_92.toInt ∧ x3_92.toInt ≤ 8) → (∀ j : Nat, j < 5 + (x3_92).toNatClampNeg → La92 1043 j = envV (live I) a0 (I 1064) (a1).toNatClampNeg j) → (8 - x3_92.toInt).toNat < n → Mem D A ad ns Ia92 La92 G H → va_S A s.heap H locs → lv_has ls 4 [(3, .int (x3_92)), (0, .ref (ad (1000))), (1, .int (a0)), (2, .int (a1))] → W p l e ({ frames := 1, cells := 0, slots := 0, locals := 21 } : Room) s m args below meth c H locs 0 0 (MQ below (va_Qv (fun u => ∃ I2 L2, u = (ad, ns, I2, L2, G) ∧ INV I2 ∧ Kp [] [] I I2 ∧ (∀ j : Nat, j < 13 → L2 1043 j = envV (live I) a0 (I 1064) (a1).toNatClampNeg j)) (BM D A) A) args s 0 0 A) (F0 m 92 ls []) := by
        intro n
        induction n with
        | zero =>
          intro x3_92 Ia92 La92 H locs ls hI hK hr3_92 ha92 hmu
          exact absurd hmu (Nat.not_lt_zero _)
        | succ n ih92 =>
          intro x3_92 Ia92 La92 H locs ls hI hK hr3_92 ha92 hmu92 hM hS hl
          have hII : Ia92 = I := funext fun n => funext fun k => hK n k rfl rfl
          refine lv_iload_n hx hb dX10_asks_92 rfl (lv_at hl 0 rfl) ?_
          refine lv_bipush (v := (8)) hx hb dX10_asks_93 (by decide) ?_
          refine lv_icmp_ge (tgt := 134) hx hb dX10_asks_95 (by decide) (fun c27 => ?_) (fun c27 => ?_)
          · have hc27 := c27
            have q27 := q_le hc27
            exact m_vret hx hb hr hlocks hM hS (Nat.le_of_ble_eq_true rfl) (Nat.le_of_ble_eq_true rfl) ⟨_, _, rfl, hI, hK, (fun j hj => ha92 j (by have z := tn (i := x3_92) (by omega); omega))⟩ dX10_asks_134
          · have hc27 := c27
            have q27 := q_nle hc27
            refine lv_aload_n hx hb dX10_asks_98 rfl (lv_at hl 1 rfl) ?_
            refine m_getr (1000) 43 (1043) hx hb hts hown hE oc10 hM hJ.1 rfl (by decide) rfl (hJ.2 43 (by decide)).2 (by decide) tb_1220 dX10_asks_99 ?_
            refine lv_iconst (v := (5)) hx hb dX10_asks_102 (by decide) ?_
            refine lv_iload_n hx hb dX10_asks_103 rfl (lv_at hl 0 rfl) ?_
            refine lv_iadd hx hb dX10_asks_104 ?_
            refine lv_topi (fun v28 ev28 => ?_)
            have tv28 := a_add ev28 (by omega) (by omega)
            refine lv_iload_n hx hb dX10_asks_105 rfl (lv_at hl 0 rfl) ?_
            refine lv_aload_n hx hb dX10_asks_106 rfl (lv_at hl 1 rfl) ?_
            refine m_getr (1000) 1 (1001) hx hb hts hown hE oc10 hM hJ.1 rfl (by decide) rfl (hJ.2 1 (by decide)).2 (by decide) tb_1178 dX10_asks_107 ?_
            refine lv_bipush (v := (9)) hx hb dX10_asks_110 (by decide) ?_
            refine m_iald (1001) hx hb hE hM (hJ.2 1 (by decide)).1 rfl (vp_in_iff.mpr (by decide)) dX10_asks_112 ?_
            rw [show (9 : Int32).toNatClampNeg = 9 from rfl]
            have g29 := hI.get (1001) 9 (lo := 0) (hi := 8) rfl
            refine lv_icmp_ge (tgt := 126) hx hb dX10_asks_113 (by decide) (fun c30 => ?_) (fun c30 => ?_)
            · have hc30 := c30
              have q30 := q_le hc30
              refine lv_lconst (v := 0) hx hb dX10_asks_126 (by decide) ?_
              refine m_last (1043) hx hb hE hM hS (hJ.2 43 (by decide)).1 rfl (vp_in_iff.mpr (by omega)) dX10_asks_127 (fun H locs L31 eL31 hM hS => ?_)
              obtain ⟨v32, ev32⟩ : ∃ z : Int32, z = x3_92 + Int32.ofInt (1) := ⟨_, rfl⟩
              have tv32 := a_inc ev32 (by decide) (by omega) (by omega)
              refine lv_iinc (v := v32) (lv' := [(3, .int (v32)), (0, .ref (ad (1000))), (1, .int (a0)), (2, .int (a1))]) hx hb dX10_asks_128 hl (k := 0) rfl ev32.symm (by decide) rfl (fun ls hl => ?_)
              refine lv_goto (tgt := 92) hx hb dX10_asks_131 (by decide) ?_
              exact ih92 (v32) Ia92 L31 _ _ ls hI hK (by first | omega | decide) (fun j hj => by have zi := tn (i := v28) (by omega); have z3 := tn (i := x3_92) (by omega); have z4 := tn (i := v32) (by omega); by_cases hq : j = (v28).toNatClampNeg; (rw [hq, eL31, u2_self, show (v28).toNatClampNeg = (x3_92).toNatClampNeg + 5 from (by omega)]; exact (by show (0 : Int64) = (I 1064 (x3_92).toNatClampNeg).toInt64; rw [hgz (x3_92).toNatClampNeg (by have g9 := tn (i := Ia92 1001 9) (by omega); rw [← hII]; omega) (by omega)]; rfl)); (rw [eL31, u2_v, if_neg (fun z => hq z.2)]; exact ha92 j (by omega))) (by omega) hM hS (lv_sub hl [0, 1, 2, 3] rfl)
            · have hc30 := c30
              have q30 := q_nle hc30
              refine lv_aload_n hx hb dX10_asks_116 rfl (lv_at hl 1 rfl) ?_
              refine m_getr (1000) 64 (1064) hx hb hts hown hE oc10 hM hJ.1 rfl (by decide) rfl (hJ.2 64 (by decide)).2 (by decide) tb_1241 dX10_asks_117 ?_
              refine lv_iload_n hx hb dX10_asks_120 rfl (lv_at hl 0 rfl) ?_
              refine m_iald (1064) hx hb hE hM (hJ.2 64 (by decide)).1 rfl (vp_in_iff.mpr (by omega)) dX10_asks_121 ?_
              refine lv_i2l hx hb dX10_asks_122 rfl ?_
              refine lv_topl (fun v33 ev33 => ?_)
              have tv33 := q_i2l ev33
              refine lv_goto (tgt := 127) hx hb dX10_asks_123 (by decide) ?_
              refine m_last (1043) hx hb hE hM hS (hJ.2 43 (by decide)).1 rfl (vp_in_iff.mpr (by omega)) dX10_asks_127 (fun H locs L34 eL34 hM hS => ?_)
              obtain ⟨v35, ev35⟩ : ∃ z : Int32, z = x3_92 + Int32.ofInt (1) := ⟨_, rfl⟩
              have tv35 := a_inc ev35 (by decide) (by omega) (by omega)
              refine lv_iinc (v := v35) (lv' := [(3, .int (v35)), (0, .ref (ad (1000))), (1, .int (a0)), (2, .int (a1))]) hx hb dX10_asks_128 hl (k := 0) rfl ev35.symm (by decide) rfl (fun ls hl => ?_)
              refine lv_goto (tgt := 92) hx hb dX10_asks_131 (by decide) ?_
              exact ih92 (v35) Ia92 L34 _ _ ls hI hK (by first | omega | decide) (fun j hj => by have zi := tn (i := v28) (by omega); have z3 := tn (i := x3_92) (by omega); have z4 := tn (i := v35) (by omega); by_cases hq : j = (v28).toNatClampNeg; (rw [hq, eL34, u2_self, show (v28).toNatClampNeg = (x3_92).toNatClampNeg + 5 from (by omega)]; exact (by rw [ev33, hII]; rfl)); (rw [eL34, u2_v, if_neg (fun z => hq z.2)]; exact ha92 j (by omega))) (by omega) hM hS (lv_sub hl [0, 1, 2, 3] rfl)
      exact loop92 (_ + 1) (0) I L26 _ _ ls hI hK (by first | omega | decide) (fun j hj => by rcases (show j = 0 ∨ j = 1 ∨ j = 2 ∨ j = 3 ∨ j = 4 from by omega) with rfl | rfl | rfl | rfl | rfl; exact av0.trans ev1; exact av1.trans ev4; exact av2.trans ev6; exact av3.trans ev10; exact av4.trans ((if_pos (by rw [wy_M, ← xr12]; omega)).symm)) (Nat.lt_succ_self _) hM hS (lv_sub hl [0, 1, 2, 3] rfl)
