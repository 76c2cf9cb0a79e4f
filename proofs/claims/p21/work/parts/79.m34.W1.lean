def jt (c : Int) (a b : Int64) : Prop := if c = -19 then a.toInt < b.toInt else if c = -20 then a.toInt ≤ b.toInt else if c = -21 then a.toInt = b.toInt else if c = -22 then b.toInt ≤ a.toInt else if c = -23 then b.toInt < a.toInt else if c = -24 then (a.toInt ≠ 0 ∧ b.toInt ≠ 0) else (a.toInt ≠ 0 ∨ b.toInt ≠ 0)
theorem l0_iff {a : Int64} : a ≠ 0 ↔ a.toInt ≠ 0 := ⟨fun h z => h (Int64.toInt_inj.mp z), fun h z => h (by rw [z]; rfl)⟩
theorem jt_jn {c : Int} {a b : Int64} (h : c ≤ -19) : (jt c a b → jn c a b = 1) ∧ (¬ jt c a b → jn c a b = 0) := by
  unfold jt jn lb
  simp only [if_neg (show ¬ c = -15 by omega), if_neg (show ¬ c = -16 by omega), if_neg (show ¬ c = -17 by omega), if_neg (show ¬ c = -18 by omega)]
  simp only [l0_iff]
  constructor
  · intro z
    (repeat' split at z) <;> (repeat' split) <;> first | rfl | (exfalso; omega)
  · intro z
    (repeat' split at z) <;> (repeat' split) <;> first | rfl | (exfalso; omega)
set_option maxHeartbeats 4000000 in
set_option maxRecDepth 20000 in
theorem V_X2_joinTruth_v (l : Launch) (D : va_G) (A : Nat → Prop) (ad : Nat → Nat) (ns : List Nat) (I : MI) (L : ML) (G : MG) (a0 : Int32) (a1 : Int64) (a2 : Int64) (hI : INV I) (ha0 : -25 ≤ a0.toInt ∧ a0.toInt ≤ -19) : Met l yX2_joinTruth (wd yX2_joinTruth cX2_joinTruth 5 (some .boolean)) ({ frames := 0, cells := 0, slots := 0, locals := 0 }) (va_Pc [.int a0, .long a1, .long a2] (PM D A ad ns I L G)) (va_Qi (fun r u => u = (ad, ns, I, L, G) ∧ (Bo r (jt a0.toInt a1 a2))) (BM D A) A) 0 0 A := by
  refine m_ofW (by decide) (Nat.le_of_ble_eq_true rfl) ?_
  intro p e s m below meth c ls args hC hE hM hA hS hl
  obtain ⟨hx, hb, hml, hown, hts, hr, hlocks, hin⟩ := hC
  have k0 : (0 : Int32).toInt = 0 := by decide
  have k1 : (1 : Int32).toInt = 1 := by decide
  have kl0 : (0 : Int64).toInt = 0 := by decide
  have kl0 : (0 : Int64).toInt = 0 := rfl
  have hl : lv_has ls 5 [(0, .int (a0)), (1, .long (a1)), (3, .long (a2))] := hl
  refine lv_iload_n hx hb dX2_joinTruth_0 rfl (lv_at hl 0 rfl) ?_
  by_cases c1 : (a0).toInt < -24 ∨ -19 < (a0).toInt
  · refine lv_tableOut (tgt := 118) hx hb dX2_joinTruth_1 c1 (by decide) ?_
    refine lv_lload_n hx hb dX2_joinTruth_118 rfl (lv_at hl 1 rfl) ?_
    refine lv_lconst (v := 0) hx hb dX2_joinTruth_119 (by decide) ?_
    refine W.lcmp hx hb dX2_joinTruth_120 ?_
    refine lv_if_ne (tgt := 130) hx hb dX2_joinTruth_121 (by decide) (fun c2 => ?_) (fun c2 => ?_)
    · have hc2 := c2
      have q2 := l_ne hc2
      refine lv_iconst (v := (1)) hx hb dX2_joinTruth_130 (by decide) ?_
      refine lv_goto (tgt := 135) hx hb dX2_joinTruth_131 (by decide) ?_
      exact m_zret hx hb hr rfl hlocks hM hS (Nat.le_of_ble_eq_true rfl) (Nat.le_of_ble_eq_true rfl) ⟨rfl, (by unfold jt; (repeat' split) <;> first | exact Bo.y (by omega) | (exfalso; omega))⟩ dX2_joinTruth_135
    · have hc2 := c2
      have q2 := l_eq hc2
      refine lv_lload_n hx hb dX2_joinTruth_124 rfl (lv_at hl 2 rfl) ?_
      refine lv_lconst (v := 0) hx hb dX2_joinTruth_125 (by decide) ?_
      refine W.lcmp hx hb dX2_joinTruth_126 ?_
      refine lv_if_eq (tgt := 134) hx hb dX2_joinTruth_127 (by decide) (fun c3 => ?_) (fun c3 => ?_)
      · have hc3 := c3
        have q3 := l_eq hc3
        refine lv_iconst (v := (0)) hx hb dX2_joinTruth_134 (by decide) ?_
        exact m_zret hx hb hr rfl hlocks hM hS (Nat.le_of_ble_eq_true rfl) (Nat.le_of_ble_eq_true rfl) ⟨rfl, (by unfold jt; (repeat' split) <;> first | exact Bo.n (by omega) | (exfalso; omega))⟩ dX2_joinTruth_135
      · have hc3 := c3
        have q3 := l_ne hc3
        refine lv_iconst (v := (1)) hx hb dX2_joinTruth_130 (by decide) ?_
        refine lv_goto (tgt := 135) hx hb dX2_joinTruth_131 (by decide) ?_
        exact m_zret hx hb hr rfl hlocks hM hS (Nat.le_of_ble_eq_true rfl) (Nat.le_of_ble_eq_true rfl) ⟨rfl, (by unfold jt; (repeat' split) <;> first | exact Bo.y (by omega) | (exfalso; omega))⟩ dX2_joinTruth_135
  · have qc1 : (a0).toInt = -24 ∨ (a0).toInt = -23 ∨ (a0).toInt = -22 ∨ (a0).toInt = -21 ∨ (a0).toInt = -20 ∨ (a0).toInt = -19 := by omega
    rcases qc1 with qc1 | qc1 | qc1 | qc1 | qc1 | qc1
    · refine lv_tableIn (off := 99) (tgt := 100) hx hb dX2_joinTruth_1 (by omega) (by omega) (by rw [qc1]; rfl) (by decide) ?_
      refine lv_lload_n hx hb dX2_joinTruth_100 rfl (lv_at hl 1 rfl) ?_
      refine lv_lconst (v := 0) hx hb dX2_joinTruth_101 (by decide) ?_
      refine W.lcmp hx hb dX2_joinTruth_102 ?_
      refine lv_if_eq (tgt := 116) hx hb dX2_joinTruth_103 (by decide) (fun c4 => ?_) (fun c4 => ?_)
      · have hc4 := c4
        have q4 := l_eq hc4
        refine lv_iconst (v := (0)) hx hb dX2_joinTruth_116 (by decide) ?_
        exact m_zret hx hb hr rfl hlocks hM hS (Nat.le_of_ble_eq_true rfl) (Nat.le_of_ble_eq_true rfl) ⟨rfl, (by rw [qc1]; unfold jt; (repeat' split) <;> first | exact Bo.n (by omega) | (exfalso; omega))⟩ dX2_joinTruth_117
      · have hc4 := c4
        have q4 := l_ne hc4
        refine lv_lload_n hx hb dX2_joinTruth_106 rfl (lv_at hl 2 rfl) ?_
        refine lv_lconst (v := 0) hx hb dX2_joinTruth_107 (by decide) ?_
        refine W.lcmp hx hb dX2_joinTruth_108 ?_
        refine lv_if_eq (tgt := 116) hx hb dX2_joinTruth_109 (by decide) (fun c5 => ?_) (fun c5 => ?_)
        · have hc5 := c5
          have q5 := l_eq hc5
          refine lv_iconst (v := (0)) hx hb dX2_joinTruth_116 (by decide) ?_
          exact m_zret hx hb hr rfl hlocks hM hS (Nat.le_of_ble_eq_true rfl) (Nat.le_of_ble_eq_true rfl) ⟨rfl, (by rw [qc1]; unfold jt; (repeat' split) <;> first | exact Bo.n (by omega) | (exfalso; omega))⟩ dX2_joinTruth_117
        · have hc5 := c5
          have q5 := l_ne hc5
          refine lv_iconst (v := (1)) hx hb dX2_joinTruth_112 (by decide) ?_
          refine lv_goto (tgt := 117) hx hb dX2_joinTruth_113 (by decide) ?_
          exact m_zret hx hb hr rfl hlocks hM hS (Nat.le_of_ble_eq_true rfl) (Nat.le_of_ble_eq_true rfl) ⟨rfl, (by rw [qc1]; unfold jt; (repeat' split) <;> first | exact Bo.y (by omega) | (exfalso; omega))⟩ dX2_joinTruth_117
    · refine lv_tableIn (off := 87) (tgt := 88) hx hb dX2_joinTruth_1 (by omega) (by omega) (by rw [qc1]; rfl) (by decide) ?_
      refine lv_lload_n hx hb dX2_joinTruth_88 rfl (lv_at hl 1 rfl) ?_
      refine lv_lload_n hx hb dX2_joinTruth_89 rfl (lv_at hl 2 rfl) ?_
      refine W.lcmp hx hb dX2_joinTruth_90 ?_
      refine lv_if_le (tgt := 98) hx hb dX2_joinTruth_91 (by decide) (fun c6 => ?_) (fun c6 => ?_)
      · have hc6 := c6
        have q6 := l_le hc6
        refine lv_iconst (v := (0)) hx hb dX2_joinTruth_98 (by decide) ?_
        exact m_zret hx hb hr rfl hlocks hM hS (Nat.le_of_ble_eq_true rfl) (Nat.le_of_ble_eq_true rfl) ⟨rfl, (by rw [qc1]; unfold jt; (repeat' split) <;> first | exact Bo.n (by omega) | (exfalso; omega))⟩ dX2_joinTruth_99
      · have hc6 := c6
        have q6 := l_nle hc6
        refine lv_iconst (v := (1)) hx hb dX2_joinTruth_94 (by decide) ?_
        refine lv_goto (tgt := 99) hx hb dX2_joinTruth_95 (by decide) ?_
        exact m_zret hx hb hr rfl hlocks hM hS (Nat.le_of_ble_eq_true rfl) (Nat.le_of_ble_eq_true rfl) ⟨rfl, (by rw [qc1]; unfold jt; (repeat' split) <;> first | exact Bo.y (by omega) | (exfalso; omega))⟩ dX2_joinTruth_99
    · refine lv_tableIn (off := 75) (tgt := 76) hx hb dX2_joinTruth_1 (by omega) (by omega) (by rw [qc1]; rfl) (by decide) ?_
      refine lv_lload_n hx hb dX2_joinTruth_76 rfl (lv_at hl 1 rfl) ?_
      refine lv_lload_n hx hb dX2_joinTruth_77 rfl (lv_at hl 2 rfl) ?_
      refine W.lcmp hx hb dX2_joinTruth_78 ?_
      refine lv_if_lt (tgt := 86) hx hb dX2_joinTruth_79 (by decide) (fun c7 => ?_) (fun c7 => ?_)
      · have hc7 := c7
        have q7 := l_lt hc7
        refine lv_iconst (v := (0)) hx hb dX2_joinTruth_86 (by decide) ?_
        exact m_zret hx hb hr rfl hlocks hM hS (Nat.le_of_ble_eq_true rfl) (Nat.le_of_ble_eq_true rfl) ⟨rfl, (by rw [qc1]; unfold jt; (repeat' split) <;> first | exact Bo.n (by omega) | (exfalso; omega))⟩ dX2_joinTruth_87
      · have hc7 := c7
        have q7 := l_nlt hc7
        refine lv_iconst (v := (1)) hx hb dX2_joinTruth_82 (by decide) ?_
        refine lv_goto (tgt := 87) hx hb dX2_joinTruth_83 (by decide) ?_
        exact m_zret hx hb hr rfl hlocks hM hS (Nat.le_of_ble_eq_true rfl) (Nat.le_of_ble_eq_true rfl) ⟨rfl, (by rw [qc1]; unfold jt; (repeat' split) <;> first | exact Bo.y (by omega) | (exfalso; omega))⟩ dX2_joinTruth_87
    · refine lv_tableIn (off := 63) (tgt := 64) hx hb dX2_joinTruth_1 (by omega) (by omega) (by rw [qc1]; rfl) (by decide) ?_
      refine lv_lload_n hx hb dX2_joinTruth_64 rfl (lv_at hl 1 rfl) ?_
      refine lv_lload_n hx hb dX2_joinTruth_65 rfl (lv_at hl 2 rfl) ?_
      refine W.lcmp hx hb dX2_joinTruth_66 ?_
      refine lv_if_ne (tgt := 74) hx hb dX2_joinTruth_67 (by decide) (fun c8 => ?_) (fun c8 => ?_)
      · have hc8 := c8
        have q8 := l_ne hc8
        refine lv_iconst (v := (0)) hx hb dX2_joinTruth_74 (by decide) ?_
        exact m_zret hx hb hr rfl hlocks hM hS (Nat.le_of_ble_eq_true rfl) (Nat.le_of_ble_eq_true rfl) ⟨rfl, (by rw [qc1]; unfold jt; (repeat' split) <;> first | exact Bo.n (by omega) | (exfalso; omega))⟩ dX2_joinTruth_75
      · have hc8 := c8
        have q8 := l_eq hc8
        refine lv_iconst (v := (1)) hx hb dX2_joinTruth_70 (by decide) ?_
        refine lv_goto (tgt := 75) hx hb dX2_joinTruth_71 (by decide) ?_
        exact m_zret hx hb hr rfl hlocks hM hS (Nat.le_of_ble_eq_true rfl) (Nat.le_of_ble_eq_true rfl) ⟨rfl, (by rw [qc1]; unfold jt; (repeat' split) <;> first | exact Bo.y (by omega) | (exfalso; omega))⟩ dX2_joinTruth_75
    · refine lv_tableIn (off := 51) (tgt := 52) hx hb dX2_joinTruth_1 (by omega) (by omega) (by rw [qc1]; rfl) (by decide) ?_
      refine lv_lload_n hx hb dX2_joinTruth_52 rfl (lv_at hl 1 rfl) ?_
      refine lv_lload_n hx hb dX2_joinTruth_53 rfl (lv_at hl 2 rfl) ?_
      refine W.lcmp hx hb dX2_joinTruth_54 ?_
      refine lv_if_gt (tgt := 62) hx hb dX2_joinTruth_55 (by decide) (fun c9 => ?_) (fun c9 => ?_)
      · have hc9 := c9
        have q9 := l_gt hc9
        refine lv_iconst (v := (0)) hx hb dX2_joinTruth_62 (by decide) ?_
        exact m_zret hx hb hr rfl hlocks hM hS (Nat.le_of_ble_eq_true rfl) (Nat.le_of_ble_eq_true rfl) ⟨rfl, (by rw [qc1]; unfold jt; (repeat' split) <;> first | exact Bo.n (by omega) | (exfalso; omega))⟩ dX2_joinTruth_63
      · have hc9 := c9
        have q9 := l_ngt hc9
        refine lv_iconst (v := (1)) hx hb dX2_joinTruth_58 (by decide) ?_
        refine lv_goto (tgt := 63) hx hb dX2_joinTruth_59 (by decide) ?_
        exact m_zret hx hb hr rfl hlocks hM hS (Nat.le_of_ble_eq_true rfl) (Nat.le_of_ble_eq_true rfl) ⟨rfl, (by rw [qc1]; unfold jt; (repeat' split) <;> first | exact Bo.y (by omega) | (exfalso; omega))⟩ dX2_joinTruth_63
    · refine lv_tableIn (off := 39) (tgt := 40) hx hb dX2_joinTruth_1 (by omega) (by omega) (by rw [qc1]; rfl) (by decide) ?_
      refine lv_lload_n hx hb dX2_joinTruth_40 rfl (lv_at hl 1 rfl) ?_
      refine lv_lload_n hx hb dX2_joinTruth_41 rfl (lv_at hl 2 rfl) ?_
      refine W.lcmp hx hb dX2_joinTruth_42 ?_
      refine lv_if_ge (tgt := 50) hx hb dX2_joinTruth_43 (by decide) (fun c10 => ?_) (fun c10 => ?_)
      · have hc10 := c10
        have q10 := l_ge hc10
        refine lv_iconst (v := (0)) hx hb dX2_joinTruth_50 (by decide) ?_
        exact m_zret hx hb hr rfl hlocks hM hS (Nat.le_of_ble_eq_true rfl) (Nat.le_of_ble_eq_true rfl) ⟨rfl, (by rw [qc1]; unfold jt; (repeat' split) <;> first | exact Bo.n (by omega) | (exfalso; omega))⟩ dX2_joinTruth_51
      · have hc10 := c10
        have q10 := l_nge hc10
        refine lv_iconst (v := (1)) hx hb dX2_joinTruth_46 (by decide) ?_
        refine lv_goto (tgt := 51) hx hb dX2_joinTruth_47 (by decide) ?_
        exact m_zret hx hb hr rfl hlocks hM hS (Nat.le_of_ble_eq_true rfl) (Nat.le_of_ble_eq_true rfl) ⟨rfl, (by rw [qc1]; unfold jt; (repeat' split) <;> first | exact Bo.y (by omega) | (exfalso; omega))⟩ dX2_joinTruth_51
set_option maxHeartbeats 4000000 in
set_option maxRecDepth 20000 in
theorem V_X2_join_v (l : Launch) (D : va_G) (A : Nat → Prop) (ad : Nat → Nat) (ns : List Nat) (I : MI) (L : ML) (G : MG) (a0 : Int32) (a1 : Int64) (a2 : Int64) (hI : INV I) (ha0 : -25 ≤ a0.toInt ∧ a0.toInt ≤ -15) : Met l yX2_join (wd yX2_join cX2_join 5 (some .long)) ({ frames := 1, cells := 0, slots := 0, locals := 24 }) (va_Pc [.int a0, .long a1, .long a2] (PM D A ad ns I L G)) (va_Ql (fun r u => u = (ad, ns, I, L, G) ∧ (r = jn a0.toInt a1 a2)) (BM D A) A) 0 0 A := by
  refine m_ofW (by decide) (Nat.le_of_ble_eq_true rfl) ?_
  intro p e s m below meth c ls args hC hE hM hA hS hl
  obtain ⟨hx, hb, hml, hown, hts, hr, hlocks, hin⟩ := hC
  have k0 : (0 : Int32).toInt = 0 := by decide
  have kl0 : (0 : Int64).toInt = 0 := by decide
  have kl1 : (1 : Int64).toInt = 1 := by decide
  have kl0 : (0 : Int64).toInt = 0 := rfl
  have hl : lv_has ls 5 [(0, .int (a0)), (1, .long (a1)), (3, .long (a2))] := hl
  refine lv_iload_n hx hb dX2_join_0 rfl (lv_at hl 0 rfl) ?_
  by_cases c1 : (a0).toInt < -18 ∨ -15 < (a0).toInt
  · refine lv_tableOut (tgt := 58) hx hb dX2_join_1 c1 (by decide) ?_
    refine lv_iload_n hx hb dX2_join_58 rfl (lv_at hl 0 rfl) ?_
    refine lv_lload_n hx hb dX2_join_59 rfl (lv_at hl 1 rfl) ?_
    refine lv_lload_n hx hb dX2_join_60 rfl (lv_at hl 2 rfl) ?_
    refine m_calli (m_runS (As := [.int (a0), .long (a1), .long (a2)]) (rest := []) hx hb hml hown hts hE hM hS hA ce_X2_joinTruth tb_784 (V_X2_joinTruth_v l D A ad ns I L G (a0) (a1) (a2) hI (by first | omega | decide)) rfl rfl ⟨Nat.le_of_ble_eq_true rfl, Nat.le_of_ble_eq_true rfl⟩  rfl hl.1 rfl (Nat.le_of_ble_eq_true rfl) dX2_join_61 ⟨Nat.le_of_ble_eq_true rfl, Nat.le_of_ble_eq_true rfl⟩) hS (fun r2 u H locs hw hM hS => ?_)
    obtain ⟨rfl, xr2⟩ := hw
    have hM : Mem D A ad ns I L G H := hM
    have yr2 := bo01 xr2
    refine lv_if_eq (tgt := 71) hx hb dX2_join_64 (by decide) (fun c3 => ?_) (fun c3 => ?_)
    · have hc3 := c3
      have q3 := xr2.f hc3
      refine lv_lconst (v := 0) hx hb dX2_join_71 (by decide) ?_
      exact m_lret hx hb hr hlocks hM hS (Nat.le_of_ble_eq_true rfl) (Nat.le_of_ble_eq_true rfl) ⟨rfl, ((jt_jn (by omega)).2 q3).symm⟩ dX2_join_72
    · have hc3 := c3
      have q3 := xr2.t hc3
      refine lv_lconst (v := 1) hx hb dX2_join_67 (by decide) ?_
      refine lv_goto (tgt := 72) hx hb dX2_join_68 (by decide) ?_
      exact m_lret hx hb hr hlocks hM hS (Nat.le_of_ble_eq_true rfl) (Nat.le_of_ble_eq_true rfl) ⟨rfl, ((jt_jn (by omega)).1 q3).symm⟩ dX2_join_72
  · have qc1 : (a0).toInt = -18 ∨ (a0).toInt = -17 ∨ (a0).toInt = -16 ∨ (a0).toInt = -15 := by omega
    rcases qc1 with qc1 | qc1 | qc1 | qc1
    · refine lv_tableIn (off := 43) (tgt := 44) hx hb dX2_join_1 (by omega) (by omega) (by rw [qc1]; rfl) (by decide) ?_
      refine lv_lload_n hx hb dX2_join_44 rfl (lv_at hl 2 rfl) ?_
      refine lv_lconst (v := 0) hx hb dX2_join_45 (by decide) ?_
      refine W.lcmp hx hb dX2_join_46 ?_
      refine lv_if_ne (tgt := 54) hx hb dX2_join_47 (by decide) (fun c4 => ?_) (fun c4 => ?_)
      · have hc4 := c4
        have q4 := l_ne hc4
        refine lv_lload_n hx hb dX2_join_54 rfl (lv_at hl 1 rfl) ?_
        refine lv_lload_n hx hb dX2_join_55 rfl (lv_at hl 2 rfl) ?_
        refine lv_ldiv hx hb dX2_join_56 (lz_ne (by assumption)) ?_
        refine lv_topl (fun v5 ev5 => ?_)
        exact m_lret hx hb hr hlocks hM hS (Nat.le_of_ble_eq_true rfl) (Nat.le_of_ble_eq_true rfl) ⟨rfl, (by have hb0 : ¬ a2 = 0 := l0_iff.mpr (by omega); unfold jn; rw [if_neg (by omega), if_neg (by omega), if_neg (by omega), if_pos (by omega), if_neg hb0]; exact ev5)⟩ dX2_join_57
      · have hc4 := c4
        have q4 := l_eq hc4
        refine lv_lconst (v := 0) hx hb dX2_join_50 (by decide) ?_
        refine lv_goto (tgt := 57) hx hb dX2_join_51 (by decide) ?_
        exact m_lret hx hb hr hlocks hM hS (Nat.le_of_ble_eq_true rfl) (Nat.le_of_ble_eq_true rfl) ⟨rfl, (by have hb0 : a2 = 0 := Int64.toInt_inj.mp (by omega); unfold jn; rw [if_neg (by omega), if_neg (by omega), if_neg (by omega), if_pos (by omega), if_pos hb0])⟩ dX2_join_57
    · refine lv_tableIn (off := 39) (tgt := 40) hx hb dX2_join_1 (by omega) (by omega) (by rw [qc1]; rfl) (by decide) ?_
      refine lv_lload_n hx hb dX2_join_40 rfl (lv_at hl 1 rfl) ?_
      refine lv_lload_n hx hb dX2_join_41 rfl (lv_at hl 2 rfl) ?_
      refine lv_lmul hx hb dX2_join_42 ?_
      refine lv_topl (fun v6 ev6 => ?_)
      exact m_lret hx hb hr hlocks hM hS (Nat.le_of_ble_eq_true rfl) (Nat.le_of_ble_eq_true rfl) ⟨rfl, (by rw [qc1]; first | exact ev6 | (unfold jn; (repeat' split) <;> first | exact ev6 | (exfalso; omega)))⟩ dX2_join_43
    · refine lv_tableIn (off := 35) (tgt := 36) hx hb dX2_join_1 (by omega) (by omega) (by rw [qc1]; rfl) (by decide) ?_
      refine lv_lload_n hx hb dX2_join_36 rfl (lv_at hl 1 rfl) ?_
      refine lv_lload_n hx hb dX2_join_37 rfl (lv_at hl 2 rfl) ?_
      refine lv_lsub hx hb dX2_join_38 ?_
      refine lv_topl (fun v7 ev7 => ?_)
      exact m_lret hx hb hr hlocks hM hS (Nat.le_of_ble_eq_true rfl) (Nat.le_of_ble_eq_true rfl) ⟨rfl, (by rw [qc1]; first | exact ev7 | (unfold jn; (repeat' split) <;> first | exact ev7 | (exfalso; omega)))⟩ dX2_join_39
    · refine lv_tableIn (off := 31) (tgt := 32) hx hb dX2_join_1 (by omega) (by omega) (by rw [qc1]; rfl) (by decide) ?_
      refine lv_lload_n hx hb dX2_join_32 rfl (lv_at hl 1 rfl) ?_
      refine lv_lload_n hx hb dX2_join_33 rfl (lv_at hl 2 rfl) ?_
      refine lv_ladd hx hb dX2_join_34 ?_
      refine lv_topl (fun v8 ev8 => ?_)
      exact m_lret hx hb hr hlocks hM hS (Nat.le_of_ble_eq_true rfl) (Nat.le_of_ble_eq_true rfl) ⟨rfl, (by rw [qc1]; first | exact ev8 | (unfold jn; (repeat' split) <;> first | exact ev8 | (exfalso; omega)))⟩ dX2_join_35
