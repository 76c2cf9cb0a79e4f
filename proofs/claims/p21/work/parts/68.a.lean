def TOPX (I : MI) (r : Int32) : Prop := ((I 1000 32).toInt = 0 ∧ r = -1) ∨ (0 < (I 1000 32).toInt ∧ r = I 1042 ((I 1000 32).toNatClampNeg - 1))
theorem dX10_top_0 : decode cX10_top 0 = .ok (.aload_n 0, 1) := by decide +kernel
theorem dX10_top_1 : decode cX10_top 1 = .ok (.getfield 334, 3) := by decide +kernel
theorem dX10_top_4 : decode cX10_top 4 = .ok (.ifCond .ne 7, 3) := by decide +kernel
theorem dX10_top_7 : decode cX10_top 7 = .ok (.iconst (-1), 1) := by decide +kernel
theorem dX10_top_8 : decode cX10_top 8 = .ok (.goto 14, 3) := by decide +kernel
theorem dX10_top_11 : decode cX10_top 11 = .ok (.aload_n 0, 1) := by decide +kernel
theorem dX10_top_12 : decode cX10_top 12 = .ok (.getfield 108, 3) := by decide +kernel
theorem dX10_top_15 : decode cX10_top 15 = .ok (.aload_n 0, 1) := by decide +kernel
theorem dX10_top_16 : decode cX10_top 16 = .ok (.getfield 334, 3) := by decide +kernel
theorem dX10_top_19 : decode cX10_top 19 = .ok (.iconst 1, 1) := by decide +kernel
theorem dX10_top_20 : decode cX10_top 20 = .ok (.isub, 1) := by decide +kernel
theorem dX10_top_21 : decode cX10_top 21 = .ok (.iaload, 1) := by decide +kernel
theorem dX10_top_22 : decode cX10_top 22 = .ok (.ireturn, 1) := by decide +kernel
theorem ce_X10_top : CeV RX10 yX10_top cX10_top 1 (some .int) 0 := ⟨tb_1600, tp_79, tb_11, tb_1601, rfl, by decide, by decide, by decide +kernel⟩
set_option maxHeartbeats 4000000 in
set_option maxRecDepth 20000 in
theorem V_X10_top (l : Launch) (D : va_G) (A : Nat → Prop) (ad : Nat → Nat) (ns : List Nat) (I : MI) (L : ML) (G : MG) (hJ : SGM ns G) (hI : INV I) : Met l yX10_top (wd yX10_top cX10_top 1 (some .int)) ({ frames := 0, cells := 0, slots := 0, locals := 0 }) (va_Pc [.ref (ad (1000))] (PM D A ad ns I L G)) (va_Qi (fun r u => u = (ad, ns, I, L, G) ∧ (TOPX I r)) (BM D A) A) 0 0 A := by
  refine m_ofW (by decide) (Nat.le_of_ble_eq_true rfl) ?_
  intro p e s m below meth c ls args hC hE hM hA hS hl
  obtain ⟨hx, hb, hml, hown, hts, hr, hlocks, hin⟩ := hC
  have km1 : (-1 : Int32).toInt = -1 := by decide
  have k0 : (0 : Int32).toInt = 0 := by decide
  have k1 : (1 : Int32).toInt = 1 := by decide
  have hl : lv_has ls 1 [(0, .ref (ad (1000)))] := hl
  refine lv_aload_n hx hb dX10_top_0 rfl (lv_at hl 0 rfl) ?_
  refine m_geti (1000) 32 hx hb hts hown hE oc10 hM hJ.1 rfl (by decide) rfl tb_1209 dX10_top_1 ?_
  have g1 := hI.get (1000) 32 (lo := 0) (hi := 402) rfl
  refine lv_if_ne (tgt := 11) hx hb dX10_top_4 (by decide) (fun c2 => ?_) (fun c2 => ?_)
  · have hc2 := c2
    have q2 := q_ne hc2
    refine lv_aload_n hx hb dX10_top_11 rfl (lv_at hl 0 rfl) ?_
    refine m_getr (1000) 42 (1042) hx hb hts hown hE oc10 hM hJ.1 rfl (by decide) rfl (hJ.2 42 (by decide)).2 (by decide) tb_1219 dX10_top_12 ?_
    refine lv_aload_n hx hb dX10_top_15 rfl (lv_at hl 0 rfl) ?_
    refine m_geti (1000) 32 hx hb hts hown hE oc10 hM hJ.1 rfl (by decide) rfl tb_1209 dX10_top_16 ?_
    refine lv_iconst (v := (1)) hx hb dX10_top_19 (by decide) ?_
    refine lv_isub hx hb dX10_top_20 ?_
    refine lv_topi (fun v3 ev3 => ?_)
    have tv3 := a_sub ev3 (by omega) (by omega)
    refine m_iald (1042) hx hb hE hM (hJ.2 42 (by decide)).1 rfl (vp_in_iff.mpr (by omega)) dX10_top_21 ?_
    exact m_iret hx hb hr hlocks hM hS (Nat.le_of_ble_eq_true rfl) (Nat.le_of_ble_eq_true rfl) ⟨rfl, (Or.inr ⟨by omega, congrArg (I 1042) (by have h1 := tn (i := v3) (by omega); have h2 := tn (i := I 1000 32) (by omega); omega)⟩)⟩ dX10_top_22
  · have hc2 := c2
    have q2 := q_eq hc2
    refine lv_iconst (v := (-1)) hx hb dX10_top_7 (by decide) ?_
    refine lv_goto (tgt := 22) hx hb dX10_top_8 (by decide) ?_
    exact m_iret hx hb hr hlocks hM hS (Nat.le_of_ble_eq_true rfl) (Nat.le_of_ble_eq_true rfl) ⟨rfl, (Or.inl ⟨by omega, rfl⟩)⟩ dX10_top_22
theorem dX10_opens_0 : decode cX10_opens 0 = .ok (.iload_n 1, 1) := by decide +kernel
theorem dX10_opens_1 : decode cX10_opens 1 = .ok (.bipush 9, 2) := by decide +kernel
theorem dX10_opens_3 : decode cX10_opens 3 = .ok (.if_icmp .eq 9, 3) := by decide +kernel
theorem dX10_opens_6 : decode cX10_opens 6 = .ok (.iload_n 1, 1) := by decide +kernel
theorem dX10_opens_7 : decode cX10_opens 7 = .ok (.bipush 12, 2) := by decide +kernel
theorem dX10_opens_9 : decode cX10_opens 9 = .ok (.if_icmp .ne 31, 3) := by decide +kernel
theorem dX10_opens_12 : decode cX10_opens 12 = .ok (.aload_n 0, 1) := by decide +kernel
theorem dX10_opens_13 : decode cX10_opens 13 = .ok (.getfield 337, 3) := by decide +kernel
theorem dX10_opens_16 : decode cX10_opens 16 = .ok (.bipush 10, 2) := by decide +kernel
theorem dX10_opens_18 : decode cX10_opens 18 = .ok (.if_icmp .ne 12, 3) := by decide +kernel
theorem dX10_opens_21 : decode cX10_opens 21 = .ok (.aload_n 0, 1) := by decide +kernel
theorem dX10_opens_22 : decode cX10_opens 22 = .ok (.iconst 2, 1) := by decide +kernel
theorem dX10_opens_23 : decode cX10_opens 23 = .ok (.aload_n 0, 1) := by decide +kernel
theorem dX10_opens_24 : decode cX10_opens 24 = .ok (.getfield 267, 3) := by decide +kernel
theorem dX10_opens_27 : decode cX10_opens 27 = .ok (.invokevirtual 303, 3) := by decide +kernel
theorem dX10_opens_30 : decode cX10_opens 30 = .ok (.aload_n 0, 1) := by decide +kernel
theorem dX10_opens_31 : decode cX10_opens 31 = .ok (.dup, 1) := by decide +kernel
theorem dX10_opens_32 : decode cX10_opens 32 = .ok (.getfield 337, 3) := by decide +kernel
theorem dX10_opens_35 : decode cX10_opens 35 = .ok (.iconst 1, 1) := by decide +kernel
theorem dX10_opens_36 : decode cX10_opens 36 = .ok (.iadd, 1) := by decide +kernel
theorem dX10_opens_37 : decode cX10_opens 37 = .ok (.putfield 337, 3) := by decide +kernel
theorem dX10_opens_40 : decode cX10_opens 40 = .ok (.aload_n 0, 1) := by decide +kernel
theorem dX10_opens_41 : decode cX10_opens 41 = .ok (.getfield 108, 3) := by decide +kernel
theorem dX10_opens_44 : decode cX10_opens 44 = .ok (.aload_n 0, 1) := by decide +kernel
theorem dX10_opens_45 : decode cX10_opens 45 = .ok (.getfield 334, 3) := by decide +kernel
theorem dX10_opens_48 : decode cX10_opens 48 = .ok (.iload_n 1, 1) := by decide +kernel
theorem dX10_opens_49 : decode cX10_opens 49 = .ok (.iastore, 1) := by decide +kernel
theorem dX10_opens_50 : decode cX10_opens 50 = .ok (.aload_n 0, 1) := by decide +kernel
theorem dX10_opens_51 : decode cX10_opens 51 = .ok (.dup, 1) := by decide +kernel
theorem dX10_opens_52 : decode cX10_opens 52 = .ok (.getfield 334, 3) := by decide +kernel
theorem dX10_opens_55 : decode cX10_opens 55 = .ok (.iconst 1, 1) := by decide +kernel
theorem dX10_opens_56 : decode cX10_opens 56 = .ok (.iadd, 1) := by decide +kernel
theorem dX10_opens_57 : decode cX10_opens 57 = .ok (.putfield 334, 3) := by decide +kernel
theorem dX10_opens_60 : decode cX10_opens 60 = .ok (.return_, 1) := by decide +kernel
theorem ce_X10_opens : CeV RX10 yX10_opens cX10_opens 2 none 1 := ⟨tb_1588, tp_76, tb_11, tb_1589, rfl, by decide, by decide, by decide +kernel⟩
theorem dX10_answers_0 : decode cX10_answers 0 = .ok (.aload_n 0, 1) := by decide +kernel
theorem dX10_answers_1 : decode cX10_answers 1 = .ok (.invokevirtual 340, 3) := by decide +kernel
theorem dX10_answers_4 : decode cX10_answers 4 = .ok (.iload_n 1, 1) := by decide +kernel
theorem dX10_answers_5 : decode cX10_answers 5 = .ok (.if_icmp .ne 49, 3) := by decide +kernel
theorem dX10_answers_8 : decode cX10_answers 8 = .ok (.aload_n 0, 1) := by decide +kernel
theorem dX10_answers_9 : decode cX10_answers 9 = .ok (.getfield 264, 3) := by decide +kernel
theorem dX10_answers_12 : decode cX10_answers 12 = .ok (.ifCond .ne 42, 3) := by decide +kernel
theorem dX10_answers_15 : decode cX10_answers 15 = .ok (.aload_n 0, 1) := by decide +kernel
theorem dX10_answers_16 : decode cX10_answers 16 = .ok (.iload_n 1, 1) := by decide +kernel
theorem dX10_answers_17 : decode cX10_answers 17 = .ok (.iconst 0, 1) := by decide +kernel
theorem dX10_answers_18 : decode cX10_answers 18 = .ok (.invokevirtual 318, 3) := by decide +kernel
theorem dX10_answers_21 : decode cX10_answers 21 = .ok (.aload_n 0, 1) := by decide +kernel
theorem dX10_answers_22 : decode cX10_answers 22 = .ok (.dup, 1) := by decide +kernel
theorem dX10_answers_23 : decode cX10_answers 23 = .ok (.getfield 334, 3) := by decide +kernel
theorem dX10_answers_26 : decode cX10_answers 26 = .ok (.iconst 1, 1) := by decide +kernel
theorem dX10_answers_27 : decode cX10_answers 27 = .ok (.isub, 1) := by decide +kernel
theorem dX10_answers_28 : decode cX10_answers 28 = .ok (.putfield 334, 3) := by decide +kernel
theorem dX10_answers_31 : decode cX10_answers 31 = .ok (.aload_n 0, 1) := by decide +kernel
theorem dX10_answers_32 : decode cX10_answers 32 = .ok (.dup, 1) := by decide +kernel
theorem dX10_answers_33 : decode cX10_answers 33 = .ok (.getfield 337, 3) := by decide +kernel
theorem dX10_answers_36 : decode cX10_answers 36 = .ok (.iload_n 1, 1) := by decide +kernel
theorem dX10_answers_37 : decode cX10_answers 37 = .ok (.bipush 9, 2) := by decide +kernel
theorem dX10_answers_39 : decode cX10_answers 39 = .ok (.if_icmp .ne 7, 3) := by decide +kernel
theorem dX10_answers_42 : decode cX10_answers 42 = .ok (.iconst 1, 1) := by decide +kernel
theorem dX10_answers_43 : decode cX10_answers 43 = .ok (.goto 4, 3) := by decide +kernel
theorem dX10_answers_46 : decode cX10_answers 46 = .ok (.iconst 0, 1) := by decide +kernel
theorem dX10_answers_47 : decode cX10_answers 47 = .ok (.isub, 1) := by decide +kernel
theorem dX10_answers_48 : decode cX10_answers 48 = .ok (.putfield 337, 3) := by decide +kernel
theorem dX10_answers_51 : decode cX10_answers 51 = .ok (.goto (-51), 3) := by decide +kernel
theorem dX10_answers_54 : decode cX10_answers 54 = .ok (.return_, 1) := by decide +kernel
theorem ce_X10_answers : CeV RX10 yX10_answers cX10_answers 2 none 1 := ⟨tb_1596, tp_78, tb_11, tb_1597, rfl, by decide, by decide, by decide +kernel⟩
