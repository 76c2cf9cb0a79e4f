set_option maxHeartbeats 4000000 in
set_option maxRecDepth 20000 in
theorem V_X10_stepX_l (l : Launch) (D : va_G) (A : Nat → Prop) (ad : Nat → Nat) (ns : List Nat) (I : MI) (L : ML) (G : MG) (a0 : Int32) (hI : INV I) (ha0 : 0 ≤ a0.toInt ∧ a0.toInt ≤ 7) : Met l yX10_stepX (wd yX10_stepX cX10_stepX 1 (some .int)) ({ frames := 0, cells := 0, slots := 0, locals := 0 }) (va_Pc [.int a0] (PM D A ad ns I L G)) (va_Qi (fun r u => u = (ad, ns, I, L, G) ∧ (r = sX a0 ∧ -1 ≤ r.toInt ∧ r.toInt ≤ 1)) (BM D A) A) 0 0 A := by
  refine m_ofW (by decide) (Nat.le_of_ble_eq_true rfl) ?_
  intro p e s m below meth c ls args hC hE hM hA hS hl
  obtain ⟨hx, hb, hml, hown, hts, hr, hlocks, hin⟩ := hC
  have km1 : (-1 : Int32).toInt = -1 := by decide
  have k0 : (0 : Int32).toInt = 0 := by decide
  have k1 : (1 : Int32).toInt = 1 := by decide
  have k3 : (3 : Int32).toInt = 3 := by decide
  have k4 : (4 : Int32).toInt = 4 := by decide
  have k5 : (5 : Int32).toInt = 5 := by decide
  have k7 : (7 : Int32).toInt = 7 := by decide
  have hl : lv_has ls 1 [(0, .int (a0))] := hl
  refine lv_iload_n hx hb dX10_stepX_0 rfl (lv_at hl 0 rfl) ?_
  refine lv_if_eq (tgt := 15) hx hb dX10_stepX_1 (by decide) (fun c1 => ?_) (fun c1 => ?_)
  · have hc1 := c1
    have q1 := q_eq hc1
    refine lv_iconst (v := (1)) hx hb dX10_stepX_15 (by decide) ?_
    refine lv_goto (tgt := 39) hx hb dX10_stepX_16 (by decide) ?_
    exact m_iret hx hb hr hlocks hM hS (Nat.le_of_ble_eq_true rfl) (Nat.le_of_ble_eq_true rfl) ⟨rfl, ⟨sX_of (by omega) (Or.inl ⟨by omega, rfl⟩), by decide, by decide⟩⟩ dX10_stepX_39
  · have hc1 := c1
    have q1 := q_ne hc1
    refine lv_iload_n hx hb dX10_stepX_4 rfl (lv_at hl 0 rfl) ?_
    refine lv_iconst (v := (1)) hx hb dX10_stepX_5 (by decide) ?_
    refine lv_icmp_eq (tgt := 15) hx hb dX10_stepX_6 (by decide) (fun c2 => ?_) (fun c2 => ?_)
    · have hc2 := c2
      have q2 := q_eq hc2
      refine lv_iconst (v := (1)) hx hb dX10_stepX_15 (by decide) ?_
      refine lv_goto (tgt := 39) hx hb dX10_stepX_16 (by decide) ?_
      exact m_iret hx hb hr hlocks hM hS (Nat.le_of_ble_eq_true rfl) (Nat.le_of_ble_eq_true rfl) ⟨rfl, ⟨sX_of (by omega) (Or.inl ⟨by omega, rfl⟩), by decide, by decide⟩⟩ dX10_stepX_39
    · have hc2 := c2
      have q2 := q_ne hc2
      refine lv_iload_n hx hb dX10_stepX_9 rfl (lv_at hl 0 rfl) ?_
      refine lv_bipush (v := (7)) hx hb dX10_stepX_10 (by decide) ?_
      refine lv_icmp_ne (tgt := 19) hx hb dX10_stepX_12 (by decide) (fun c3 => ?_) (fun c3 => ?_)
      · have hc3 := c3
        have q3 := q_ne hc3
        refine lv_iload_n hx hb dX10_stepX_19 rfl (lv_at hl 0 rfl) ?_
        refine lv_iconst (v := (3)) hx hb dX10_stepX_20 (by decide) ?_
        refine lv_icmp_eq (tgt := 34) hx hb dX10_stepX_21 (by decide) (fun c4 => ?_) (fun c4 => ?_)
        · have hc4 := c4
          have q4 := q_eq hc4
          refine lv_iconst (v := (-1)) hx hb dX10_stepX_34 (by decide) ?_
          refine lv_goto (tgt := 39) hx hb dX10_stepX_35 (by decide) ?_
          exact m_iret hx hb hr hlocks hM hS (Nat.le_of_ble_eq_true rfl) (Nat.le_of_ble_eq_true rfl) ⟨rfl, ⟨sX_of (by omega) (Or.inr (Or.inl ⟨by omega, rfl⟩)), by decide, by decide⟩⟩ dX10_stepX_39
        · have hc4 := c4
          have q4 := q_ne hc4
          refine lv_iload_n hx hb dX10_stepX_24 rfl (lv_at hl 0 rfl) ?_
          refine lv_iconst (v := (4)) hx hb dX10_stepX_25 (by decide) ?_
          refine lv_icmp_eq (tgt := 34) hx hb dX10_stepX_26 (by decide) (fun c5 => ?_) (fun c5 => ?_)
          · have hc5 := c5
            have q5 := q_eq hc5
            refine lv_iconst (v := (-1)) hx hb dX10_stepX_34 (by decide) ?_
            refine lv_goto (tgt := 39) hx hb dX10_stepX_35 (by decide) ?_
            exact m_iret hx hb hr hlocks hM hS (Nat.le_of_ble_eq_true rfl) (Nat.le_of_ble_eq_true rfl) ⟨rfl, ⟨sX_of (by omega) (Or.inr (Or.inl ⟨by omega, rfl⟩)), by decide, by decide⟩⟩ dX10_stepX_39
          · have hc5 := c5
            have q5 := q_ne hc5
            refine lv_iload_n hx hb dX10_stepX_29 rfl (lv_at hl 0 rfl) ?_
            refine lv_iconst (v := (5)) hx hb dX10_stepX_30 (by decide) ?_
            refine lv_icmp_ne (tgt := 38) hx hb dX10_stepX_31 (by decide) (fun c6 => ?_) (fun c6 => ?_)
            · have hc6 := c6
              have q6 := q_ne hc6
              refine lv_iconst (v := (0)) hx hb dX10_stepX_38 (by decide) ?_
              exact m_iret hx hb hr hlocks hM hS (Nat.le_of_ble_eq_true rfl) (Nat.le_of_ble_eq_true rfl) ⟨rfl, ⟨sX_of (by omega) (Or.inr (Or.inr ⟨by omega, rfl⟩)), by decide, by decide⟩⟩ dX10_stepX_39
            · have hc6 := c6
              have q6 := q_eq hc6
              refine lv_iconst (v := (-1)) hx hb dX10_stepX_34 (by decide) ?_
              refine lv_goto (tgt := 39) hx hb dX10_stepX_35 (by decide) ?_
              exact m_iret hx hb hr hlocks hM hS (Nat.le_of_ble_eq_true rfl) (Nat.le_of_ble_eq_true rfl) ⟨rfl, ⟨sX_of (by omega) (Or.inr (Or.inl ⟨by omega, rfl⟩)), by decide, by decide⟩⟩ dX10_stepX_39
      · have hc3 := c3
        have q3 := q_eq hc3
        refine lv_iconst (v := (1)) hx hb dX10_stepX_15 (by decide) ?_
        refine lv_goto (tgt := 39) hx hb dX10_stepX_16 (by decide) ?_
        exact m_iret hx hb hr hlocks hM hS (Nat.le_of_ble_eq_true rfl) (Nat.le_of_ble_eq_true rfl) ⟨rfl, ⟨sX_of (by omega) (Or.inl ⟨by omega, rfl⟩), by decide, by decide⟩⟩ dX10_stepX_39
set_option maxHeartbeats 4000000 in
set_option maxRecDepth 20000 in
theorem V_X10_stepY_l (l : Launch) (D : va_G) (A : Nat → Prop) (ad : Nat → Nat) (ns : List Nat) (I : MI) (L : ML) (G : MG) (a0 : Int32) (hI : INV I) (ha0 : 0 ≤ a0.toInt ∧ a0.toInt ≤ 7) : Met l yX10_stepY (wd yX10_stepY cX10_stepY 1 (some .int)) ({ frames := 0, cells := 0, slots := 0, locals := 0 }) (va_Pc [.int a0] (PM D A ad ns I L G)) (va_Qi (fun r u => u = (ad, ns, I, L, G) ∧ (r = sY a0 ∧ -1 ≤ r.toInt ∧ r.toInt ≤ 1)) (BM D A) A) 0 0 A := by
  refine m_ofW (by decide) (Nat.le_of_ble_eq_true rfl) ?_
  intro p e s m below meth c ls args hC hE hM hA hS hl
  obtain ⟨hx, hb, hml, hown, hts, hr, hlocks, hin⟩ := hC
  have km1 : (-1 : Int32).toInt = -1 := by decide
  have k0 : (0 : Int32).toInt = 0 := by decide
  have k1 : (1 : Int32).toInt = 1 := by decide
  have k2 : (2 : Int32).toInt = 2 := by decide
  have k3 : (3 : Int32).toInt = 3 := by decide
  have k5 : (5 : Int32).toInt = 5 := by decide
  have k6 : (6 : Int32).toInt = 6 := by decide
  have k7 : (7 : Int32).toInt = 7 := by decide
  have hl : lv_has ls 1 [(0, .int (a0))] := hl
  refine lv_iload_n hx hb dX10_stepY_0 rfl (lv_at hl 0 rfl) ?_
  refine lv_iconst (v := (1)) hx hb dX10_stepY_1 (by decide) ?_
  refine lv_icmp_eq (tgt := 15) hx hb dX10_stepY_2 (by decide) (fun c1 => ?_) (fun c1 => ?_)
  · have hc1 := c1
    have q1 := q_eq hc1
    refine lv_iconst (v := (1)) hx hb dX10_stepY_15 (by decide) ?_
    refine lv_goto (tgt := 41) hx hb dX10_stepY_16 (by decide) ?_
    exact m_iret hx hb hr hlocks hM hS (Nat.le_of_ble_eq_true rfl) (Nat.le_of_ble_eq_true rfl) ⟨rfl, ⟨sY_of (by omega) (Or.inl ⟨by omega, rfl⟩), by decide, by decide⟩⟩ dX10_stepY_41
  · have hc1 := c1
    have q1 := q_ne hc1
    refine lv_iload_n hx hb dX10_stepY_5 rfl (lv_at hl 0 rfl) ?_
    refine lv_iconst (v := (2)) hx hb dX10_stepY_6 (by decide) ?_
    refine lv_icmp_eq (tgt := 15) hx hb dX10_stepY_7 (by decide) (fun c2 => ?_) (fun c2 => ?_)
    · have hc2 := c2
      have q2 := q_eq hc2
      refine lv_iconst (v := (1)) hx hb dX10_stepY_15 (by decide) ?_
      refine lv_goto (tgt := 41) hx hb dX10_stepY_16 (by decide) ?_
      exact m_iret hx hb hr hlocks hM hS (Nat.le_of_ble_eq_true rfl) (Nat.le_of_ble_eq_true rfl) ⟨rfl, ⟨sY_of (by omega) (Or.inl ⟨by omega, rfl⟩), by decide, by decide⟩⟩ dX10_stepY_41
    · have hc2 := c2
      have q2 := q_ne hc2
      refine lv_iload_n hx hb dX10_stepY_10 rfl (lv_at hl 0 rfl) ?_
      refine lv_iconst (v := (3)) hx hb dX10_stepY_11 (by decide) ?_
      refine lv_icmp_ne (tgt := 19) hx hb dX10_stepY_12 (by decide) (fun c3 => ?_) (fun c3 => ?_)
      · have hc3 := c3
        have q3 := q_ne hc3
        refine lv_iload_n hx hb dX10_stepY_19 rfl (lv_at hl 0 rfl) ?_
        refine lv_iconst (v := (5)) hx hb dX10_stepY_20 (by decide) ?_
        refine lv_icmp_eq (tgt := 36) hx hb dX10_stepY_21 (by decide) (fun c4 => ?_) (fun c4 => ?_)
        · have hc4 := c4
          have q4 := q_eq hc4
          refine lv_iconst (v := (-1)) hx hb dX10_stepY_36 (by decide) ?_
          refine lv_goto (tgt := 41) hx hb dX10_stepY_37 (by decide) ?_
          exact m_iret hx hb hr hlocks hM hS (Nat.le_of_ble_eq_true rfl) (Nat.le_of_ble_eq_true rfl) ⟨rfl, ⟨sY_of (by omega) (Or.inr (Or.inl ⟨by omega, rfl⟩)), by decide, by decide⟩⟩ dX10_stepY_41
        · have hc4 := c4
          have q4 := q_ne hc4
          refine lv_iload_n hx hb dX10_stepY_24 rfl (lv_at hl 0 rfl) ?_
          refine lv_bipush (v := (6)) hx hb dX10_stepY_25 (by decide) ?_
          refine lv_icmp_eq (tgt := 36) hx hb dX10_stepY_27 (by decide) (fun c5 => ?_) (fun c5 => ?_)
          · have hc5 := c5
            have q5 := q_eq hc5
            refine lv_iconst (v := (-1)) hx hb dX10_stepY_36 (by decide) ?_
            refine lv_goto (tgt := 41) hx hb dX10_stepY_37 (by decide) ?_
            exact m_iret hx hb hr hlocks hM hS (Nat.le_of_ble_eq_true rfl) (Nat.le_of_ble_eq_true rfl) ⟨rfl, ⟨sY_of (by omega) (Or.inr (Or.inl ⟨by omega, rfl⟩)), by decide, by decide⟩⟩ dX10_stepY_41
          · have hc5 := c5
            have q5 := q_ne hc5
            refine lv_iload_n hx hb dX10_stepY_30 rfl (lv_at hl 0 rfl) ?_
            refine lv_bipush (v := (7)) hx hb dX10_stepY_31 (by decide) ?_
            refine lv_icmp_ne (tgt := 40) hx hb dX10_stepY_33 (by decide) (fun c6 => ?_) (fun c6 => ?_)
            · have hc6 := c6
              have q6 := q_ne hc6
              refine lv_iconst (v := (0)) hx hb dX10_stepY_40 (by decide) ?_
              exact m_iret hx hb hr hlocks hM hS (Nat.le_of_ble_eq_true rfl) (Nat.le_of_ble_eq_true rfl) ⟨rfl, ⟨sY_of (by omega) (Or.inr (Or.inr ⟨by omega, rfl⟩)), by decide, by decide⟩⟩ dX10_stepY_41
            · have hc6 := c6
              have q6 := q_eq hc6
              refine lv_iconst (v := (-1)) hx hb dX10_stepY_36 (by decide) ?_
              refine lv_goto (tgt := 41) hx hb dX10_stepY_37 (by decide) ?_
              exact m_iret hx hb hr hlocks hM hS (Nat.le_of_ble_eq_true rfl) (Nat.le_of_ble_eq_true rfl) ⟨rfl, ⟨sY_of (by omega) (Or.inr (Or.inl ⟨by omega, rfl⟩)), by decide, by decide⟩⟩ dX10_stepY_41
      · have hc3 := c3
        have q3 := q_eq hc3
        refine lv_iconst (v := (1)) hx hb dX10_stepY_15 (by decide) ?_
        refine lv_goto (tgt := 41) hx hb dX10_stepY_16 (by decide) ?_
        exact m_iret hx hb hr hlocks hM hS (Nat.le_of_ble_eq_true rfl) (Nat.le_of_ble_eq_true rfl) ⟨rfl, ⟨sY_of (by omega) (Or.inl ⟨by omega, rfl⟩), by decide, by decide⟩⟩ dX10_stepY_41
set_option maxHeartbeats 4000000 in
set_option maxRecDepth 20000 in
theorem V_X10_yardOf_l (l : Launch) (D : va_G) (A : Nat → Prop) (ad : Nat → Nat) (ns : List Nat) (I : MI) (L : ML) (G : MG) (a0 : Int32) (a1 : Int32) (hJ : SGM ns G) (hI : INV I) (ha0 : 0 ≤ a0.toInt ∧ a0.toInt ≤ 23) (ha1 : 0 ≤ a1.toInt ∧ a1.toInt ≤ 23) : Met l yX10_yardOf (wd yX10_yardOf cX10_yardOf 4 (some .int)) ({ frames := 1, cells := 0, slots := 0, locals := 25 }) (va_Pc [.ref (ad (1000)), .int a0, .int a1] (PM D A ad ns I L G)) (va_Qi (fun r u => u = (ad, ns, I, L, G) ∧ (r = (twM I).yat (clN a0 a1) ∧ -1 ≤ r.toInt ∧ r.toInt ≤ 7)) (BM D A) A) 0 0 A := by
  refine m_ofW (by decide) (Nat.le_of_ble_eq_true rfl) ?_
  intro p e s m below meth c ls args hC hE hM hA hS hl
  obtain ⟨hx, hb, hml, hown, hts, hr, hlocks, hin⟩ := hC
  have km1 : (-1 : Int32).toInt = -1 := by decide
  have k0 : (0 : Int32).toInt = 0 := by decide
  have k9 : (9 : Int32).toInt = 9 := by decide
  have hl : lv_has ls 4 [(0, .ref (ad (1000))), (1, .int (a0)), (2, .int (a1))] := hl
  refine lv_iconst (v := (0)) hx hb dX10_yardOf_0 (by decide) ?_
  refine lv_istore_n (lv' := [(3, .int (0)), (0, .ref (ad (1000))), (1, .int (a0)), (2, .int (a1))]) hx hb dX10_yardOf_1 rfl hl (by decide) rfl (fun ls hl => ?_)
  have loop2 : ∀ (n : Nat) (x3_2 : Int32) (H : Heap) (locs : List Loc) (ls : Array Slot), (0 ≤ x3_2.toInt ∧ x3_2.toInt ≤ 8) → ((x3_2).toInt ≤ (I 1001 9).toInt) → (yo (live I) (24 * (a1).toNatClampNeg + (a0).toNatClampNeg) (x3_2).toNatClampNeg = -1) → (8 - x3_2.toInt).toNat < n → Mem D A ad ns I L G H → va_S A s.heap H locs → lv_has ls 4 [(3, .int (x3_2)), (0, .ref (ad (1000))), (1, .int (a0)), (2, .int (a1))] → W p l e ({ frames := 1, cells := 0, slots := 0, locals := 25 } : Room) s m args below meth c H locs 0 0 (MQ below (va_Qi (fun r u => u = (ad, ns, I, L, G) ∧ (r = (twM I).yat (clN a0 a1) ∧ -1 ≤ r.toInt ∧ r.toInt ≤ 7)) (BM D A) A) args s 0 0 A) (F0 m 2 ls []) := by
    intro n
    induction n with
    | zero =>
      intro x3_2 H locs ls hr3_2 hle2 hy2 hmu
      exact absurd hmu (Nat.not_lt_zero _)
    | succ n ih2 =>
      intro x3_2 H locs ls hr3_2 hle2 hy2 hmu2 hM hS hl
      refine lv_iload_n hx hb dX10_yardOf_2 rfl (lv_at hl 0 rfl) ?_
      refine lv_aload_n hx hb dX10_yardOf_3 rfl (lv_at hl 1 rfl) ?_
      refine m_getr (1000) 1 (1001) hx hb hts hown hE oc10 hM hJ.1 rfl (by decide) rfl (hJ.2 1 (by decide)).2 (by decide) tb_1178 dX10_yardOf_4 ?_
      refine lv_bipush (v := (9)) hx hb dX10_yardOf_7 (by decide) ?_
      refine m_iald (1001) hx hb hE hM (hJ.2 1 (by decide)).1 rfl (vp_in_iff.mpr (by decide)) dX10_yardOf_9 ?_
      rw [show (9 : Int32).toNatClampNeg = 9 from rfl]
      have g1 := hI.get (1001) 9 (lo := 0) (hi := 8) rfl
      refine lv_icmp_ge (tgt := 65) hx hb dX10_yardOf_10 (by decide) (fun c2 => ?_) (fun c2 => ?_)
      · have hc2 := c2
        have q2 := q_le hc2
        refine lv_iconst (v := (-1)) hx hb dX10_yardOf_65 (by decide) ?_
        have hyo : ((-1 : Int32) : Int32).toInt = yo (live I) (24 * (a1).toNatClampNeg + (a0).toNatClampNeg) (I 1001 9).toNatClampNeg := (by rw [show (I 1001 9).toNatClampNeg = (x3_2).toNatClampNeg from congrArg Int32.toNatClampNeg (Int32.toInt_inj.mp (by omega)), hy2]; decide)
        exact m_iret hx hb hr hlocks hM hS (Nat.le_of_ble_eq_true rfl) (Nat.le_of_ble_eq_true rfl) ⟨rfl, ⟨by show _ = Int32.ofInt (yo (live I) (24 * (a1).toNatClampNeg + (a0).toNatClampNeg) (I 1001 9).toNatClampNeg); rw [← hyo, Int32.ofInt_toInt], by first | omega | decide, by first | omega | decide⟩⟩ dX10_yardOf_66
      · have hc2 := c2
        have q2 := q_nle hc2
        refine lv_iload_n hx hb dX10_yardOf_13 rfl (lv_at hl 2 rfl) ?_
        refine lv_i2l hx hb dX10_yardOf_14 rfl ?_
        refine lv_topl (fun v3 ev3 => ?_)
        have tv3 := q_i2l ev3
        refine lv_aload_n hx hb dX10_yardOf_15 rfl (lv_at hl 1 rfl) ?_
        refine m_getr (1000) 17 (1017) hx hb hts hown hE oc10 hM hJ.1 rfl (by decide) rfl (hJ.2 17 (by decide)).2 (by decide) tb_1194 dX10_yardOf_16 ?_
        refine lv_iload_n hx hb dX10_yardOf_19 rfl (lv_at hl 0 rfl) ?_
        refine m_iald (1017) hx hb hE hM (hJ.2 17 (by decide)).1 rfl (vp_in_iff.mpr (by omega)) dX10_yardOf_20 ?_
        refine lv_i2l hx hb dX10_yardOf_21 rfl ?_
        refine lv_topl (fun v4 ev4 => ?_)
        have tv4 := q_i2l ev4
        refine lv_aload_n hx hb dX10_yardOf_22 rfl (lv_at hl 1 rfl) ?_
        refine m_getr (1000) 19 (1019) hx hb hts hown hE oc10 hM hJ.1 rfl (by decide) rfl (hJ.2 19 (by decide)).2 (by decide) tb_1196 dX10_yardOf_23 ?_
        refine lv_iload_n hx hb dX10_yardOf_26 rfl (lv_at hl 0 rfl) ?_
        refine m_iald (1019) hx hb hE hM (hJ.2 19 (by decide)).1 rfl (vp_in_iff.mpr (by omega)) dX10_yardOf_27 ?_
        refine lv_i2l hx hb dX10_yardOf_28 rfl ?_
        refine lv_topl (fun v5 ev5 => ?_)
        have tv5 := q_i2l ev5
        refine m_calli (m_runS (As := [.long (v3), .long (v4), .long (v5)]) (rest := []) hx hb hml hown hts hE hM hS hA ce_X10_in tb_1425 (V_X10_in l D A ad ns I L G (v3) (v4) (v5) hI) rfl rfl ⟨Nat.le_of_ble_eq_true rfl, Nat.le_of_ble_eq_true rfl⟩  rfl hl.1 rfl (Nat.le_of_ble_eq_true rfl) dX10_yardOf_29 ⟨Nat.le_of_ble_eq_true rfl, Nat.le_of_ble_eq_true rfl⟩) hS (fun r6 u H locs hw hM hS => ?_)
        obtain ⟨rfl, xr6⟩ := hw
        have hM : Mem D A ad ns I L G H := hM
        have yr6 := bo01 xr6
        refine lv_if_eq (tgt := 59) hx hb dX10_yardOf_32 (by decide) (fun c7 => ?_) (fun c7 => ?_)
        · have hc7 := c7
          have q7 := xr6.f hc7
          obtain ⟨v8, ev8⟩ : ∃ z : Int32, z = x3_2 + Int32.ofInt (1) := ⟨_, rfl⟩
          have tv8 := a_inc ev8 (by decide) (by omega) (by omega)
          refine lv_iinc (v := v8) (lv' := [(3, .int (v8)), (0, .ref (ad (1000))), (1, .int (a0)), (2, .int (a1))]) hx hb dX10_yardOf_59 hl (k := 0) rfl ev8.symm (by decide) rfl (fun ls hl => ?_)
          refine lv_goto (tgt := 2) hx hb dX10_yardOf_62 (by decide) ?_
          exact ih2 (v8) _ _ ls (by first | omega | decide) (by omega) (by have z1 := tn (i := x3_2) (by omega); have z2 := tn (i := v8) (by omega); have z3 := tn (i := a0) (by omega); have z4 := tn (i := a1) (by omega); rw [show (v8).toNatClampNeg = (x3_2).toNatClampNeg + 1 from by omega]; exact yo_miss hy2 (fun hh => by have h1 : (I 1017 (x3_2).toNatClampNeg).toInt ≤ _ := hh.1.1; have h2 : _ ≤ (I 1019 (x3_2).toNatClampNeg).toInt := hh.1.2; have h3 : (I 1018 (x3_2).toNatClampNeg).toInt ≤ _ := hh.2.1; have h4 : _ ≤ (I 1020 (x3_2).toNatClampNeg).toInt := hh.2.2; omega)) (by omega) hM hS (lv_sub hl [0, 1, 2, 3] rfl)
        · have hc7 := c7
          have q7 := xr6.t hc7
          refine lv_iload_n hx hb dX10_yardOf_35 rfl (lv_at hl 3 rfl) ?_
          refine lv_i2l hx hb dX10_yardOf_36 rfl ?_
          refine lv_topl (fun v9 ev9 => ?_)
          have tv9 := q_i2l ev9
          refine lv_aload_n hx hb dX10_yardOf_37 rfl (lv_at hl 1 rfl) ?_
          refine m_getr (1000) 18 (1018) hx hb hts hown hE oc10 hM hJ.1 rfl (by decide) rfl (hJ.2 18 (by decide)).2 (by decide) tb_1195 dX10_yardOf_38 ?_
          refine lv_iload_n hx hb dX10_yardOf_41 rfl (lv_at hl 0 rfl) ?_
          refine m_iald (1018) hx hb hE hM (hJ.2 18 (by decide)).1 rfl (vp_in_iff.mpr (by omega)) dX10_yardOf_42 ?_
          refine lv_i2l hx hb dX10_yardOf_43 rfl ?_
          refine lv_topl (fun v10 ev10 => ?_)
          have tv10 := q_i2l ev10
          refine lv_aload_n hx hb dX10_yardOf_44 rfl (lv_at hl 1 rfl) ?_
          refine m_getr (1000) 20 (1020) hx hb hts hown hE oc10 hM hJ.1 rfl (by decide) rfl (hJ.2 20 (by decide)).2 (by decide) tb_1197 dX10_yardOf_45 ?_
          refine lv_iload_n hx hb dX10_yardOf_48 rfl (lv_at hl 0 rfl) ?_
          refine m_iald (1020) hx hb hE hM (hJ.2 20 (by decide)).1 rfl (vp_in_iff.mpr (by omega)) dX10_yardOf_49 ?_
          refine lv_i2l hx hb dX10_yardOf_50 rfl ?_
          refine lv_topl (fun v11 ev11 => ?_)
          have tv11 := q_i2l ev11
          refine m_calli (m_runS (As := [.long (v9), .long (v10), .long (v11)]) (rest := []) hx hb hml hown hts hE hM hS hA ce_X10_in tb_1425 (V_X10_in l D A ad ns I L G (v9) (v10) (v11) hI) rfl rfl ⟨Nat.le_of_ble_eq_true rfl, Nat.le_of_ble_eq_true rfl⟩  rfl hl.1 rfl (Nat.le_of_ble_eq_true rfl) dX10_yardOf_51 ⟨Nat.le_of_ble_eq_true rfl, Nat.le_of_ble_eq_true rfl⟩) hS (fun r12 u H locs hw hM hS => ?_)
          obtain ⟨rfl, xr12⟩ := hw
          have hM : Mem D A ad ns I L G H := hM
          have yr12 := bo01 xr12
          refine lv_if_eq (tgt := 59) hx hb dX10_yardOf_54 (by decide) (fun c13 => ?_) (fun c13 => ?_)
          · have hc13 := c13
            have q13 := xr12.f hc13
            obtain ⟨v14, ev14⟩ : ∃ z : Int32, z = x3_2 + Int32.ofInt (1) := ⟨_, rfl⟩
            have tv14 := a_inc ev14 (by decide) (by omega) (by omega)
            refine lv_iinc (v := v14) (lv' := [(3, .int (v14)), (0, .ref (ad (1000))), (1, .int (a0)), (2, .int (a1))]) hx hb dX10_yardOf_59 hl (k := 0) rfl ev14.symm (by decide) rfl (fun ls hl => ?_)
            refine lv_goto (tgt := 2) hx hb dX10_yardOf_62 (by decide) ?_
            exact ih2 (v14) _ _ ls (by first | omega | decide) (by omega) (by have z1 := tn (i := x3_2) (by omega); have z2 := tn (i := v14) (by omega); have z3 := tn (i := a0) (by omega); have z4 := tn (i := a1) (by omega); rw [show (v14).toNatClampNeg = (x3_2).toNatClampNeg + 1 from by omega]; exact yo_miss hy2 (fun hh => by have h1 : (I 1017 (x3_2).toNatClampNeg).toInt ≤ _ := hh.1.1; have h2 : _ ≤ (I 1019 (x3_2).toNatClampNeg).toInt := hh.1.2; have h3 : (I 1018 (x3_2).toNatClampNeg).toInt ≤ _ := hh.2.1; have h4 : _ ≤ (I 1020 (x3_2).toNatClampNeg).toInt := hh.2.2; omega)) (by omega) hM hS (lv_sub hl [0, 1, 2, 3] rfl)
          · have hc13 := c13
            have q13 := xr12.t hc13
            refine lv_iload_n hx hb dX10_yardOf_57 rfl (lv_at hl 0 rfl) ?_
            have hyo : (x3_2 : Int32).toInt = yo (live I) (24 * (a1).toNatClampNeg + (a0).toNatClampNeg) (I 1001 9).toNatClampNeg := (by have z1 := tn (i := x3_2) (by omega); have z2 := tn (i := I 1001 9) (by omega); have z3 := tn (i := a0) (by omega); have z4 := tn (i := a1) (by omega); have hh := yo_hit hy2 (show yin (live I) (x3_2).toNatClampNeg (24 * (a1).toNatClampNeg + (a0).toNatClampNeg) from ⟨⟨show (I 1017 (x3_2).toNatClampNeg).toInt ≤ _ from by omega, show _ ≤ (I 1019 (x3_2).toNatClampNeg).toInt from by omega⟩, show (I 1018 (x3_2).toNatClampNeg).toInt ≤ _ from by omega, show _ ≤ (I 1020 (x3_2).toNatClampNeg).toInt from by omega⟩); rw [yo_stay (k := (x3_2).toNatClampNeg + 1) (by omega) _ (by omega), hh]; omega)
            exact m_iret hx hb hr hlocks hM hS (Nat.le_of_ble_eq_true rfl) (Nat.le_of_ble_eq_true rfl) ⟨rfl, ⟨by show _ = Int32.ofInt (yo (live I) (24 * (a1).toNatClampNeg + (a0).toNatClampNeg) (I 1001 9).toNatClampNeg); rw [← hyo, Int32.ofInt_toInt], by first | omega | decide, by first | omega | decide⟩⟩ dX10_yardOf_58
  exact loop2 (_ + 1) (0) _ _ ls (by first | omega | decide) (by have := hI.get 1001 9 (lo := 0) (hi := 8) rfl; omega) rfl (Nat.lt_succ_self _) hM hS (lv_sub hl [0, 1, 2, 3] rfl)
set_option maxHeartbeats 4000000 in
set_option maxRecDepth 20000 in
theorem V_X10_waitsFor_l (l : Launch) (D : va_G) (A : Nat → Prop) (ad : Nat → Nat) (ns : List Nat) (I : MI) (L : ML) (G : MG) (a0 : Int32) (a1 : Int32) (a2 : Int32) (a3 : Int32) (hJ : SGM ns G) (hI : INV I) (ha2 : 0 ≤ a2.toInt ∧ a2.toInt ≤ 7) (ha3 : 0 ≤ a3.toInt ∧ a3.toInt ≤ 99999) : Met l yX10_waitsFor (wd yX10_waitsFor cX10_waitsFor 6 none) ({ frames := 0, cells := 0, slots := 0, locals := 0 }) (va_Pc [.ref (ad (1000)), .int a0, .int a1, .int a2, .int a3] (PM D A ad ns I L G)) (va_Qv (fun u => ∃ I2 L2, u = (ad, ns, I2, L2, G) ∧ INV I2 ∧ Kp [(1045, 1049)] [(1000, 52), (1000, 54), (1000, 56)] I I2 ∧ ((I2 1000 52).toInt ≤ (I 1000 52).toInt + 1 ∧ WTM (a0, a1, a2, a3) I I2)) (BM D A) A) 0 0 A := by
  refine m_ofW (by decide) (Nat.le_of_ble_eq_true rfl) ?_
  intro p e s m below meth c ls args hC hE hM hA hS hl
  obtain ⟨hx, hb, hml, hown, hts, hr, hlocks, hin⟩ := hC
  have k0 : (0 : Int32).toInt = 0 := by decide
  have k1 : (1 : Int32).toInt = 1 := by decide
  have k60 : (60 : Int32).toInt = 60 := by decide
  have hK : Kp [(1045, 1049)] [(1000, 52), (1000, 54), (1000, 56)] I I := Kp.rf
  have hl : lv_has ls 6 [(0, .ref (ad (1000))), (1, .int (a0)), (2, .int (a1)), (3, .int (a2)), (4, .int (a3))] := hl
  refine lv_aload_n hx hb dX10_waitsFor_0 rfl (lv_at hl 0 rfl) ?_
  refine m_geti (1000) 52 hx hb hts hown hE oc10 hM hJ.1 rfl (by decide) rfl tb_1229 dX10_waitsFor_1 ?_
  have g1 := hI.get (1000) 52 (lo := 0) (hi := 60) rfl
  refine lv_bipush (v := (60)) hx hb dX10_waitsFor_4 (by decide) ?_
  refine lv_icmp_ne (tgt := 21) hx hb dX10_waitsFor_6 (by decide) (fun c2 => ?_) (fun c2 => ?_)
  · have hc2 := c2
    have q2 := q_ne hc2
    refine lv_aload_n hx hb dX10_waitsFor_21 rfl (lv_at hl 0 rfl) ?_
    refine m_geti (1000) 51 hx hb hts hown hE oc10 hM hJ.1 rfl (by decide) rfl tb_1228 dX10_waitsFor_22 ?_
    have g3 := hI.get (1000) 51 (lo := 0) (hi := 59) rfl
    refine lv_aload_n hx hb dX10_waitsFor_25 rfl (lv_at hl 0 rfl) ?_
    refine m_geti (1000) 52 hx hb hts hown hE oc10 hM hJ.1 rfl (by decide) rfl tb_1229 dX10_waitsFor_26 ?_
    refine lv_iadd hx hb dX10_waitsFor_29 ?_
    refine lv_topi (fun v4 ev4 => ?_)
    have tv4 := a_add ev4 (by omega) (by omega)
    refine lv_bipush (v := (60)) hx hb dX10_waitsFor_30 (by decide) ?_
    refine lv_irem hx hb dX10_waitsFor_32 (by decide) ?_
    refine lv_topi (fun v5 ev5 => ?_)
    have tv5 := a_rem (c := 60) ev5 (by decide) (by decide) (by omega)
    refine lv_istore (lv' := [(5, .int (v5)), (0, .ref (ad (1000))), (1, .int (a0)), (2, .int (a1)), (3, .int (a2)), (4, .int (a3))]) hx hb dX10_waitsFor_33 hl (by decide) rfl (fun ls hl => ?_)
    refine lv_aload_n hx hb dX10_waitsFor_35 rfl (lv_at hl 1 rfl) ?_
    refine m_getr (1000) 45 (1045) hx hb hts hown hE oc10 hM hJ.1 rfl (by decide) rfl (hJ.2 45 (by decide)).2 (by decide) tb_1222 dX10_waitsFor_36 ?_
    refine lv_iload hx hb dX10_waitsFor_39 (lv_at hl 0 rfl) ?_
    refine lv_iload_n hx hb dX10_waitsFor_41 rfl (lv_at hl 2 rfl) ?_
    refine m_iast (1045) hx hb hE hM hS (hJ.2 45 (by decide)).1 rfl (vp_in_iff.mpr (by omega)) dX10_waitsFor_42 (fun H locs I6 eI6 hM hS => ?_)
    subst eI6
    have hI := hI.putF (n := 1045) (k := ((v5).toNatClampNeg)) (v := a0) rfl
    have hK := hK.put (n := 1045) (k := ((v5).toNatClampNeg)) (v := a0) (by first | rfl | simp [inR])
    refine lv_aload_n hx hb dX10_waitsFor_43 rfl (lv_at hl 1 rfl) ?_
    refine m_getr (1000) 46 (1046) hx hb hts hown hE oc10 hM hJ.1 rfl (by decide) rfl (hJ.2 46 (by decide)).2 (by decide) tb_1223 dX10_waitsFor_44 ?_
    refine lv_iload hx hb dX10_waitsFor_47 (lv_at hl 0 rfl) ?_
    refine lv_iload_n hx hb dX10_waitsFor_49 rfl (lv_at hl 3 rfl) ?_
    refine m_iast (1046) hx hb hE hM hS (hJ.2 46 (by decide)).1 rfl (vp_in_iff.mpr (by omega)) dX10_waitsFor_50 (fun H locs I7 eI7 hM hS => ?_)
    subst eI7
    have hI := hI.putF (n := 1046) (k := ((v5).toNatClampNeg)) (v := a1) rfl
    have hK := hK.put (n := 1046) (k := ((v5).toNatClampNeg)) (v := a1) (by first | rfl | simp [inR])
    refine lv_aload_n hx hb dX10_waitsFor_51 rfl (lv_at hl 1 rfl) ?_
    refine m_getr (1000) 47 (1047) hx hb hts hown hE oc10 hM hJ.1 rfl (by decide) rfl (hJ.2 47 (by decide)).2 (by decide) tb_1224 dX10_waitsFor_52 ?_
    refine lv_iload hx hb dX10_waitsFor_55 (lv_at hl 0 rfl) ?_
    refine lv_iload_n hx hb dX10_waitsFor_57 rfl (lv_at hl 4 rfl) ?_
    refine m_iast (1047) hx hb hE hM hS (hJ.2 47 (by decide)).1 rfl (vp_in_iff.mpr (by omega)) dX10_waitsFor_58 (fun H locs I8 eI8 hM hS => ?_)
    subst eI8
    have hI := hI.putF (n := 1047) (k := ((v5).toNatClampNeg)) (v := a2) rfl
    have hK := hK.put (n := 1047) (k := ((v5).toNatClampNeg)) (v := a2) (by first | rfl | simp [inR])
    refine lv_aload_n hx hb dX10_waitsFor_59 rfl (lv_at hl 1 rfl) ?_
    refine m_getr (1000) 48 (1048) hx hb hts hown hE oc10 hM hJ.1 rfl (by decide) rfl (hJ.2 48 (by decide)).2 (by decide) tb_1225 dX10_waitsFor_60 ?_
    refine lv_iload hx hb dX10_waitsFor_63 (lv_at hl 0 rfl) ?_
    refine lv_iload hx hb dX10_waitsFor_65 (lv_at hl 5 rfl) ?_
    refine m_iast (1048) hx hb hE hM hS (hJ.2 48 (by decide)).1 rfl (vp_in_iff.mpr (by omega)) dX10_waitsFor_67 (fun H locs I9 eI9 hM hS => ?_)
    subst eI9
    have hI := hI.putF (n := 1048) (k := ((v5).toNatClampNeg)) (v := a3) rfl
    have hK := hK.put (n := 1048) (k := ((v5).toNatClampNeg)) (v := a3) (by first | rfl | simp [inR])
    refine lv_aload_n hx hb dX10_waitsFor_68 rfl (lv_at hl 1 rfl) ?_
    refine lv_dup hx hb dX10_waitsFor_69 rfl ?_
    refine m_geti (1000) 52 hx hb hts hown hE oc10 hM hJ.1 rfl (by decide) rfl tb_1229 dX10_waitsFor_70 ?_
    have z10 : (u2 (u2 (u2 (u2 I (1045) ((v5).toNatClampNeg) (a0)) (1046) ((v5).toNatClampNeg) (a1)) (1047) ((v5).toNatClampNeg) (a2)) (1048) ((v5).toNatClampNeg) (a3)) (1000) 52 = I (1000) 52 := (show (u2 (u2 (u2 (u2 I (1045) ((v5).toNatClampNeg) (a0)) (1046) ((v5).toNatClampNeg) (a1)) (1047) ((v5).toNatClampNeg) (a2)) (1048) ((v5).toNatClampNeg) (a3)) (1000) 52 = I (1000) 52 from by simp [u2_v])
    rw [z10]
    refine lv_iconst (v := (1)) hx hb dX10_waitsFor_73 (by decide) ?_
    refine lv_iadd hx hb dX10_waitsFor_74 ?_
    refine lv_topi (fun v11 ev11 => ?_)
    have tv11 := a_add ev11 (by omega) (by omega)
    refine m_puti (1000) 52 hx hb hts hown hE oc10 hM hS hJ.1 rfl (by decide) rfl rfl rfl rfl tb_1229 dX10_waitsFor_75 (fun H locs I12 eI12 hM hS => ?_)
    subst eI12
    have hI := hI.put (n := 1000) (k := 52) (v := v11) (lo := 0) (hi := 60) rfl (by first | omega | decide)
    have hK := hK.put (n := 1000) (k := 52) (v := v11) (by first | rfl | simp [inR])
    refine lv_aload_n hx hb dX10_waitsFor_78 rfl (lv_at hl 1 rfl) ?_
    refine lv_dup hx hb dX10_waitsFor_79 rfl ?_
    refine m_geti (1000) 56 hx hb hts hown hE oc10 hM hJ.1 rfl (by decide) rfl tb_1233 dX10_waitsFor_80 ?_
    have z13 : (u2 (u2 (u2 (u2 (u2 I (1045) ((v5).toNatClampNeg) (a0)) (1046) ((v5).toNatClampNeg) (a1)) (1047) ((v5).toNatClampNeg) (a2)) (1048) ((v5).toNatClampNeg) (a3)) (1000) 52 (v11)) (1000) 56 = I (1000) 56 := (show (u2 (u2 (u2 (u2 (u2 I (1045) ((v5).toNatClampNeg) (a0)) (1046) ((v5).toNatClampNeg) (a1)) (1047) ((v5).toNatClampNeg) (a2)) (1048) ((v5).toNatClampNeg) (a3)) (1000) 52 (v11)) (1000) 56 = I (1000) 56 from by simp [u2_v])
    rw [z13]
    refine lv_iconst (v := (1)) hx hb dX10_waitsFor_83 (by decide) ?_
    refine lv_iadd hx hb dX10_waitsFor_84 ?_
    refine lv_topi (fun v14 ev14 => ?_)
    refine m_puti (1000) 56 hx hb hts hown hE oc10 hM hS hJ.1 rfl (by decide) rfl rfl rfl rfl tb_1233 dX10_waitsFor_85 (fun H locs I15 eI15 hM hS => ?_)
    subst eI15
    have hI := hI.putF (n := 1000) (k := 56) (v := v14) rfl
    have hK := hK.put (n := 1000) (k := 56) (v := v14) (by first | rfl | simp [inR])
    exact m_vret hx hb hr hlocks hM hS (Nat.le_of_ble_eq_true rfl) (Nat.le_of_ble_eq_true rfl) ⟨_, _, rfl, hI, hK, ⟨(by have := congrArg Int32.toInt ((show (u2 (u2 (u2 (u2 (u2 (u2 I (1045) ((v5).toNatClampNeg) (a0)) (1046) ((v5).toNatClampNeg) (a1)) (1047) ((v5).toNatClampNeg) (a2)) (1048) ((v5).toNatClampNeg) (a3)) (1000) 52 (v11)) (1000) 56 (v14)) (1000) 52 = v11 from by simp [u2_v])); omega), WTM.add (by omega) (by omega) (by omega) (by omega) ev11 ev14 (by omega) (by omega)⟩⟩ dX10_waitsFor_88
  · have hc2 := c2
    have q2 := q_eq hc2
    refine lv_aload_n hx hb dX10_waitsFor_9 rfl (lv_at hl 0 rfl) ?_
    refine lv_dup hx hb dX10_waitsFor_10 rfl ?_
    refine m_geti (1000) 54 hx hb hts hown hE oc10 hM hJ.1 rfl (by decide) rfl tb_1231 dX10_waitsFor_11 ?_
    refine lv_iload hx hb dX10_waitsFor_14 (lv_at hl 4 rfl) ?_
    refine lv_iadd hx hb dX10_waitsFor_16 ?_
    refine lv_topi (fun v16 ev16 => ?_)
    refine m_puti (1000) 54 hx hb hts hown hE oc10 hM hS hJ.1 rfl (by decide) rfl rfl rfl rfl tb_1231 dX10_waitsFor_17 (fun H locs I17 eI17 hM hS => ?_)
    subst eI17
    have hI := hI.putF (n := 1000) (k := 54) (v := v16) rfl
    have hK := hK.put (n := 1000) (k := 54) (v := v16) (by first | rfl | simp [inR])
    exact m_vret hx hb hr hlocks hM hS (Nat.le_of_ble_eq_true rfl) (Nat.le_of_ble_eq_true rfl) ⟨_, _, rfl, hI, hK, ⟨(by have := congrArg Int32.toInt ((show (u2 I (1000) 54 (v16)) (1000) 52 = I (1000) 52 from by simp [u2_v])); omega), by subst ev16; exact WTM.full (by omega)⟩⟩ dX10_waitsFor_20
set_option maxHeartbeats 4000000 in
set_option maxRecDepth 20000 in
theorem V_X10_told_l (l : Launch) (D : va_G) (A : Nat → Prop) (ad : Nat → Nat) (ns : List Nat) (I : MI) (L : ML) (G : MG) (a0 : Int32) (a1 : Int32) (hJ : SGM ns G) (hI : INV I) (hsk : (I 1000 59).toInt = 0) (ha0 : 0 ≤ a0.toInt ∧ a0.toInt ≤ 23) : Met l yX10_told (wd yX10_told cX10_told 3 (some .int)) ({ frames := 0, cells := 0, slots := 0, locals := 0 }) (va_Pc [.ref (ad (1000)), .int a0, .int a1] (PM D A ad ns I L G)) (va_Qi (fun r u => u = (ad, ns, I, L, G) ∧ (r = a1)) (BM D A) A) 0 0 A := by
  refine m_ofW (by decide) (Nat.le_of_ble_eq_true rfl) ?_
  intro p e s m below meth c ls args hC hE hM hA hS hl
  obtain ⟨hx, hb, hml, hown, hts, hr, hlocks, hin⟩ := hC
  have k0 : (0 : Int32).toInt = 0 := by decide
  have hl : lv_has ls 3 [(0, .ref (ad (1000))), (1, .int (a0)), (2, .int (a1))] := hl
  refine lv_aload_n hx hb dX10_told_0 rfl (lv_at hl 0 rfl) ?_
  refine m_geti (1000) 59 hx hb hts hown hE oc10 hM hJ.1 rfl (by decide) rfl tb_1236 dX10_told_1 ?_
  have g1 := hI.get (1000) 59 (lo := 0) (hi := 1) rfl
  refine lv_if_eq (tgt := 16) hx hb dX10_told_4 (by decide) (fun c2 => ?_) (fun c2 => ?_)
  · have hc2 := c2
    have q2 := q_eq hc2
    refine lv_iload_n hx hb dX10_told_16 rfl (lv_at hl 2 rfl) ?_
    exact m_iret hx hb hr hlocks hM hS (Nat.le_of_ble_eq_true rfl) (Nat.le_of_ble_eq_true rfl) ⟨rfl, rfl⟩ dX10_told_17
  · exfalso; have := q_ne c2; omega
