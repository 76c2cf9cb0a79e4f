theorem dX8_isLit_0 : decode cX8_isLit 0 = .ok (.aload_n 0, 1) := by decide +kernel
theorem dX8_isLit_1 : decode cX8_isLit 1 = .ok (.getfield 36, 3) := by decide +kernel
theorem dX8_isLit_4 : decode cX8_isLit 4 = .ok (.ifCond .le 35, 3) := by decide +kernel
theorem dX8_isLit_7 : decode cX8_isLit 7 = .ok (.iload_n 1, 1) := by decide +kernel
theorem dX8_isLit_8 : decode cX8_isLit 8 = .ok (.ifCond .lt 31, 3) := by decide +kernel
theorem dX8_isLit_11 : decode cX8_isLit 11 = .ok (.iload_n 1, 1) := by decide +kernel
theorem dX8_isLit_12 : decode cX8_isLit 12 = .ok (.bipush 24, 2) := by decide +kernel
theorem dX8_isLit_14 : decode cX8_isLit 14 = .ok (.if_icmp .ge 25, 3) := by decide +kernel
theorem dX8_isLit_17 : decode cX8_isLit 17 = .ok (.aload_n 0, 1) := by decide +kernel
theorem dX8_isLit_18 : decode cX8_isLit 18 = .ok (.getfield 24, 3) := by decide +kernel
theorem dX8_isLit_21 : decode cX8_isLit 21 = .ok (.aload_n 0, 1) := by decide +kernel
theorem dX8_isLit_22 : decode cX8_isLit 22 = .ok (.getfield 52, 3) := by decide +kernel
theorem dX8_isLit_25 : decode cX8_isLit 25 = .ok (.bipush 24, 2) := by decide +kernel
theorem dX8_isLit_27 : decode cX8_isLit 27 = .ok (.imul, 1) := by decide +kernel
theorem dX8_isLit_28 : decode cX8_isLit 28 = .ok (.iload_n 1, 1) := by decide +kernel
theorem dX8_isLit_29 : decode cX8_isLit 29 = .ok (.iadd, 1) := by decide +kernel
theorem dX8_isLit_30 : decode cX8_isLit 30 = .ok (.iaload, 1) := by decide +kernel
theorem dX8_isLit_31 : decode cX8_isLit 31 = .ok (.iconst (-1), 1) := by decide +kernel
theorem dX8_isLit_32 : decode cX8_isLit 32 = .ok (.if_icmp .eq 7, 3) := by decide +kernel
theorem dX8_isLit_35 : decode cX8_isLit 35 = .ok (.iconst 1, 1) := by decide +kernel
theorem dX8_isLit_36 : decode cX8_isLit 36 = .ok (.goto 4, 3) := by decide +kernel
theorem dX8_isLit_39 : decode cX8_isLit 39 = .ok (.iconst 0, 1) := by decide +kernel
theorem dX8_isLit_40 : decode cX8_isLit 40 = .ok (.ireturn, 1) := by decide +kernel
theorem ce_X8_isLit : CeV RX8 yX8_isLit cX8_isLit 2 (some .boolean) 1 := ⟨tb_768, tb_769, tb_2, tb_770, rfl, by decide, by decide, by decide +kernel⟩
set_option maxHeartbeats 4000000 in
set_option maxRecDepth 20000 in
theorem C_X8_isLit (l : Launch) (D : va_G) (A : Nat → Prop) (ad : Nat → Nat) (ns : List Nat) (I : MI) (L : ML) (G : MG) (b : Nat) (h : Int32) (hT : TOK ns G b) (hm : 0 < (I b 0).toInt → 0 ≤ (I b 5).toInt ∧ (I b 5).toInt < 12) : Met l yX8_isLit (wd yX8_isLit cX8_isLit 2 (some .boolean)) ({ frames := 0, cells := 0, slots := 0, locals := 0 }) (va_Pc [.ref (ad b), .int h] (PM D A ad ns I L G)) (va_Qi (fun r u => u = (ad, ns, I, L, G) ∧ Bo r (0 < (I b 0).toInt ∧ 0 ≤ h.toInt ∧ h.toInt < 24 ∧ (I (b + 5) (I b 5 * 24 + h).toNatClampNeg).toInt ≠ -1)) (BM D A) A) 0 0 A := by
  refine m_ofW (by decide) (Nat.le_of_ble_eq_true rfl) ?_
  intro p e s m below meth c ls args hC hE hM hA hS hl
  obtain ⟨hx, hb, hml, hown, hts, hr, hlocks, hin⟩ := hC
  have km1 : (-1 : Int32).toInt = -1 := by decide
  have k0 : (0 : Int32).toInt = 0 := by decide
  have k1 : (1 : Int32).toInt = 1 := by decide
  have k24 : (24 : Int32).toInt = 24 := by decide
  have hl : lv_has ls 2 [(0, .ref (ad (b))), (1, .int (h))] := hl
  refine lv_aload_n hx hb dX8_isLit_0 rfl (lv_at hl 0 rfl) ?_
  refine m_geti (b) 0 hx hb hts hown hE oc8 hM hT.l (kT _ hT.1).1 (by decide) rfl tb_34 dX8_isLit_1 ?_
  refine lv_if_le (tgt := 39) hx hb dX8_isLit_4 (by decide) (fun c1 => ?_) (fun c1 => ?_)
  · have hc1 := c1
    have q1 := q_le hc1
    refine lv_iconst (v := (0)) hx hb dX8_isLit_39 (by decide) ?_
    exact m_zret hx hb hr rfl hlocks hM hS (Nat.le_of_ble_eq_true rfl) (Nat.le_of_ble_eq_true rfl) ⟨rfl, by (try subst ev5 ev4); exact Bo.n (by omega)⟩ dX8_isLit_40
  · have hc1 := c1
    have q1 := q_nle hc1
    refine lv_iload_n hx hb dX8_isLit_7 rfl (lv_at hl 1 rfl) ?_
    refine lv_if_lt (tgt := 39) hx hb dX8_isLit_8 (by decide) (fun c2 => ?_) (fun c2 => ?_)
    · have hc2 := c2
      have q2 := q_lt hc2
      refine lv_iconst (v := (0)) hx hb dX8_isLit_39 (by decide) ?_
      exact m_zret hx hb hr rfl hlocks hM hS (Nat.le_of_ble_eq_true rfl) (Nat.le_of_ble_eq_true rfl) ⟨rfl, by (try subst ev5 ev4); exact Bo.n (by omega)⟩ dX8_isLit_40
    · have hc2 := c2
      have q2 := q_nlt hc2
      refine lv_iload_n hx hb dX8_isLit_11 rfl (lv_at hl 1 rfl) ?_
      refine lv_bipush (v := (24)) hx hb dX8_isLit_12 (by decide) ?_
      refine lv_icmp_ge (tgt := 39) hx hb dX8_isLit_14 (by decide) (fun c3 => ?_) (fun c3 => ?_)
      · have hc3 := c3
        have q3 := q_le hc3
        refine lv_iconst (v := (0)) hx hb dX8_isLit_39 (by decide) ?_
        exact m_zret hx hb hr rfl hlocks hM hS (Nat.le_of_ble_eq_true rfl) (Nat.le_of_ble_eq_true rfl) ⟨rfl, by (try subst ev5 ev4); exact Bo.n (by omega)⟩ dX8_isLit_40
      · have hc3 := c3
        have q3 := q_nle hc3
        refine lv_aload_n hx hb dX8_isLit_17 rfl (lv_at hl 0 rfl) ?_
        refine m_getr (b) 14 (b + 5) hx hb hts hown hE oc8 hM hT.l (kT _ hT.1).1 (by decide) rfl (hT.2.2 4 (by decide)) (by omega) tb_78 dX8_isLit_18 ?_
        refine lv_aload_n hx hb dX8_isLit_21 rfl (lv_at hl 0 rfl) ?_
        refine m_geti (b) 5 hx hb hts hown hE oc8 hM hT.l (kT _ hT.1).1 (by decide) rfl tb_51 dX8_isLit_22 ?_
        refine lv_bipush (v := (24)) hx hb dX8_isLit_25 (by decide) ?_
        refine lv_imul hx hb dX8_isLit_27 ?_
        refine lv_topi (fun v4 ev4 => ?_)
        have tv4 := a_mulR (c := 24) ev4 (by decide) (by omega) (by omega)
        refine lv_iload_n hx hb dX8_isLit_28 rfl (lv_at hl 1 rfl) ?_
        refine lv_iadd hx hb dX8_isLit_29 ?_
        refine lv_topi (fun v5 ev5 => ?_)
        have tv5 := a_add ev5 (by omega) (by omega)
        refine m_iald (b + 5) hx hb hE hM (hT.2.1 5 (by decide)) (kT _ hT.1).2.2.2.2.2.1 (vp_in_iff.mpr (by omega)) dX8_isLit_30 ?_
        refine lv_iconst (v := (-1)) hx hb dX8_isLit_31 (by decide) ?_
        refine lv_icmp_eq (tgt := 39) hx hb dX8_isLit_32 (by decide) (fun c6 => ?_) (fun c6 => ?_)
        · have hc6 := c6
          have q6 := q_eq hc6
          refine lv_iconst (v := (0)) hx hb dX8_isLit_39 (by decide) ?_
          exact m_zret hx hb hr rfl hlocks hM hS (Nat.le_of_ble_eq_true rfl) (Nat.le_of_ble_eq_true rfl) ⟨rfl, by (try subst ev5 ev4); exact Bo.n (by omega)⟩ dX8_isLit_40
        · have hc6 := c6
          have q6 := q_ne hc6
          refine lv_iconst (v := (1)) hx hb dX8_isLit_35 (by decide) ?_
          refine lv_goto (tgt := 40) hx hb dX8_isLit_36 (by decide) ?_
          exact m_zret hx hb hr rfl hlocks hM hS (Nat.le_of_ble_eq_true rfl) (Nat.le_of_ble_eq_true rfl) ⟨rfl, by (try subst ev5 ev4); exact Bo.y (by omega)⟩ dX8_isLit_40
theorem dX9_findLaw_0 : decode cX9_findLaw 0 = .ok (.iload_n 1, 1) := by decide +kernel
theorem dX9_findLaw_1 : decode cX9_findLaw 1 = .ok (.iconst 0, 1) := by decide +kernel
theorem dX9_findLaw_2 : decode cX9_findLaw 2 = .ok (.aload_n 0, 1) := by decide +kernel
theorem dX9_findLaw_3 : decode cX9_findLaw 3 = .ok (.getfield 179, 3) := by decide +kernel
theorem dX9_findLaw_6 : decode cX9_findLaw 6 = .ok (.iconst 1, 1) := by decide +kernel
theorem dX9_findLaw_7 : decode cX9_findLaw 7 = .ok (.isub, 1) := by decide +kernel
theorem dX9_findLaw_8 : decode cX9_findLaw 8 = .ok (.invokestatic 95, 3) := by decide +kernel
theorem dX9_findLaw_11 : decode cX9_findLaw 11 = .ok (.ifCond .eq 12, 3) := by decide +kernel
theorem dX9_findLaw_14 : decode cX9_findLaw 14 = .ok (.aload_n 0, 1) := by decide +kernel
theorem dX9_findLaw_15 : decode cX9_findLaw 15 = .ok (.getfield 78, 3) := by decide +kernel
theorem dX9_findLaw_18 : decode cX9_findLaw 18 = .ok (.iload_n 1, 1) := by decide +kernel
theorem dX9_findLaw_19 : decode cX9_findLaw 19 = .ok (.aaload, 1) := by decide +kernel
theorem dX9_findLaw_20 : decode cX9_findLaw 20 = .ok (.goto 4, 3) := by decide +kernel
theorem dX9_findLaw_23 : decode cX9_findLaw 23 = .ok (.aconst_null, 1) := by decide +kernel
theorem dX9_findLaw_24 : decode cX9_findLaw 24 = .ok (.areturn, 1) := by decide +kernel
theorem ce_X9_findLaw : CeV RX9 yX9_findLaw cX9_findLaw 2 (some (.object "OneSunbeam$Law")) 1 := ⟨tb_742, tp_22, tb_1, tb_743, rfl, by decide, by decide, by decide +kernel⟩
set_option maxHeartbeats 4000000 in
set_option maxRecDepth 20000 in
theorem C_X9_findLaw (l : Launch) (D : va_G) (A : Nat → Prop) (ad : Nat → Nat) (ns : List Nat) (I : MI) (L : ML) (G : MG) (k : Int32) (hG : SGC ns G) (hc : 0 ≤ (I 0 14).toInt ∧ (I 0 14).toInt ≤ 6) : Met l yX9_findLaw (wd yX9_findLaw cX9_findLaw 2 (some (.object "OneSunbeam$Law"))) ({ frames := 1, cells := 0, slots := 0, locals := 22 }) (va_Pc [.ref (ad 0), .int k] (PM D A ad ns I L G)) (va_Qq (fun r u => u = (ad, ns, I, L, G) ∧ ((0 ≤ k.toInt ∧ k.toInt < (I 0 14).toInt ∧ r = rn ad (G 2 k.toNatClampNeg)) ∨ (¬ (0 ≤ k.toInt ∧ k.toInt < (I 0 14).toInt) ∧ r = none))) (BM D A) A) 0 0 A := by
  refine m_ofW (by decide) (Nat.le_of_ble_eq_true rfl) ?_
  intro p e s m below meth c ls args hC hE hM hA hS hl
  obtain ⟨hx, hb, hml, hown, hts, hr, hlocks, hin⟩ := hC
  have k0 : (0 : Int32).toInt = 0 := by decide
  have k1 : (1 : Int32).toInt = 1 := by decide
  have hl : lv_has ls 2 [(0, .ref (ad (0))), (1, .int (k))] := hl
  refine lv_iload_n hx hb dX9_findLaw_0 rfl (lv_at hl 1 rfl) ?_
  refine lv_iconst (v := (0)) hx hb dX9_findLaw_1 (by decide) ?_
  refine lv_aload_n hx hb dX9_findLaw_2 rfl (lv_at hl 0 rfl) ?_
  refine m_geti (0) 14 hx hb hts hown hE oc9 hM (hG.1 0 (by decide)) rfl (by decide) rfl tb_412 dX9_findLaw_3 ?_
  refine lv_iconst (v := (1)) hx hb dX9_findLaw_6 (by decide) ?_
  refine lv_isub hx hb dX9_findLaw_7 ?_
  refine lv_topi (fun v1 ev1 => ?_)
  have tv1 := a_sub ev1 (by omega) (by omega)
  refine m_calli (m_runS (As := [.int (k), .int (0), .int (v1)]) (rest := []) hx hb hml hown hts hE hM hS hA ce_X9_isWithin tb_451 (C_X9_isWithin l D A ad ns I L G (k) (0) (v1)) rfl rfl ⟨Nat.le_of_ble_eq_true rfl, Nat.le_of_ble_eq_true rfl⟩  rfl hl.1 rfl (Nat.le_of_ble_eq_true rfl) dX9_findLaw_8 ⟨Nat.le_of_ble_eq_true rfl, Nat.le_of_ble_eq_true rfl⟩) hS (fun r2 u H locs hw hM hS => ?_)
  obtain ⟨rfl, b_r2⟩ := hw
  have hM : Mem D A ad ns I L G H := hM
  refine lv_if_eq (tgt := 23) hx hb dX9_findLaw_11 (by decide) (fun c3 => ?_) (fun c3 => ?_)
  · have hc3 := c3
    have q3 := b_r2.f hc3
    refine lv_null hx hb dX9_findLaw_23 ?_
    exact m_aret (r := none) hx hb hr ⟨_, rfl⟩ hlocks hM hS (Nat.le_of_ble_eq_true rfl) (Nat.le_of_ble_eq_true rfl) ⟨rfl, Or.inr ⟨by omega, rfl⟩⟩ dX9_findLaw_24
  · have hc3 := c3
    have q3 := b_r2.t hc3
    refine lv_aload_n hx hb dX9_findLaw_14 rfl (lv_at hl 0 rfl) ?_
    refine m_getr (0) 10 (2) hx hb hts hown hE oc9 hM (hG.1 0 (by decide)) rfl (by decide) rfl (hG.2 (0, 10, 2) (by decide)) (by decide) tb_408 dX9_findLaw_15 ?_
    refine lv_iload_n hx hb dX9_findLaw_18 rfl (lv_at hl 1 rfl) ?_
    refine m_aald (2) hx hb hE hM (hG.1 2 (by decide)) rfl (by decide) (vp_in_iff.mpr (by omega)) dX9_findLaw_19 ?_
    refine lv_goto (tgt := 24) hx hb dX9_findLaw_20 (by decide) ?_
    exact m_aret (r := rn ad (G (2) (k).toNatClampNeg)) hx hb hr ⟨_, rfl⟩ hlocks hM hS (Nat.le_of_ble_eq_true rfl) (Nat.le_of_ble_eq_true rfl) ⟨rfl, Or.inl ⟨by omega, by omega, rfl⟩⟩ dX9_findLaw_24
theorem dX9_rock_0 : decode cX9_rock 0 = .ok (.aload_n 0, 1) := by decide +kernel
theorem dX9_rock_1 : decode cX9_rock 1 = .ok (.getfield 10, 3) := by decide +kernel
theorem dX9_rock_4 : decode cX9_rock 4 = .ok (.iload_n 1, 1) := by decide +kernel
theorem dX9_rock_5 : decode cX9_rock 5 = .ok (.iload_n 2, 1) := by decide +kernel
theorem dX9_rock_6 : decode cX9_rock 6 = .ok (.iload_n 3, 1) := by decide +kernel
theorem dX9_rock_7 : decode cX9_rock 7 = .ok (.iload 4, 2) := by decide +kernel
theorem dX9_rock_9 : decode cX9_rock 9 = .ok (.invokevirtual 103, 3) := by decide +kernel
theorem dX9_rock_12 : decode cX9_rock 12 = .ok (.ifCond .ne 5, 3) := by decide +kernel
theorem dX9_rock_15 : decode cX9_rock 15 = .ok (.iconst (-1), 1) := by decide +kernel
theorem dX9_rock_16 : decode cX9_rock 16 = .ok (.ireturn, 1) := by decide +kernel
theorem ce_X9_rock : CeV RX9 yX9_rock cX9_rock 6 (some .int) 5 := ⟨tb_462, tb_463, tb_1, tb_464, rfl, by decide, by decide, by decide +kernel⟩
set_option maxHeartbeats 4000000 in
set_option maxRecDepth 20000 in
theorem F_X9_rock (l : Launch) (D : va_G) (A : Nat → Prop) (ad : Nat → Nat) (ns : List Nat) (I : MI) (L : ML) (G : MG) (a0 : Int32) (a1 : Int32) (a2 : Int32) (a3 : Int32) (a4 : Int32) (hG : SGC ns G) (hI : ∀ n k, n < 1000 → I n k = 0) : Met l yX9_rock (wd yX9_rock cX9_rock 6 (some .int)) ({ frames := 2, cells := 0, slots := 0, locals := 46 }) (va_Pc [.ref (ad 0), .int a0, .int a1, .int a2, .int a3, .int a4] (PM D A ad ns I L G)) (va_Qi (fun r u => u = (ad, ns, I, L, G) ∧ r = -1) (BM D A) A) 0 0 A := by
  refine m_ofW (by decide) (Nat.le_of_ble_eq_true rfl) ?_
  intro p e s m below meth c ls args hC hE hM hA hS hl
  obtain ⟨hx, hb, hml, hown, hts, hr, hlocks, hin⟩ := hC
  have km1 : (-1 : Int32).toInt = -1 := by decide
  have k0 : (0 : Int32).toInt = 0 := by decide
  have hl : lv_has ls 6 [(0, .ref (ad (0))), (1, .int (a0)), (2, .int (a1)), (3, .int (a2)), (4, .int (a3)), (5, .int (a4))] := hl
  refine lv_aload_n hx hb dX9_rock_0 rfl (lv_at hl 0 rfl) ?_
  refine m_getr (0) 0 (100) hx hb hts hown hE oc9 hM (hG.1 0 (by decide)) rfl (by decide) rfl (hG.2 (0, 0, 100) (by decide)) (by decide) tb_398 dX9_rock_1 ?_
  refine lv_iload_n hx hb dX9_rock_4 rfl (lv_at hl 1 rfl) ?_
  refine lv_iload_n hx hb dX9_rock_5 rfl (lv_at hl 2 rfl) ?_
  refine lv_iload_n hx hb dX9_rock_6 rfl (lv_at hl 3 rfl) ?_
  refine lv_iload hx hb dX9_rock_7 (lv_at hl 4 rfl) ?_
  refine m_calli (m_runV (100) (As := [.int (a0), .int (a1), .int (a2), .int (a3)]) (rest := []) hx hb hml hown hts hE hM hS hA ce_X8_hasRectangle tb_465 (C_X8_hasRectangle l D A ad ns I L G (100) (a0) (a1) (a2) (a3) hG.t0) rfl rfl ⟨Nat.le_of_ble_eq_true rfl, Nat.le_of_ble_eq_true rfl⟩ (hG.1 100 (by decide)) rfl rfl (by decide) rfl hl.1 rfl (Nat.le_of_ble_eq_true rfl) dX9_rock_9 ⟨Nat.le_of_ble_eq_true rfl, Nat.le_of_ble_eq_true rfl⟩) hS (fun r1 u H locs hw hM hS => ?_)
  obtain ⟨rfl, b_r1⟩ := hw
  have hM : Mem D A ad ns I L G H := hM
  obtain rfl : r1 = 0 := b_r1.z (by rw [hI 100 0 (by decide)]; omega)
  refine lv_if_ne (tgt := 17) hx hb dX9_rock_12 (by decide) (fun c2 => ?_) (fun c2 => ?_)
  · exact absurd c2 (by decide)
  · have hc2 := c2
    have q2 := q_eq hc2
    refine lv_iconst (v := (-1)) hx hb dX9_rock_15 (by decide) ?_
    exact m_iret hx hb hr hlocks hM hS (Nat.le_of_ble_eq_true rfl) (Nat.le_of_ble_eq_true rfl) ⟨rfl, rfl⟩ dX9_rock_16
theorem dX9_sun_0 : decode cX9_sun 0 = .ok (.aload_n 0, 1) := by decide +kernel
theorem dX9_sun_1 : decode cX9_sun 1 = .ok (.getfield 10, 3) := by decide +kernel
theorem dX9_sun_4 : decode cX9_sun 4 = .ok (.invokevirtual 111, 3) := by decide +kernel
theorem dX9_sun_7 : decode cX9_sun 7 = .ok (.ifCond .eq 23, 3) := by decide +kernel
theorem dX9_sun_30 : decode cX9_sun 30 = .ok (.iconst 0, 1) := by decide +kernel
theorem dX9_sun_31 : decode cX9_sun 31 = .ok (.ireturn, 1) := by decide +kernel
theorem ce_X9_sun : CeV RX9 yX9_sun cX9_sun 6 (some .boolean) 4 := ⟨tb_481, tb_482, tb_1, tb_483, rfl, by decide, by decide, by decide +kernel⟩
set_option maxHeartbeats 4000000 in
set_option maxRecDepth 20000 in
theorem F_X9_sun (l : Launch) (D : va_G) (A : Nat → Prop) (ad : Nat → Nat) (ns : List Nat) (I : MI) (L : ML) (G : MG) (a0 : Int32) (a1 : Int32) (a2 : Int32) (a3 : Int32) (hG : SGC ns G) (hI : ∀ n k, n < 1000 → I n k = 0) : Met l yX9_sun (wd yX9_sun cX9_sun 6 (some .boolean)) ({ frames := 1, cells := 0, slots := 0, locals := 20 }) (va_Pc [.ref (ad 0), .int a0, .int a1, .int a2, .int a3] (PM D A ad ns I L G)) (va_Qi (fun r u => u = (ad, ns, I, L, G) ∧ r = 0) (BM D A) A) 0 0 A := by
  refine m_ofW (by decide) (Nat.le_of_ble_eq_true rfl) ?_
  intro p e s m below meth c ls args hC hE hM hA hS hl
  obtain ⟨hx, hb, hml, hown, hts, hr, hlocks, hin⟩ := hC
  have k0 : (0 : Int32).toInt = 0 := by decide
  have hl : lv_has ls 6 [(0, .ref (ad (0))), (1, .int (a0)), (2, .int (a1)), (3, .int (a2)), (4, .int (a3))] := hl
  refine lv_aload_n hx hb dX9_sun_0 rfl (lv_at hl 0 rfl) ?_
  refine m_getr (0) 0 (100) hx hb hts hown hE oc9 hM (hG.1 0 (by decide)) rfl (by decide) rfl (hG.2 (0, 0, 100) (by decide)) (by decide) tb_398 dX9_sun_1 ?_
  refine m_calli (m_runV (100) (As := []) (rest := []) hx hb hml hown hts hE hM hS hA ce_X8_isBegun tb_484 (C_X8_isBegun l D A ad ns I L G (100) hG.t0) rfl rfl ⟨Nat.le_of_ble_eq_true rfl, Nat.le_of_ble_eq_true rfl⟩ (hG.1 100 (by decide)) rfl rfl (by decide) rfl hl.1 rfl (Nat.le_of_ble_eq_true rfl) dX9_sun_4 ⟨Nat.le_of_ble_eq_true rfl, Nat.le_of_ble_eq_true rfl⟩) hS (fun r1 u H locs hw hM hS => ?_)
  obtain ⟨rfl, b_r1⟩ := hw
  have hM : Mem D A ad ns I L G H := hM
  obtain rfl : r1 = 0 := b_r1.z (by rw [hI 100 0 (by decide)]; omega)
  refine lv_if_eq (tgt := 30) hx hb dX9_sun_7 (by decide) (fun c2 => ?_) (fun c2 => ?_)
  · have hc2 := c2
    have q2 := q_eq hc2
    refine lv_iconst (v := (0)) hx hb dX9_sun_30 (by decide) ?_
    exact m_zret hx hb hr rfl hlocks hM hS (Nat.le_of_ble_eq_true rfl) (Nat.le_of_ble_eq_true rfl) ⟨rfl, rfl⟩ dX9_sun_31
  · exact absurd c2 (by decide)
theorem dX9_mirror_0 : decode cX9_mirror 0 = .ok (.aload_n 0, 1) := by decide +kernel
theorem dX9_mirror_1 : decode cX9_mirror 1 = .ok (.getfield 10, 3) := by decide +kernel
theorem dX9_mirror_4 : decode cX9_mirror 4 = .ok (.iload_n 1, 1) := by decide +kernel
theorem dX9_mirror_5 : decode cX9_mirror 5 = .ok (.iload_n 2, 1) := by decide +kernel
theorem dX9_mirror_6 : decode cX9_mirror 6 = .ok (.invokevirtual 122, 3) := by decide +kernel
theorem dX9_mirror_9 : decode cX9_mirror 9 = .ok (.ifCond .eq 32, 3) := by decide +kernel
theorem dX9_mirror_41 : decode cX9_mirror 41 = .ok (.iconst (-1), 1) := by decide +kernel
theorem dX9_mirror_42 : decode cX9_mirror 42 = .ok (.ireturn, 1) := by decide +kernel
theorem ce_X9_mirror : CeV RX9 yX9_mirror cX9_mirror 9 (some .int) 7 := ⟨tb_490, tb_491, tb_1, tb_492, rfl, by decide, by decide, by decide +kernel⟩
set_option maxHeartbeats 4000000 in
set_option maxRecDepth 20000 in
theorem F_X9_mirror (l : Launch) (D : va_G) (A : Nat → Prop) (ad : Nat → Nat) (ns : List Nat) (I : MI) (L : ML) (G : MG) (a0 : Int32) (a1 : Int32) (a2 : Int32) (a3 : Int32) (a4 : Int32) (a5 : Int32) (a6 : Int32) (hG : SGC ns G) (hI : ∀ n k, n < 1000 → I n k = 0) : Met l yX9_mirror (wd yX9_mirror cX9_mirror 9 (some .int)) ({ frames := 1, cells := 0, slots := 0, locals := 22 }) (va_Pc [.ref (ad 0), .int a0, .int a1, .int a2, .int a3, .int a4, .int a5, .int a6] (PM D A ad ns I L G)) (va_Qi (fun r u => u = (ad, ns, I, L, G) ∧ r = -1) (BM D A) A) 0 0 A := by
  refine m_ofW (by decide) (Nat.le_of_ble_eq_true rfl) ?_
  intro p e s m below meth c ls args hC hE hM hA hS hl
  obtain ⟨hx, hb, hml, hown, hts, hr, hlocks, hin⟩ := hC
  have km1 : (-1 : Int32).toInt = -1 := by decide
  have k0 : (0 : Int32).toInt = 0 := by decide
  have hl : lv_has ls 9 [(0, .ref (ad (0))), (1, .int (a0)), (2, .int (a1)), (3, .int (a2)), (4, .int (a3)), (5, .int (a4)), (6, .int (a5)), (7, .int (a6))] := hl
  refine lv_aload_n hx hb dX9_mirror_0 rfl (lv_at hl 0 rfl) ?_
  refine m_getr (0) 0 (100) hx hb hts hown hE oc9 hM (hG.1 0 (by decide)) rfl (by decide) rfl (hG.2 (0, 0, 100) (by decide)) (by decide) tb_398 dX9_mirror_1 ?_
  refine lv_iload_n hx hb dX9_mirror_4 rfl (lv_at hl 1 rfl) ?_
  refine lv_iload_n hx hb dX9_mirror_5 rfl (lv_at hl 2 rfl) ?_
  refine m_calli (m_runV (100) (As := [.int (a0), .int (a1)]) (rest := []) hx hb hml hown hts hE hM hS hA ce_X8_hasCell tb_493 (C_X8_hasCell l D A ad ns I L G (100) (a0) (a1) hG.t0) rfl rfl ⟨Nat.le_of_ble_eq_true rfl, Nat.le_of_ble_eq_true rfl⟩ (hG.1 100 (by decide)) rfl rfl (by decide) rfl hl.1 rfl (Nat.le_of_ble_eq_true rfl) dX9_mirror_6 ⟨Nat.le_of_ble_eq_true rfl, Nat.le_of_ble_eq_true rfl⟩) hS (fun r1 u H locs hw hM hS => ?_)
  obtain ⟨rfl, b_r1⟩ := hw
  have hM : Mem D A ad ns I L G H := hM
  obtain rfl : r1 = 0 := b_r1.z (by rw [hI 100 0 (by decide)]; omega)
  refine lv_if_eq (tgt := 41) hx hb dX9_mirror_9 (by decide) (fun c2 => ?_) (fun c2 => ?_)
  · have hc2 := c2
    have q2 := q_eq hc2
    refine lv_iconst (v := (-1)) hx hb dX9_mirror_41 (by decide) ?_
    exact m_iret hx hb hr hlocks hM hS (Nat.le_of_ble_eq_true rfl) (Nat.le_of_ble_eq_true rfl) ⟨rfl, rfl⟩ dX9_mirror_42
  · exact absurd c2 (by decide)
theorem dX9_sets_0 : decode cX9_sets 0 = .ok (.aload_n 0, 1) := by decide +kernel
theorem dX9_sets_1 : decode cX9_sets 1 = .ok (.getfield 10, 3) := by decide +kernel
theorem dX9_sets_4 : decode cX9_sets 4 = .ok (.iload_n 1, 1) := by decide +kernel
theorem dX9_sets_5 : decode cX9_sets 5 = .ok (.invokevirtual 144, 3) := by decide +kernel
theorem dX9_sets_8 : decode cX9_sets 8 = .ok (.ifCond .ne 6, 3) := by decide +kernel
theorem dX9_sets_11 : decode cX9_sets 11 = .ok (.bipush (-2), 2) := by decide +kernel
theorem dX9_sets_13 : decode cX9_sets 13 = .ok (.ireturn, 1) := by decide +kernel
theorem ce_X9_sets : CeV RX9 yX9_sets cX9_sets 4 (some .int) 3 := ⟨tb_505, tb_506, tb_1, tb_507, rfl, by decide, by decide, by decide +kernel⟩
set_option maxHeartbeats 4000000 in
set_option maxRecDepth 20000 in
theorem F_X9_sets (l : Launch) (D : va_G) (A : Nat → Prop) (ad : Nat → Nat) (ns : List Nat) (I : MI) (L : ML) (G : MG) (a0 : Int32) (a1 : Int32) (a2 : Int32) (hG : SGC ns G) (hI : ∀ n k, n < 1000 → I n k = 0) : Met l yX9_sets (wd yX9_sets cX9_sets 4 (some .int)) ({ frames := 1, cells := 0, slots := 0, locals := 21 }) (va_Pc [.ref (ad 0), .int a0, .int a1, .int a2] (PM D A ad ns I L G)) (va_Qi (fun r u => u = (ad, ns, I, L, G) ∧ r = -2) (BM D A) A) 0 0 A := by
  refine m_ofW (by decide) (Nat.le_of_ble_eq_true rfl) ?_
  intro p e s m below meth c ls args hC hE hM hA hS hl
  obtain ⟨hx, hb, hml, hown, hts, hr, hlocks, hin⟩ := hC
  have km2 : (-2 : Int32).toInt = -2 := by decide
  have k0 : (0 : Int32).toInt = 0 := by decide
  have hl : lv_has ls 4 [(0, .ref (ad (0))), (1, .int (a0)), (2, .int (a1)), (3, .int (a2))] := hl
  refine lv_aload_n hx hb dX9_sets_0 rfl (lv_at hl 0 rfl) ?_
  refine m_getr (0) 0 (100) hx hb hts hown hE oc9 hM (hG.1 0 (by decide)) rfl (by decide) rfl (hG.2 (0, 0, 100) (by decide)) (by decide) tb_398 dX9_sets_1 ?_
  refine lv_iload_n hx hb dX9_sets_4 rfl (lv_at hl 1 rfl) ?_
  refine m_calli (m_runV (100) (As := [.int (a0)]) (rest := []) hx hb hml hown hts hE hM hS hA ce_X8_hasMirror tb_508 (C_X8_hasMirror l D A ad ns I L G (100) (a0) hG.t0) rfl rfl ⟨Nat.le_of_ble_eq_true rfl, Nat.le_of_ble_eq_true rfl⟩ (hG.1 100 (by decide)) rfl rfl (by decide) rfl hl.1 rfl (Nat.le_of_ble_eq_true rfl) dX9_sets_5 ⟨Nat.le_of_ble_eq_true rfl, Nat.le_of_ble_eq_true rfl⟩) hS (fun r1 u H locs hw hM hS => ?_)
  obtain ⟨rfl, b_r1⟩ := hw
  have hM : Mem D A ad ns I L G H := hM
  obtain rfl : r1 = 0 := b_r1.z (by rw [hI 100 8 (by decide)]; omega)
  refine lv_if_ne (tgt := 14) hx hb dX9_sets_8 (by decide) (fun c2 => ?_) (fun c2 => ?_)
  · exact absurd c2 (by decide)
  · have hc2 := c2
    have q2 := q_eq hc2
    refine lv_bipush (v := (-2)) hx hb dX9_sets_11 (by decide) ?_
    exact m_iret hx hb hr hlocks hM hS (Nat.le_of_ble_eq_true rfl) (Nat.le_of_ble_eq_true rfl) ⟨rfl, rfl⟩ dX9_sets_13
theorem dX9_yard_0 : decode cX9_yard 0 = .ok (.aload_n 0, 1) := by decide +kernel
theorem dX9_yard_1 : decode cX9_yard 1 = .ok (.getfield 10, 3) := by decide +kernel
theorem dX9_yard_4 : decode cX9_yard 4 = .ok (.iload_n 1, 1) := by decide +kernel
theorem dX9_yard_5 : decode cX9_yard 5 = .ok (.iload_n 2, 1) := by decide +kernel
theorem dX9_yard_6 : decode cX9_yard 6 = .ok (.iload_n 3, 1) := by decide +kernel
theorem dX9_yard_7 : decode cX9_yard 7 = .ok (.iload 4, 2) := by decide +kernel
theorem dX9_yard_9 : decode cX9_yard 9 = .ok (.invokevirtual 103, 3) := by decide +kernel
theorem dX9_yard_12 : decode cX9_yard 12 = .ok (.ifCond .eq 15, 3) := by decide +kernel
theorem dX9_yard_27 : decode cX9_yard 27 = .ok (.iconst (-1), 1) := by decide +kernel
theorem dX9_yard_28 : decode cX9_yard 28 = .ok (.ireturn, 1) := by decide +kernel
theorem ce_X9_yard : CeV RX9 yX9_yard cX9_yard 8 (some .int) 6 := ⟨tb_521, tb_522, tb_1, tb_523, rfl, by decide, by decide, by decide +kernel⟩
set_option maxHeartbeats 4000000 in
set_option maxRecDepth 20000 in
theorem F_X9_yard (l : Launch) (D : va_G) (A : Nat → Prop) (ad : Nat → Nat) (ns : List Nat) (I : MI) (L : ML) (G : MG) (a0 : Int32) (a1 : Int32) (a2 : Int32) (a3 : Int32) (a4 : Int32) (a5 : Int32) (hG : SGC ns G) (hI : ∀ n k, n < 1000 → I n k = 0) : Met l yX9_yard (wd yX9_yard cX9_yard 8 (some .int)) ({ frames := 2, cells := 0, slots := 0, locals := 46 }) (va_Pc [.ref (ad 0), .int a0, .int a1, .int a2, .int a3, .int a4, .int a5] (PM D A ad ns I L G)) (va_Qi (fun r u => u = (ad, ns, I, L, G) ∧ r = -1) (BM D A) A) 0 0 A := by
  refine m_ofW (by decide) (Nat.le_of_ble_eq_true rfl) ?_
  intro p e s m below meth c ls args hC hE hM hA hS hl
  obtain ⟨hx, hb, hml, hown, hts, hr, hlocks, hin⟩ := hC
  have km1 : (-1 : Int32).toInt = -1 := by decide
  have k0 : (0 : Int32).toInt = 0 := by decide
  have hl : lv_has ls 8 [(0, .ref (ad (0))), (1, .int (a0)), (2, .int (a1)), (3, .int (a2)), (4, .int (a3)), (5, .int (a4)), (6, .int (a5))] := hl
  refine lv_aload_n hx hb dX9_yard_0 rfl (lv_at hl 0 rfl) ?_
  refine m_getr (0) 0 (100) hx hb hts hown hE oc9 hM (hG.1 0 (by decide)) rfl (by decide) rfl (hG.2 (0, 0, 100) (by decide)) (by decide) tb_398 dX9_yard_1 ?_
  refine lv_iload_n hx hb dX9_yard_4 rfl (lv_at hl 1 rfl) ?_
  refine lv_iload_n hx hb dX9_yard_5 rfl (lv_at hl 2 rfl) ?_
  refine lv_iload_n hx hb dX9_yard_6 rfl (lv_at hl 3 rfl) ?_
  refine lv_iload hx hb dX9_yard_7 (lv_at hl 4 rfl) ?_
  refine m_calli (m_runV (100) (As := [.int (a0), .int (a1), .int (a2), .int (a3)]) (rest := []) hx hb hml hown hts hE hM hS hA ce_X8_hasRectangle tb_465 (C_X8_hasRectangle l D A ad ns I L G (100) (a0) (a1) (a2) (a3) hG.t0) rfl rfl ⟨Nat.le_of_ble_eq_true rfl, Nat.le_of_ble_eq_true rfl⟩ (hG.1 100 (by decide)) rfl rfl (by decide) rfl hl.1 rfl (Nat.le_of_ble_eq_true rfl) dX9_yard_9 ⟨Nat.le_of_ble_eq_true rfl, Nat.le_of_ble_eq_true rfl⟩) hS (fun r1 u H locs hw hM hS => ?_)
  obtain ⟨rfl, b_r1⟩ := hw
  have hM : Mem D A ad ns I L G H := hM
  obtain rfl : r1 = 0 := b_r1.z (by rw [hI 100 0 (by decide)]; omega)
  refine lv_if_eq (tgt := 27) hx hb dX9_yard_12 (by decide) (fun c2 => ?_) (fun c2 => ?_)
  · have hc2 := c2
    have q2 := q_eq hc2
    refine lv_iconst (v := (-1)) hx hb dX9_yard_27 (by decide) ?_
    exact m_iret hx hb hr hlocks hM hS (Nat.le_of_ble_eq_true rfl) (Nat.le_of_ble_eq_true rfl) ⟨rfl, rfl⟩ dX9_yard_28
  · exact absurd c2 (by decide)
theorem dX9_eyes_0 : decode cX9_eyes 0 = .ok (.aload_n 0, 1) := by decide +kernel
theorem dX9_eyes_1 : decode cX9_eyes 1 = .ok (.getfield 10, 3) := by decide +kernel
theorem dX9_eyes_4 : decode cX9_eyes 4 = .ok (.iload_n 1, 1) := by decide +kernel
theorem dX9_eyes_5 : decode cX9_eyes 5 = .ok (.iload_n 2, 1) := by decide +kernel
theorem dX9_eyes_6 : decode cX9_eyes 6 = .ok (.invokevirtual 122, 3) := by decide +kernel
theorem dX9_eyes_9 : decode cX9_eyes 9 = .ok (.ifCond .eq 13, 3) := by decide +kernel
theorem dX9_eyes_22 : decode cX9_eyes 22 = .ok (.bipush (-2), 2) := by decide +kernel
theorem dX9_eyes_24 : decode cX9_eyes 24 = .ok (.ireturn, 1) := by decide +kernel
theorem ce_X9_eyes : CeV RX9 yX9_eyes cX9_eyes 5 (some .int) 3 := ⟨tb_535, tb_536, tb_1, tb_537, rfl, by decide, by decide, by decide +kernel⟩
set_option maxHeartbeats 4000000 in
set_option maxRecDepth 20000 in
theorem F_X9_eyes (l : Launch) (D : va_G) (A : Nat → Prop) (ad : Nat → Nat) (ns : List Nat) (I : MI) (L : ML) (G : MG) (a0 : Int32) (a1 : Int32) (a2 : Int32) (hG : SGC ns G) (hI : ∀ n k, n < 1000 → I n k = 0) : Met l yX9_eyes (wd yX9_eyes cX9_eyes 5 (some .int)) ({ frames := 1, cells := 0, slots := 0, locals := 22 }) (va_Pc [.ref (ad 0), .int a0, .int a1, .int a2] (PM D A ad ns I L G)) (va_Qi (fun r u => u = (ad, ns, I, L, G) ∧ r = -2) (BM D A) A) 0 0 A := by
  refine m_ofW (by decide) (Nat.le_of_ble_eq_true rfl) ?_
  intro p e s m below meth c ls args hC hE hM hA hS hl
  obtain ⟨hx, hb, hml, hown, hts, hr, hlocks, hin⟩ := hC
  have km2 : (-2 : Int32).toInt = -2 := by decide
  have k0 : (0 : Int32).toInt = 0 := by decide
  have hl : lv_has ls 5 [(0, .ref (ad (0))), (1, .int (a0)), (2, .int (a1)), (3, .int (a2))] := hl
  refine lv_aload_n hx hb dX9_eyes_0 rfl (lv_at hl 0 rfl) ?_
  refine m_getr (0) 0 (100) hx hb hts hown hE oc9 hM (hG.1 0 (by decide)) rfl (by decide) rfl (hG.2 (0, 0, 100) (by decide)) (by decide) tb_398 dX9_eyes_1 ?_
  refine lv_iload_n hx hb dX9_eyes_4 rfl (lv_at hl 1 rfl) ?_
  refine lv_iload_n hx hb dX9_eyes_5 rfl (lv_at hl 2 rfl) ?_
  refine m_calli (m_runV (100) (As := [.int (a0), .int (a1)]) (rest := []) hx hb hml hown hts hE hM hS hA ce_X8_hasCell tb_493 (C_X8_hasCell l D A ad ns I L G (100) (a0) (a1) hG.t0) rfl rfl ⟨Nat.le_of_ble_eq_true rfl, Nat.le_of_ble_eq_true rfl⟩ (hG.1 100 (by decide)) rfl rfl (by decide) rfl hl.1 rfl (Nat.le_of_ble_eq_true rfl) dX9_eyes_6 ⟨Nat.le_of_ble_eq_true rfl, Nat.le_of_ble_eq_true rfl⟩) hS (fun r1 u H locs hw hM hS => ?_)
  obtain ⟨rfl, b_r1⟩ := hw
  have hM : Mem D A ad ns I L G H := hM
  obtain rfl : r1 = 0 := b_r1.z (by rw [hI 100 0 (by decide)]; omega)
  refine lv_if_eq (tgt := 22) hx hb dX9_eyes_9 (by decide) (fun c2 => ?_) (fun c2 => ?_)
  · have hc2 := c2
    have q2 := q_eq hc2
    refine lv_bipush (v := (-2)) hx hb dX9_eyes_22 (by decide) ?_
    exact m_iret hx hb hr hlocks hM hS (Nat.le_of_ble_eq_true rfl) (Nat.le_of_ble_eq_true rfl) ⟨rfl, rfl⟩ dX9_eyes_24
  · exact absurd c2 (by decide)
theorem dX9_month_0 : decode cX9_month 0 = .ok (.aload_n 0, 1) := by decide +kernel
theorem dX9_month_1 : decode cX9_month 1 = .ok (.getfield 10, 3) := by decide +kernel
theorem dX9_month_4 : decode cX9_month 4 = .ok (.invokevirtual 111, 3) := by decide +kernel
theorem dX9_month_7 : decode cX9_month 7 = .ok (.ifCond .eq 13, 3) := by decide +kernel
theorem dX9_month_20 : decode cX9_month 20 = .ok (.iconst (-1), 1) := by decide +kernel
theorem dX9_month_21 : decode cX9_month 21 = .ok (.ireturn, 1) := by decide +kernel
theorem ce_X9_month : CeV RX9 yX9_month cX9_month 3 (some .int) 1 := ⟨tb_539, tb_540, tb_1, tb_541, rfl, by decide, by decide, by decide +kernel⟩
set_option maxHeartbeats 4000000 in
set_option maxRecDepth 20000 in
theorem F_X9_month (l : Launch) (D : va_G) (A : Nat → Prop) (ad : Nat → Nat) (ns : List Nat) (I : MI) (L : ML) (G : MG) (a0 : Int32) (hG : SGC ns G) (hI : ∀ n k, n < 1000 → I n k = 0) : Met l yX9_month (wd yX9_month cX9_month 3 (some .int)) ({ frames := 1, cells := 0, slots := 0, locals := 20 }) (va_Pc [.ref (ad 0), .int a0] (PM D A ad ns I L G)) (va_Qi (fun r u => u = (ad, ns, I, L, G) ∧ r = -1) (BM D A) A) 0 0 A := by
  refine m_ofW (by decide) (Nat.le_of_ble_eq_true rfl) ?_
  intro p e s m below meth c ls args hC hE hM hA hS hl
  obtain ⟨hx, hb, hml, hown, hts, hr, hlocks, hin⟩ := hC
  have km1 : (-1 : Int32).toInt = -1 := by decide
  have k0 : (0 : Int32).toInt = 0 := by decide
  have hl : lv_has ls 3 [(0, .ref (ad (0))), (1, .int (a0))] := hl
  refine lv_aload_n hx hb dX9_month_0 rfl (lv_at hl 0 rfl) ?_
  refine m_getr (0) 0 (100) hx hb hts hown hE oc9 hM (hG.1 0 (by decide)) rfl (by decide) rfl (hG.2 (0, 0, 100) (by decide)) (by decide) tb_398 dX9_month_1 ?_
  refine m_calli (m_runV (100) (As := []) (rest := []) hx hb hml hown hts hE hM hS hA ce_X8_isBegun tb_484 (C_X8_isBegun l D A ad ns I L G (100) hG.t0) rfl rfl ⟨Nat.le_of_ble_eq_true rfl, Nat.le_of_ble_eq_true rfl⟩ (hG.1 100 (by decide)) rfl rfl (by decide) rfl hl.1 rfl (Nat.le_of_ble_eq_true rfl) dX9_month_4 ⟨Nat.le_of_ble_eq_true rfl, Nat.le_of_ble_eq_true rfl⟩) hS (fun r1 u H locs hw hM hS => ?_)
  obtain ⟨rfl, b_r1⟩ := hw
  have hM : Mem D A ad ns I L G H := hM
  obtain rfl : r1 = 0 := b_r1.z (by rw [hI 100 0 (by decide)]; omega)
  refine lv_if_eq (tgt := 20) hx hb dX9_month_7 (by decide) (fun c2 => ?_) (fun c2 => ?_)
  · have hc2 := c2
    have q2 := q_eq hc2
    refine lv_iconst (v := (-1)) hx hb dX9_month_20 (by decide) ?_
    exact m_iret hx hb hr hlocks hM hS (Nat.le_of_ble_eq_true rfl) (Nat.le_of_ble_eq_true rfl) ⟨rfl, rfl⟩ dX9_month_21
  · exact absurd c2 (by decide)
theorem dX9_falls_0 : decode cX9_falls 0 = .ok (.aload_n 0, 1) := by decide +kernel
theorem dX9_falls_1 : decode cX9_falls 1 = .ok (.getfield 10, 3) := by decide +kernel
theorem dX9_falls_4 : decode cX9_falls 4 = .ok (.invokevirtual 111, 3) := by decide +kernel
theorem dX9_falls_7 : decode cX9_falls 7 = .ok (.ifCond .eq 13, 3) := by decide +kernel
theorem dX9_falls_20 : decode cX9_falls 20 = .ok (.iconst (-1), 1) := by decide +kernel
theorem dX9_falls_21 : decode cX9_falls 21 = .ok (.ireturn, 1) := by decide +kernel
theorem ce_X9_falls : CeV RX9 yX9_falls cX9_falls 3 (some .int) 1 := ⟨tb_543, tb_544, tb_1, tb_545, rfl, by decide, by decide, by decide +kernel⟩
set_option maxHeartbeats 4000000 in
set_option maxRecDepth 20000 in
theorem F_X9_falls (l : Launch) (D : va_G) (A : Nat → Prop) (ad : Nat → Nat) (ns : List Nat) (I : MI) (L : ML) (G : MG) (a0 : Int32) (hG : SGC ns G) (hI : ∀ n k, n < 1000 → I n k = 0) : Met l yX9_falls (wd yX9_falls cX9_falls 3 (some .int)) ({ frames := 1, cells := 0, slots := 0, locals := 20 }) (va_Pc [.ref (ad 0), .int a0] (PM D A ad ns I L G)) (va_Qi (fun r u => u = (ad, ns, I, L, G) ∧ r = -1) (BM D A) A) 0 0 A := by
  refine m_ofW (by decide) (Nat.le_of_ble_eq_true rfl) ?_
  intro p e s m below meth c ls args hC hE hM hA hS hl
  obtain ⟨hx, hb, hml, hown, hts, hr, hlocks, hin⟩ := hC
  have km1 : (-1 : Int32).toInt = -1 := by decide
  have k0 : (0 : Int32).toInt = 0 := by decide
  have hl : lv_has ls 3 [(0, .ref (ad (0))), (1, .int (a0))] := hl
  refine lv_aload_n hx hb dX9_falls_0 rfl (lv_at hl 0 rfl) ?_
  refine m_getr (0) 0 (100) hx hb hts hown hE oc9 hM (hG.1 0 (by decide)) rfl (by decide) rfl (hG.2 (0, 0, 100) (by decide)) (by decide) tb_398 dX9_falls_1 ?_
  refine m_calli (m_runV (100) (As := []) (rest := []) hx hb hml hown hts hE hM hS hA ce_X8_isBegun tb_484 (C_X8_isBegun l D A ad ns I L G (100) hG.t0) rfl rfl ⟨Nat.le_of_ble_eq_true rfl, Nat.le_of_ble_eq_true rfl⟩ (hG.1 100 (by decide)) rfl rfl (by decide) rfl hl.1 rfl (Nat.le_of_ble_eq_true rfl) dX9_falls_4 ⟨Nat.le_of_ble_eq_true rfl, Nat.le_of_ble_eq_true rfl⟩) hS (fun r1 u H locs hw hM hS => ?_)
  obtain ⟨rfl, b_r1⟩ := hw
  have hM : Mem D A ad ns I L G H := hM
  obtain rfl : r1 = 0 := b_r1.z (by rw [hI 100 0 (by decide)]; omega)
  refine lv_if_eq (tgt := 20) hx hb dX9_falls_7 (by decide) (fun c2 => ?_) (fun c2 => ?_)
  · have hc2 := c2
    have q2 := q_eq hc2
    refine lv_iconst (v := (-1)) hx hb dX9_falls_20 (by decide) ?_
    exact m_iret hx hb hr hlocks hM hS (Nat.le_of_ble_eq_true rfl) (Nat.le_of_ble_eq_true rfl) ⟨rfl, rfl⟩ dX9_falls_21
  · exact absurd c2 (by decide)
theorem dX9_days_0 : decode cX9_days 0 = .ok (.aload_n 0, 1) := by decide +kernel
theorem dX9_days_1 : decode cX9_days 1 = .ok (.iload_n 1, 1) := by decide +kernel
theorem dX9_days_2 : decode cX9_days 2 = .ok (.invokevirtual 186, 3) := by decide +kernel
theorem dX9_days_5 : decode cX9_days 5 = .ok (.astore_n 3, 1) := by decide +kernel
theorem dX9_days_6 : decode cX9_days 6 = .ok (.aload_n 3, 1) := by decide +kernel
theorem dX9_days_7 : decode cX9_days 7 = .ok (.ifnull 38, 3) := by decide +kernel
theorem dX9_days_45 : decode cX9_days 45 = .ok (.iconst (-1), 1) := by decide +kernel
theorem dX9_days_46 : decode cX9_days 46 = .ok (.ireturn, 1) := by decide +kernel
theorem ce_X9_days : CeV RX9 yX9_days cX9_days 5 (some .int) 2 := ⟨tb_737, tb_738, tb_1, tb_739, rfl, by decide, by decide, by decide +kernel⟩
set_option maxHeartbeats 4000000 in
set_option maxRecDepth 20000 in
theorem F_X9_days (l : Launch) (D : va_G) (A : Nat → Prop) (ad : Nat → Nat) (ns : List Nat) (I : MI) (L : ML) (G : MG) (a0 : Int32) (a1 : Int32) (hG : SGC ns G) (hI : ∀ n k, n < 1000 → I n k = 0) : Met l yX9_days (wd yX9_days cX9_days 5 (some .int)) ({ frames := 2, cells := 0, slots := 0, locals := 43 }) (va_Pc [.ref (ad 0), .int a0, .int a1] (PM D A ad ns I L G)) (va_Qi (fun r u => u = (ad, ns, I, L, G) ∧ r = -1) (BM D A) A) 0 0 A := by
  refine m_ofW (by decide) (Nat.le_of_ble_eq_true rfl) ?_
  intro p e s m below meth c ls args hC hE hM hA hS hl
  obtain ⟨hx, hb, hml, hown, hts, hr, hlocks, hin⟩ := hC
  have km1 : (-1 : Int32).toInt = -1 := by decide
  have k0 : (0 : Int32).toInt = 0 := by decide
  have hl : lv_has ls 5 [(0, .ref (ad (0))), (1, .int (a0)), (2, .int (a1))] := hl
  refine lv_aload_n hx hb dX9_days_0 rfl (lv_at hl 0 rfl) ?_
  refine lv_iload_n hx hb dX9_days_1 rfl (lv_at hl 1 rfl) ?_
  refine m_callq (m_runV (0) (As := [.int (a0)]) (rest := []) hx hb hml hown hts hE hM hS hA ce_X9_findLaw tb_740 (C_X9_findLaw l D A ad ns I L G (a0) hG (by rw [hI 0 14 (by decide)]; decide)) rfl rfl ⟨Nat.le_of_ble_eq_true rfl, Nat.le_of_ble_eq_true rfl⟩ (hG.1 0 (by decide)) rfl rfl (by decide) rfl hl.1 rfl (Nat.le_of_ble_eq_true rfl) dX9_days_2 ⟨Nat.le_of_ble_eq_true rfl, Nat.le_of_ble_eq_true rfl⟩) hS (fun r1 u H locs hw hM hS => ?_)
  obtain ⟨rfl, b_r1⟩ := hw
  have hM : Mem D A ad ns I L G H := hM
  obtain rfl : r1 = none := by
    rcases b_r1 with ⟨h1, h2, -⟩ | ⟨-, h⟩
    · rw [hI 0 14 (by decide)] at h2
      omega
    · exact h
  refine lv_astore_nN (lv' := [(3, .null), (0, .ref (ad (0))), (1, .int (a0)), (2, .int (a1))]) hx hb dX9_days_5 rfl hl (by decide) rfl (fun ls hl => ?_)
  refine lv_aload_nN hx hb dX9_days_6 rfl (lv_at hl 0 rfl) ?_
  refine lv_ifnullN (tgt := 45) hx hb dX9_days_7 (by decide) ?_
  refine lv_iconst (v := (-1)) hx hb dX9_days_45 (by decide) ?_
  exact m_iret hx hb hr hlocks hM hS (Nat.le_of_ble_eq_true rfl) (Nat.le_of_ble_eq_true rfl) ⟨rfl, rfl⟩ dX9_days_46
theorem dX9_mirrors_0 : decode cX9_mirrors 0 = .ok (.aload_n 0, 1) := by decide +kernel
theorem dX9_mirrors_1 : decode cX9_mirrors 1 = .ok (.getfield 10, 3) := by decide +kernel
theorem dX9_mirrors_4 : decode cX9_mirrors 4 = .ok (.iload_n 1, 1) := by decide +kernel
theorem dX9_mirrors_5 : decode cX9_mirrors 5 = .ok (.invokevirtual 144, 3) := by decide +kernel
theorem dX9_mirrors_8 : decode cX9_mirrors 8 = .ok (.ifCond .eq 13, 3) := by decide +kernel
theorem dX9_mirrors_21 : decode cX9_mirrors 21 = .ok (.bipush (-2), 2) := by decide +kernel
theorem dX9_mirrors_23 : decode cX9_mirrors 23 = .ok (.ireturn, 1) := by decide +kernel
theorem ce_X9_mirrors : CeV RX9 yX9_mirrors cX9_mirrors 3 (some .int) 2 := ⟨tb_886, tb_887, tb_1, tb_888, rfl, by decide, by decide, by decide +kernel⟩
set_option maxHeartbeats 4000000 in
set_option maxRecDepth 20000 in
theorem F_X9_mirrors (l : Launch) (D : va_G) (A : Nat → Prop) (ad : Nat → Nat) (ns : List Nat) (I : MI) (L : ML) (G : MG) (a0 : Int32) (a1 : Int32) (hG : SGC ns G) (hI : ∀ n k, n < 1000 → I n k = 0) : Met l yX9_mirrors (wd yX9_mirrors cX9_mirrors 3 (some .int)) ({ frames := 1, cells := 0, slots := 0, locals := 21 }) (va_Pc [.ref (ad 0), .int a0, .int a1] (PM D A ad ns I L G)) (va_Qi (fun r u => u = (ad, ns, I, L, G) ∧ r = -2) (BM D A) A) 0 0 A := by
  refine m_ofW (by decide) (Nat.le_of_ble_eq_true rfl) ?_
  intro p e s m below meth c ls args hC hE hM hA hS hl
  obtain ⟨hx, hb, hml, hown, hts, hr, hlocks, hin⟩ := hC
  have km2 : (-2 : Int32).toInt = -2 := by decide
  have k0 : (0 : Int32).toInt = 0 := by decide
  have hl : lv_has ls 3 [(0, .ref (ad (0))), (1, .int (a0)), (2, .int (a1))] := hl
  refine lv_aload_n hx hb dX9_mirrors_0 rfl (lv_at hl 0 rfl) ?_
  refine m_getr (0) 0 (100) hx hb hts hown hE oc9 hM (hG.1 0 (by decide)) rfl (by decide) rfl (hG.2 (0, 0, 100) (by decide)) (by decide) tb_398 dX9_mirrors_1 ?_
  refine lv_iload_n hx hb dX9_mirrors_4 rfl (lv_at hl 1 rfl) ?_
  refine m_calli (m_runV (100) (As := [.int (a0)]) (rest := []) hx hb hml hown hts hE hM hS hA ce_X8_hasMirror tb_508 (C_X8_hasMirror l D A ad ns I L G (100) (a0) hG.t0) rfl rfl ⟨Nat.le_of_ble_eq_true rfl, Nat.le_of_ble_eq_true rfl⟩ (hG.1 100 (by decide)) rfl rfl (by decide) rfl hl.1 rfl (Nat.le_of_ble_eq_true rfl) dX9_mirrors_5 ⟨Nat.le_of_ble_eq_true rfl, Nat.le_of_ble_eq_true rfl⟩) hS (fun r1 u H locs hw hM hS => ?_)
  obtain ⟨rfl, b_r1⟩ := hw
  have hM : Mem D A ad ns I L G H := hM
  obtain rfl : r1 = 0 := b_r1.z (by rw [hI 100 8 (by decide)]; omega)
  refine lv_if_eq (tgt := 21) hx hb dX9_mirrors_8 (by decide) (fun c2 => ?_) (fun c2 => ?_)
  · have hc2 := c2
    have q2 := q_eq hc2
    refine lv_bipush (v := (-2)) hx hb dX9_mirrors_21 (by decide) ?_
    exact m_iret hx hb hr hlocks hM hS (Nat.le_of_ble_eq_true rfl) (Nat.le_of_ble_eq_true rfl) ⟨rfl, rfl⟩ dX9_mirrors_23
  · exact absurd c2 (by decide)
theorem dX9_yards_0 : decode cX9_yards 0 = .ok (.aload_n 0, 1) := by decide +kernel
theorem dX9_yards_1 : decode cX9_yards 1 = .ok (.getfield 10, 3) := by decide +kernel
theorem dX9_yards_4 : decode cX9_yards 4 = .ok (.iload_n 1, 1) := by decide +kernel
theorem dX9_yards_5 : decode cX9_yards 5 = .ok (.invokevirtual 204, 3) := by decide +kernel
theorem dX9_yards_8 : decode cX9_yards 8 = .ok (.ifCond .eq 13, 3) := by decide +kernel
theorem dX9_yards_21 : decode cX9_yards 21 = .ok (.iconst (-1), 1) := by decide +kernel
theorem dX9_yards_22 : decode cX9_yards 22 = .ok (.ireturn, 1) := by decide +kernel
theorem ce_X9_yards : CeV RX9 yX9_yards cX9_yards 3 (some .int) 2 := ⟨tb_890, tb_891, tb_1, tb_892, rfl, by decide, by decide, by decide +kernel⟩
set_option maxHeartbeats 4000000 in
set_option maxRecDepth 20000 in
theorem F_X9_yards (l : Launch) (D : va_G) (A : Nat → Prop) (ad : Nat → Nat) (ns : List Nat) (I : MI) (L : ML) (G : MG) (a0 : Int32) (a1 : Int32) (hG : SGC ns G) (hI : ∀ n k, n < 1000 → I n k = 0) : Met l yX9_yards (wd yX9_yards cX9_yards 3 (some .int)) ({ frames := 1, cells := 0, slots := 0, locals := 21 }) (va_Pc [.ref (ad 0), .int a0, .int a1] (PM D A ad ns I L G)) (va_Qi (fun r u => u = (ad, ns, I, L, G) ∧ r = -1) (BM D A) A) 0 0 A := by
  refine m_ofW (by decide) (Nat.le_of_ble_eq_true rfl) ?_
  intro p e s m below meth c ls args hC hE hM hA hS hl
  obtain ⟨hx, hb, hml, hown, hts, hr, hlocks, hin⟩ := hC
  have km1 : (-1 : Int32).toInt = -1 := by decide
  have k0 : (0 : Int32).toInt = 0 := by decide
  have hl : lv_has ls 3 [(0, .ref (ad (0))), (1, .int (a0)), (2, .int (a1))] := hl
  refine lv_aload_n hx hb dX9_yards_0 rfl (lv_at hl 0 rfl) ?_
  refine m_getr (0) 0 (100) hx hb hts hown hE oc9 hM (hG.1 0 (by decide)) rfl (by decide) rfl (hG.2 (0, 0, 100) (by decide)) (by decide) tb_398 dX9_yards_1 ?_
  refine lv_iload_n hx hb dX9_yards_4 rfl (lv_at hl 1 rfl) ?_
  refine m_calli (m_runV (100) (As := [.int (a0)]) (rest := []) hx hb hml hown hts hE hM hS hA ce_X8_hasYard tb_893 (C_X8_hasYard l D A ad ns I L G (100) (a0) hG.t0) rfl rfl ⟨Nat.le_of_ble_eq_true rfl, Nat.le_of_ble_eq_true rfl⟩ (hG.1 100 (by decide)) rfl rfl (by decide) rfl hl.1 rfl (Nat.le_of_ble_eq_true rfl) dX9_yards_5 ⟨Nat.le_of_ble_eq_true rfl, Nat.le_of_ble_eq_true rfl⟩) hS (fun r1 u H locs hw hM hS => ?_)
  obtain ⟨rfl, b_r1⟩ := hw
  have hM : Mem D A ad ns I L G H := hM
  obtain rfl : r1 = 0 := b_r1.z (by rw [hI 100 9 (by decide)]; omega)
  refine lv_if_eq (tgt := 21) hx hb dX9_yards_8 (by decide) (fun c2 => ?_) (fun c2 => ?_)
  · have hc2 := c2
    have q2 := q_eq hc2
    refine lv_iconst (v := (-1)) hx hb dX9_yards_21 (by decide) ?_
    exact m_iret hx hb hr hlocks hM hS (Nat.le_of_ble_eq_true rfl) (Nat.le_of_ble_eq_true rfl) ⟨rfl, rfl⟩ dX9_yards_22
  · exact absurd c2 (by decide)
theorem dX9_cell_0 : decode cX9_cell 0 = .ok (.aload_n 0, 1) := by decide +kernel
theorem dX9_cell_1 : decode cX9_cell 1 = .ok (.getfield 10, 3) := by decide +kernel
theorem dX9_cell_4 : decode cX9_cell 4 = .ok (.iload_n 1, 1) := by decide +kernel
theorem dX9_cell_5 : decode cX9_cell 5 = .ok (.iload_n 2, 1) := by decide +kernel
theorem dX9_cell_6 : decode cX9_cell 6 = .ok (.invokevirtual 122, 3) := by decide +kernel
theorem dX9_cell_9 : decode cX9_cell 9 = .ok (.ifCond .ne 6, 3) := by decide +kernel
theorem dX9_cell_12 : decode cX9_cell 12 = .ok (.bipush (-2), 2) := by decide +kernel
theorem dX9_cell_14 : decode cX9_cell 14 = .ok (.ireturn, 1) := by decide +kernel
theorem ce_X9_cell : CeV RX9 yX9_cell cX9_cell 5 (some .int) 3 := ⟨tb_899, tb_900, tb_1, tb_901, rfl, by decide, by decide, by decide +kernel⟩
set_option maxHeartbeats 4000000 in
set_option maxRecDepth 20000 in
theorem F_X9_cell (l : Launch) (D : va_G) (A : Nat → Prop) (ad : Nat → Nat) (ns : List Nat) (I : MI) (L : ML) (G : MG) (a0 : Int32) (a1 : Int32) (a2 : Int32) (hG : SGC ns G) (hI : ∀ n k, n < 1000 → I n k = 0) : Met l yX9_cell (wd yX9_cell cX9_cell 5 (some .int)) ({ frames := 1, cells := 0, slots := 0, locals := 22 }) (va_Pc [.ref (ad 0), .int a0, .int a1, .int a2] (PM D A ad ns I L G)) (va_Qi (fun r u => u = (ad, ns, I, L, G) ∧ r = -2) (BM D A) A) 0 0 A := by
  refine m_ofW (by decide) (Nat.le_of_ble_eq_true rfl) ?_
  intro p e s m below meth c ls args hC hE hM hA hS hl
  obtain ⟨hx, hb, hml, hown, hts, hr, hlocks, hin⟩ := hC
  have km2 : (-2 : Int32).toInt = -2 := by decide
  have k0 : (0 : Int32).toInt = 0 := by decide
  have hl : lv_has ls 5 [(0, .ref (ad (0))), (1, .int (a0)), (2, .int (a1)), (3, .int (a2))] := hl
  refine lv_aload_n hx hb dX9_cell_0 rfl (lv_at hl 0 rfl) ?_
  refine m_getr (0) 0 (100) hx hb hts hown hE oc9 hM (hG.1 0 (by decide)) rfl (by decide) rfl (hG.2 (0, 0, 100) (by decide)) (by decide) tb_398 dX9_cell_1 ?_
  refine lv_iload_n hx hb dX9_cell_4 rfl (lv_at hl 1 rfl) ?_
  refine lv_iload_n hx hb dX9_cell_5 rfl (lv_at hl 2 rfl) ?_
  refine m_calli (m_runV (100) (As := [.int (a0), .int (a1)]) (rest := []) hx hb hml hown hts hE hM hS hA ce_X8_hasCell tb_493 (C_X8_hasCell l D A ad ns I L G (100) (a0) (a1) hG.t0) rfl rfl ⟨Nat.le_of_ble_eq_true rfl, Nat.le_of_ble_eq_true rfl⟩ (hG.1 100 (by decide)) rfl rfl (by decide) rfl hl.1 rfl (Nat.le_of_ble_eq_true rfl) dX9_cell_6 ⟨Nat.le_of_ble_eq_true rfl, Nat.le_of_ble_eq_true rfl⟩) hS (fun r1 u H locs hw hM hS => ?_)
  obtain ⟨rfl, b_r1⟩ := hw
  have hM : Mem D A ad ns I L G H := hM
  obtain rfl : r1 = 0 := b_r1.z (by rw [hI 100 0 (by decide)]; omega)
  refine lv_if_ne (tgt := 15) hx hb dX9_cell_9 (by decide) (fun c2 => ?_) (fun c2 => ?_)
  · exact absurd c2 (by decide)
  · have hc2 := c2
    have q2 := q_eq hc2
    refine lv_bipush (v := (-2)) hx hb dX9_cell_12 (by decide) ?_
    exact m_iret hx hb hr hlocks hM hS (Nat.le_of_ble_eq_true rfl) (Nat.le_of_ble_eq_true rfl) ⟨rfl, rfl⟩ dX9_cell_14
theorem dX9_gets_0 : decode cX9_gets 0 = .ok (.aload_n 0, 1) := by decide +kernel
theorem dX9_gets_1 : decode cX9_gets 1 = .ok (.getfield 10, 3) := by decide +kernel
theorem dX9_gets_4 : decode cX9_gets 4 = .ok (.iload_n 1, 1) := by decide +kernel
theorem dX9_gets_5 : decode cX9_gets 5 = .ok (.invokevirtual 216, 3) := by decide +kernel
theorem dX9_gets_8 : decode cX9_gets 8 = .ok (.ifCond .eq 14, 3) := by decide +kernel
theorem dX9_gets_22 : decode cX9_gets 22 = .ok (.iconst (-1), 1) := by decide +kernel
theorem dX9_gets_23 : decode cX9_gets 23 = .ok (.ireturn, 1) := by decide +kernel
theorem ce_X9_gets : CeV RX9 yX9_gets cX9_gets 3 (some .int) 2 := ⟨tb_903, tb_904, tb_1, tb_905, rfl, by decide, by decide, by decide +kernel⟩
set_option maxHeartbeats 4000000 in
set_option maxRecDepth 20000 in
theorem F_X9_gets (l : Launch) (D : va_G) (A : Nat → Prop) (ad : Nat → Nat) (ns : List Nat) (I : MI) (L : ML) (G : MG) (a0 : Int32) (a1 : Int32) (hG : SGC ns G) (hI : ∀ n k, n < 1000 → I n k = 0) : Met l yX9_gets (wd yX9_gets cX9_gets 3 (some .int)) ({ frames := 1, cells := 0, slots := 0, locals := 21 }) (va_Pc [.ref (ad 0), .int a0, .int a1] (PM D A ad ns I L G)) (va_Qi (fun r u => u = (ad, ns, I, L, G) ∧ r = -1) (BM D A) A) 0 0 A := by
  refine m_ofW (by decide) (Nat.le_of_ble_eq_true rfl) ?_
  intro p e s m below meth c ls args hC hE hM hA hS hl
  obtain ⟨hx, hb, hml, hown, hts, hr, hlocks, hin⟩ := hC
  have km1 : (-1 : Int32).toInt = -1 := by decide
  have k0 : (0 : Int32).toInt = 0 := by decide
  have hl : lv_has ls 3 [(0, .ref (ad (0))), (1, .int (a0)), (2, .int (a1))] := hl
  refine lv_aload_n hx hb dX9_gets_0 rfl (lv_at hl 0 rfl) ?_
  refine m_getr (0) 0 (100) hx hb hts hown hE oc9 hM (hG.1 0 (by decide)) rfl (by decide) rfl (hG.2 (0, 0, 100) (by decide)) (by decide) tb_398 dX9_gets_1 ?_
  refine lv_iload_n hx hb dX9_gets_4 rfl (lv_at hl 1 rfl) ?_
  refine m_calli (m_runV (100) (As := [.int (a0)]) (rest := []) hx hb hml hown hts hE hM hS hA ce_X8_isLit tb_906 (C_X8_isLit l D A ad ns I L G (100) (a0) hG.t0 (fun h => absurd h (by rw [hI 100 0 (by decide)]; decide))) rfl rfl ⟨Nat.le_of_ble_eq_true rfl, Nat.le_of_ble_eq_true rfl⟩ (hG.1 100 (by decide)) rfl rfl (by decide) rfl hl.1 rfl (Nat.le_of_ble_eq_true rfl) dX9_gets_5 ⟨Nat.le_of_ble_eq_true rfl, Nat.le_of_ble_eq_true rfl⟩) hS (fun r1 u H locs hw hM hS => ?_)
  obtain ⟨rfl, b_r1⟩ := hw
  have hM : Mem D A ad ns I L G H := hM
  obtain rfl : r1 = 0 := b_r1.z (by rw [hI 100 0 (by decide)]; omega)
  refine lv_if_eq (tgt := 22) hx hb dX9_gets_8 (by decide) (fun c2 => ?_) (fun c2 => ?_)
  · have hc2 := c2
    have q2 := q_eq hc2
    refine lv_iconst (v := (-1)) hx hb dX9_gets_22 (by decide) ?_
    exact m_iret hx hb hr hlocks hM hS (Nat.le_of_ble_eq_true rfl) (Nat.le_of_ble_eq_true rfl) ⟨rfl, rfl⟩ dX9_gets_23
  · exact absurd c2 (by decide)
theorem dX9_light_0 : decode cX9_light 0 = .ok (.aload_n 0, 1) := by decide +kernel
theorem dX9_light_1 : decode cX9_light 1 = .ok (.getfield 10, 3) := by decide +kernel
theorem dX9_light_4 : decode cX9_light 4 = .ok (.iload_n 1, 1) := by decide +kernel
theorem dX9_light_5 : decode cX9_light 5 = .ok (.invokevirtual 216, 3) := by decide +kernel
theorem dX9_light_8 : decode cX9_light 8 = .ok (.ifCond .ne 5, 3) := by decide +kernel
theorem dX9_light_11 : decode cX9_light 11 = .ok (.iconst (-1), 1) := by decide +kernel
theorem dX9_light_12 : decode cX9_light 12 = .ok (.ireturn, 1) := by decide +kernel
theorem ce_X9_light : CeV RX9 yX9_light cX9_light 3 (some .int) 2 := ⟨tb_909, tb_910, tb_1, tb_911, rfl, by decide, by decide, by decide +kernel⟩
set_option maxHeartbeats 4000000 in
set_option maxRecDepth 20000 in
theorem F_X9_light (l : Launch) (D : va_G) (A : Nat → Prop) (ad : Nat → Nat) (ns : List Nat) (I : MI) (L : ML) (G : MG) (a0 : Int32) (a1 : Int32) (hG : SGC ns G) (hI : ∀ n k, n < 1000 → I n k = 0) : Met l yX9_light (wd yX9_light cX9_light 3 (some .int)) ({ frames := 1, cells := 0, slots := 0, locals := 21 }) (va_Pc [.ref (ad 0), .int a0, .int a1] (PM D A ad ns I L G)) (va_Qi (fun r u => u = (ad, ns, I, L, G) ∧ r = -1) (BM D A) A) 0 0 A := by
  refine m_ofW (by decide) (Nat.le_of_ble_eq_true rfl) ?_
  intro p e s m below meth c ls args hC hE hM hA hS hl
  obtain ⟨hx, hb, hml, hown, hts, hr, hlocks, hin⟩ := hC
  have km1 : (-1 : Int32).toInt = -1 := by decide
  have k0 : (0 : Int32).toInt = 0 := by decide
  have hl : lv_has ls 3 [(0, .ref (ad (0))), (1, .int (a0)), (2, .int (a1))] := hl
  refine lv_aload_n hx hb dX9_light_0 rfl (lv_at hl 0 rfl) ?_
  refine m_getr (0) 0 (100) hx hb hts hown hE oc9 hM (hG.1 0 (by decide)) rfl (by decide) rfl (hG.2 (0, 0, 100) (by decide)) (by decide) tb_398 dX9_light_1 ?_
  refine lv_iload_n hx hb dX9_light_4 rfl (lv_at hl 1 rfl) ?_
  refine m_calli (m_runV (100) (As := [.int (a0)]) (rest := []) hx hb hml hown hts hE hM hS hA ce_X8_isLit tb_906 (C_X8_isLit l D A ad ns I L G (100) (a0) hG.t0 (fun h => absurd h (by rw [hI 100 0 (by decide)]; decide))) rfl rfl ⟨Nat.le_of_ble_eq_true rfl, Nat.le_of_ble_eq_true rfl⟩ (hG.1 100 (by decide)) rfl rfl (by decide) rfl hl.1 rfl (Nat.le_of_ble_eq_true rfl) dX9_light_5 ⟨Nat.le_of_ble_eq_true rfl, Nat.le_of_ble_eq_true rfl⟩) hS (fun r1 u H locs hw hM hS => ?_)
  obtain ⟨rfl, b_r1⟩ := hw
  have hM : Mem D A ad ns I L G H := hM
  obtain rfl : r1 = 0 := b_r1.z (by rw [hI 100 0 (by decide)]; omega)
  refine lv_if_ne (tgt := 13) hx hb dX9_light_8 (by decide) (fun c2 => ?_) (fun c2 => ?_)
  · exact absurd c2 (by decide)
  · have hc2 := c2
    have q2 := q_eq hc2
    refine lv_iconst (v := (-1)) hx hb dX9_light_11 (by decide) ?_
    exact m_iret hx hb hr hlocks hM hS (Nat.le_of_ble_eq_true rfl) (Nat.le_of_ble_eq_true rfl) ⟨rfl, rfl⟩ dX9_light_12
theorem dX9_passes_0 : decode cX9_passes 0 = .ok (.aload_n 0, 1) := by decide +kernel
theorem dX9_passes_1 : decode cX9_passes 1 = .ok (.getfield 10, 3) := by decide +kernel
theorem dX9_passes_4 : decode cX9_passes 4 = .ok (.iload_n 1, 1) := by decide +kernel
theorem dX9_passes_5 : decode cX9_passes 5 = .ok (.invokevirtual 216, 3) := by decide +kernel
theorem dX9_passes_8 : decode cX9_passes 8 = .ok (.ifCond .eq 15, 3) := by decide +kernel
theorem dX9_passes_23 : decode cX9_passes 23 = .ok (.iconst (-1), 1) := by decide +kernel
theorem dX9_passes_24 : decode cX9_passes 24 = .ok (.ireturn, 1) := by decide +kernel
theorem ce_X9_passes : CeV RX9 yX9_passes cX9_passes 4 (some .int) 3 := ⟨tb_923, tb_924, tb_1, tb_925, rfl, by decide, by decide, by decide +kernel⟩
set_option maxHeartbeats 4000000 in
set_option maxRecDepth 20000 in
theorem F_X9_passes (l : Launch) (D : va_G) (A : Nat → Prop) (ad : Nat → Nat) (ns : List Nat) (I : MI) (L : ML) (G : MG) (a0 : Int32) (a1 : Int32) (a2 : Int32) (hG : SGC ns G) (hI : ∀ n k, n < 1000 → I n k = 0) : Met l yX9_passes (wd yX9_passes cX9_passes 4 (some .int)) ({ frames := 1, cells := 0, slots := 0, locals := 21 }) (va_Pc [.ref (ad 0), .int a0, .int a1, .int a2] (PM D A ad ns I L G)) (va_Qi (fun r u => u = (ad, ns, I, L, G) ∧ r = -1) (BM D A) A) 0 0 A := by
  refine m_ofW (by decide) (Nat.le_of_ble_eq_true rfl) ?_
  intro p e s m below meth c ls args hC hE hM hA hS hl
  obtain ⟨hx, hb, hml, hown, hts, hr, hlocks, hin⟩ := hC
  have km1 : (-1 : Int32).toInt = -1 := by decide
  have k0 : (0 : Int32).toInt = 0 := by decide
  have hl : lv_has ls 4 [(0, .ref (ad (0))), (1, .int (a0)), (2, .int (a1)), (3, .int (a2))] := hl
  refine lv_aload_n hx hb dX9_passes_0 rfl (lv_at hl 0 rfl) ?_
  refine m_getr (0) 0 (100) hx hb hts hown hE oc9 hM (hG.1 0 (by decide)) rfl (by decide) rfl (hG.2 (0, 0, 100) (by decide)) (by decide) tb_398 dX9_passes_1 ?_
  refine lv_iload_n hx hb dX9_passes_4 rfl (lv_at hl 1 rfl) ?_
  refine m_calli (m_runV (100) (As := [.int (a0)]) (rest := []) hx hb hml hown hts hE hM hS hA ce_X8_isLit tb_906 (C_X8_isLit l D A ad ns I L G (100) (a0) hG.t0 (fun h => absurd h (by rw [hI 100 0 (by decide)]; decide))) rfl rfl ⟨Nat.le_of_ble_eq_true rfl, Nat.le_of_ble_eq_true rfl⟩ (hG.1 100 (by decide)) rfl rfl (by decide) rfl hl.1 rfl (Nat.le_of_ble_eq_true rfl) dX9_passes_5 ⟨Nat.le_of_ble_eq_true rfl, Nat.le_of_ble_eq_true rfl⟩) hS (fun r1 u H locs hw hM hS => ?_)
  obtain ⟨rfl, b_r1⟩ := hw
  have hM : Mem D A ad ns I L G H := hM
  obtain rfl : r1 = 0 := b_r1.z (by rw [hI 100 0 (by decide)]; omega)
  refine lv_if_eq (tgt := 23) hx hb dX9_passes_8 (by decide) (fun c2 => ?_) (fun c2 => ?_)
  · have hc2 := c2
    have q2 := q_eq hc2
    refine lv_iconst (v := (-1)) hx hb dX9_passes_23 (by decide) ?_
    exact m_iret hx hb hr hlocks hM hS (Nat.le_of_ble_eq_true rfl) (Nat.le_of_ble_eq_true rfl) ⟨rfl, rfl⟩ dX9_passes_24
  · exact absurd c2 (by decide)
theorem dX9_sees_0 : decode cX9_sees 0 = .ok (.aload_n 0, 1) := by decide +kernel
theorem dX9_sees_1 : decode cX9_sees 1 = .ok (.getfield 10, 3) := by decide +kernel
theorem dX9_sees_4 : decode cX9_sees 4 = .ok (.iload_n 1, 1) := by decide +kernel
theorem dX9_sees_5 : decode cX9_sees 5 = .ok (.invokevirtual 216, 3) := by decide +kernel
theorem dX9_sees_8 : decode cX9_sees 8 = .ok (.ifCond .eq 14, 3) := by decide +kernel
theorem dX9_sees_22 : decode cX9_sees 22 = .ok (.iconst (-1), 1) := by decide +kernel
theorem dX9_sees_23 : decode cX9_sees 23 = .ok (.ireturn, 1) := by decide +kernel
theorem ce_X9_sees : CeV RX9 yX9_sees cX9_sees 6 (some .int) 2 := ⟨tb_927, tb_928, tb_1, tb_929, rfl, by decide, by decide, by decide +kernel⟩
set_option maxHeartbeats 4000000 in
set_option maxRecDepth 20000 in
theorem F_X9_sees (l : Launch) (D : va_G) (A : Nat → Prop) (ad : Nat → Nat) (ns : List Nat) (I : MI) (L : ML) (G : MG) (a0 : Int32) (a1 : Int32) (hG : SGC ns G) (hI : ∀ n k, n < 1000 → I n k = 0) : Met l yX9_sees (wd yX9_sees cX9_sees 6 (some .int)) ({ frames := 1, cells := 0, slots := 0, locals := 21 }) (va_Pc [.ref (ad 0), .int a0, .int a1] (PM D A ad ns I L G)) (va_Qi (fun r u => u = (ad, ns, I, L, G) ∧ r = -1) (BM D A) A) 0 0 A := by
  refine m_ofW (by decide) (Nat.le_of_ble_eq_true rfl) ?_
  intro p e s m below meth c ls args hC hE hM hA hS hl
  obtain ⟨hx, hb, hml, hown, hts, hr, hlocks, hin⟩ := hC
  have km1 : (-1 : Int32).toInt = -1 := by decide
  have k0 : (0 : Int32).toInt = 0 := by decide
  have hl : lv_has ls 6 [(0, .ref (ad (0))), (1, .int (a0)), (2, .int (a1))] := hl
  refine lv_aload_n hx hb dX9_sees_0 rfl (lv_at hl 0 rfl) ?_
  refine m_getr (0) 0 (100) hx hb hts hown hE oc9 hM (hG.1 0 (by decide)) rfl (by decide) rfl (hG.2 (0, 0, 100) (by decide)) (by decide) tb_398 dX9_sees_1 ?_
  refine lv_iload_n hx hb dX9_sees_4 rfl (lv_at hl 1 rfl) ?_
  refine m_calli (m_runV (100) (As := [.int (a0)]) (rest := []) hx hb hml hown hts hE hM hS hA ce_X8_isLit tb_906 (C_X8_isLit l D A ad ns I L G (100) (a0) hG.t0 (fun h => absurd h (by rw [hI 100 0 (by decide)]; decide))) rfl rfl ⟨Nat.le_of_ble_eq_true rfl, Nat.le_of_ble_eq_true rfl⟩ (hG.1 100 (by decide)) rfl rfl (by decide) rfl hl.1 rfl (Nat.le_of_ble_eq_true rfl) dX9_sees_5 ⟨Nat.le_of_ble_eq_true rfl, Nat.le_of_ble_eq_true rfl⟩) hS (fun r1 u H locs hw hM hS => ?_)
  obtain ⟨rfl, b_r1⟩ := hw
  have hM : Mem D A ad ns I L G H := hM
  obtain rfl : r1 = 0 := b_r1.z (by rw [hI 100 0 (by decide)]; omega)
  refine lv_if_eq (tgt := 22) hx hb dX9_sees_8 (by decide) (fun c2 => ?_) (fun c2 => ?_)
  · have hc2 := c2
    have q2 := q_eq hc2
    refine lv_iconst (v := (-1)) hx hb dX9_sees_22 (by decide) ?_
    exact m_iret hx hb hr hlocks hM hS (Nat.le_of_ble_eq_true rfl) (Nat.le_of_ble_eq_true rfl) ⟨rfl, rfl⟩ dX9_sees_23
  · exact absurd c2 (by decide)
theorem dX9_worth_0 : decode cX9_worth 0 = .ok (.aload_n 0, 1) := by decide +kernel
theorem dX9_worth_1 : decode cX9_worth 1 = .ok (.getfield 10, 3) := by decide +kernel
theorem dX9_worth_4 : decode cX9_worth 4 = .ok (.iload_n 1, 1) := by decide +kernel
theorem dX9_worth_5 : decode cX9_worth 5 = .ok (.invokevirtual 216, 3) := by decide +kernel
theorem dX9_worth_8 : decode cX9_worth 8 = .ok (.ifCond .eq 14, 3) := by decide +kernel
theorem dX9_worth_22 : decode cX9_worth 22 = .ok (.ldc_w 260, 3) := by decide +kernel
theorem dX9_worth_25 : decode cX9_worth 25 = .ok (.ireturn, 1) := by decide +kernel
theorem ce_X9_worth : CeV RX9 yX9_worth cX9_worth 3 (some .int) 2 := ⟨tb_932, tb_933, tb_1, tb_934, rfl, by decide, by decide, by decide +kernel⟩
set_option maxHeartbeats 4000000 in
set_option maxRecDepth 20000 in
theorem F_X9_worth (l : Launch) (D : va_G) (A : Nat → Prop) (ad : Nat → Nat) (ns : List Nat) (I : MI) (L : ML) (G : MG) (a0 : Int32) (a1 : Int32) (hG : SGC ns G) (hI : ∀ n k, n < 1000 → I n k = 0) : Met l yX9_worth (wd yX9_worth cX9_worth 3 (some .int)) ({ frames := 1, cells := 0, slots := 0, locals := 21 }) (va_Pc [.ref (ad 0), .int a0, .int a1] (PM D A ad ns I L G)) (va_Qi (fun r u => u = (ad, ns, I, L, G) ∧ r = -1000000) (BM D A) A) 0 0 A := by
  refine m_ofW (by decide) (Nat.le_of_ble_eq_true rfl) ?_
  intro p e s m below meth c ls args hC hE hM hA hS hl
  obtain ⟨hx, hb, hml, hown, hts, hr, hlocks, hin⟩ := hC
  have km1000000 : (-1000000 : Int32).toInt = -1000000 := by decide
  have k0 : (0 : Int32).toInt = 0 := by decide
  have hl : lv_has ls 3 [(0, .ref (ad (0))), (1, .int (a0)), (2, .int (a1))] := hl
  refine lv_aload_n hx hb dX9_worth_0 rfl (lv_at hl 0 rfl) ?_
  refine m_getr (0) 0 (100) hx hb hts hown hE oc9 hM (hG.1 0 (by decide)) rfl (by decide) rfl (hG.2 (0, 0, 100) (by decide)) (by decide) tb_398 dX9_worth_1 ?_
  refine lv_iload_n hx hb dX9_worth_4 rfl (lv_at hl 1 rfl) ?_
  refine m_calli (m_runV (100) (As := [.int (a0)]) (rest := []) hx hb hml hown hts hE hM hS hA ce_X8_isLit tb_906 (C_X8_isLit l D A ad ns I L G (100) (a0) hG.t0 (fun h => absurd h (by rw [hI 100 0 (by decide)]; decide))) rfl rfl ⟨Nat.le_of_ble_eq_true rfl, Nat.le_of_ble_eq_true rfl⟩ (hG.1 100 (by decide)) rfl rfl (by decide) rfl hl.1 rfl (Nat.le_of_ble_eq_true rfl) dX9_worth_5 ⟨Nat.le_of_ble_eq_true rfl, Nat.le_of_ble_eq_true rfl⟩) hS (fun r1 u H locs hw hM hS => ?_)
  obtain ⟨rfl, b_r1⟩ := hw
  have hM : Mem D A ad ns I L G H := hM
  obtain rfl : r1 = 0 := b_r1.z (by rw [hI 100 0 (by decide)]; omega)
  refine lv_if_eq (tgt := 22) hx hb dX9_worth_8 (by decide) (fun c2 => ?_) (fun c2 => ?_)
  · have hc2 := c2
    have q2 := q_eq hc2
    refine lv_ldcw (v := (-1000000)) hx hb hown (hts _ tb_935) dX9_worth_22 ?_
    exact m_iret hx hb hr hlocks hM hS (Nat.le_of_ble_eq_true rfl) (Nat.le_of_ble_eq_true rfl) ⟨rfl, rfl⟩ dX9_worth_25
  · exact absurd c2 (by decide)
theorem dX9_owned_0 : decode cX9_owned 0 = .ok (.aload_n 0, 1) := by decide +kernel
theorem dX9_owned_1 : decode cX9_owned 1 = .ok (.getfield 10, 3) := by decide +kernel
theorem dX9_owned_4 : decode cX9_owned 4 = .ok (.iload_n 1, 1) := by decide +kernel
theorem dX9_owned_5 : decode cX9_owned 5 = .ok (.invokevirtual 216, 3) := by decide +kernel
theorem dX9_owned_8 : decode cX9_owned 8 = .ok (.ifCond .eq 13, 3) := by decide +kernel
theorem dX9_owned_21 : decode cX9_owned 21 = .ok (.ldc_w 260, 3) := by decide +kernel
theorem dX9_owned_24 : decode cX9_owned 24 = .ok (.ireturn, 1) := by decide +kernel
theorem ce_X9_owned : CeV RX9 yX9_owned cX9_owned 3 (some .int) 2 := ⟨tb_949, tb_950, tb_1, tb_951, rfl, by decide, by decide, by decide +kernel⟩
set_option maxHeartbeats 4000000 in
set_option maxRecDepth 20000 in
theorem F_X9_owned (l : Launch) (D : va_G) (A : Nat → Prop) (ad : Nat → Nat) (ns : List Nat) (I : MI) (L : ML) (G : MG) (a0 : Int32) (a1 : Int32) (hG : SGC ns G) (hI : ∀ n k, n < 1000 → I n k = 0) : Met l yX9_owned (wd yX9_owned cX9_owned 3 (some .int)) ({ frames := 1, cells := 0, slots := 0, locals := 21 }) (va_Pc [.ref (ad 0), .int a0, .int a1] (PM D A ad ns I L G)) (va_Qi (fun r u => u = (ad, ns, I, L, G) ∧ r = -1000000) (BM D A) A) 0 0 A := by
  refine m_ofW (by decide) (Nat.le_of_ble_eq_true rfl) ?_
  intro p e s m below meth c ls args hC hE hM hA hS hl
  obtain ⟨hx, hb, hml, hown, hts, hr, hlocks, hin⟩ := hC
  have km1000000 : (-1000000 : Int32).toInt = -1000000 := by decide
  have k0 : (0 : Int32).toInt = 0 := by decide
  have hl : lv_has ls 3 [(0, .ref (ad (0))), (1, .int (a0)), (2, .int (a1))] := hl
  refine lv_aload_n hx hb dX9_owned_0 rfl (lv_at hl 0 rfl) ?_
  refine m_getr (0) 0 (100) hx hb hts hown hE oc9 hM (hG.1 0 (by decide)) rfl (by decide) rfl (hG.2 (0, 0, 100) (by decide)) (by decide) tb_398 dX9_owned_1 ?_
  refine lv_iload_n hx hb dX9_owned_4 rfl (lv_at hl 1 rfl) ?_
  refine m_calli (m_runV (100) (As := [.int (a0)]) (rest := []) hx hb hml hown hts hE hM hS hA ce_X8_isLit tb_906 (C_X8_isLit l D A ad ns I L G (100) (a0) hG.t0 (fun h => absurd h (by rw [hI 100 0 (by decide)]; decide))) rfl rfl ⟨Nat.le_of_ble_eq_true rfl, Nat.le_of_ble_eq_true rfl⟩ (hG.1 100 (by decide)) rfl rfl (by decide) rfl hl.1 rfl (Nat.le_of_ble_eq_true rfl) dX9_owned_5 ⟨Nat.le_of_ble_eq_true rfl, Nat.le_of_ble_eq_true rfl⟩) hS (fun r1 u H locs hw hM hS => ?_)
  obtain ⟨rfl, b_r1⟩ := hw
  have hM : Mem D A ad ns I L G H := hM
  obtain rfl : r1 = 0 := b_r1.z (by rw [hI 100 0 (by decide)]; omega)
  refine lv_if_eq (tgt := 21) hx hb dX9_owned_8 (by decide) (fun c2 => ?_) (fun c2 => ?_)
  · have hc2 := c2
    have q2 := q_eq hc2
    refine lv_ldcw (v := (-1000000)) hx hb hown (hts _ tb_935) dX9_owned_21 ?_
    exact m_iret hx hb hr hlocks hM hS (Nat.le_of_ble_eq_true rfl) (Nat.le_of_ble_eq_true rfl) ⟨rfl, rfl⟩ dX9_owned_24
  · exact absurd c2 (by decide)
theorem dX9_aim_0 : decode cX9_aim 0 = .ok (.aload_n 0, 1) := by decide +kernel
theorem dX9_aim_1 : decode cX9_aim 1 = .ok (.getfield 10, 3) := by decide +kernel
theorem dX9_aim_4 : decode cX9_aim 4 = .ok (.iload_n 1, 1) := by decide +kernel
theorem dX9_aim_5 : decode cX9_aim 5 = .ok (.invokevirtual 216, 3) := by decide +kernel
theorem dX9_aim_8 : decode cX9_aim 8 = .ok (.ifCond .eq 24, 3) := by decide +kernel
theorem dX9_aim_32 : decode cX9_aim 32 = .ok (.iconst (-1), 1) := by decide +kernel
theorem dX9_aim_33 : decode cX9_aim 33 = .ok (.ireturn, 1) := by decide +kernel
theorem ce_X9_aim : CeV RX9 yX9_aim cX9_aim 5 (some .int) 4 := ⟨tb_953, tb_954, tb_1, tb_955, rfl, by decide, by decide, by decide +kernel⟩
set_option maxHeartbeats 4000000 in
set_option maxRecDepth 20000 in
theorem F_X9_aim (l : Launch) (D : va_G) (A : Nat → Prop) (ad : Nat → Nat) (ns : List Nat) (I : MI) (L : ML) (G : MG) (a0 : Int32) (a1 : Int32) (a2 : Int32) (a3 : Int32) (hG : SGC ns G) (hI : ∀ n k, n < 1000 → I n k = 0) : Met l yX9_aim (wd yX9_aim cX9_aim 5 (some .int)) ({ frames := 1, cells := 0, slots := 0, locals := 21 }) (va_Pc [.ref (ad 0), .int a0, .int a1, .int a2, .int a3] (PM D A ad ns I L G)) (va_Qi (fun r u => u = (ad, ns, I, L, G) ∧ r = -1) (BM D A) A) 0 0 A := by
  refine m_ofW (by decide) (Nat.le_of_ble_eq_true rfl) ?_
  intro p e s m below meth c ls args hC hE hM hA hS hl
  obtain ⟨hx, hb, hml, hown, hts, hr, hlocks, hin⟩ := hC
  have km1 : (-1 : Int32).toInt = -1 := by decide
  have k0 : (0 : Int32).toInt = 0 := by decide
  have hl : lv_has ls 5 [(0, .ref (ad (0))), (1, .int (a0)), (2, .int (a1)), (3, .int (a2)), (4, .int (a3))] := hl
  refine lv_aload_n hx hb dX9_aim_0 rfl (lv_at hl 0 rfl) ?_
  refine m_getr (0) 0 (100) hx hb hts hown hE oc9 hM (hG.1 0 (by decide)) rfl (by decide) rfl (hG.2 (0, 0, 100) (by decide)) (by decide) tb_398 dX9_aim_1 ?_
  refine lv_iload_n hx hb dX9_aim_4 rfl (lv_at hl 1 rfl) ?_
  refine m_calli (m_runV (100) (As := [.int (a0)]) (rest := []) hx hb hml hown hts hE hM hS hA ce_X8_isLit tb_906 (C_X8_isLit l D A ad ns I L G (100) (a0) hG.t0 (fun h => absurd h (by rw [hI 100 0 (by decide)]; decide))) rfl rfl ⟨Nat.le_of_ble_eq_true rfl, Nat.le_of_ble_eq_true rfl⟩ (hG.1 100 (by decide)) rfl rfl (by decide) rfl hl.1 rfl (Nat.le_of_ble_eq_true rfl) dX9_aim_5 ⟨Nat.le_of_ble_eq_true rfl, Nat.le_of_ble_eq_true rfl⟩) hS (fun r1 u H locs hw hM hS => ?_)
  obtain ⟨rfl, b_r1⟩ := hw
  have hM : Mem D A ad ns I L G H := hM
  obtain rfl : r1 = 0 := b_r1.z (by rw [hI 100 0 (by decide)]; omega)
  refine lv_if_eq (tgt := 32) hx hb dX9_aim_8 (by decide) (fun c2 => ?_) (fun c2 => ?_)
  · have hc2 := c2
    have q2 := q_eq hc2
    refine lv_iconst (v := (-1)) hx hb dX9_aim_32 (by decide) ?_
    exact m_iret hx hb hr hlocks hM hS (Nat.le_of_ble_eq_true rfl) (Nat.le_of_ble_eq_true rfl) ⟨rfl, rfl⟩ dX9_aim_33
  · exact absurd c2 (by decide)
theorem dX9_fair_0 : decode cX9_fair 0 = .ok (.aload_n 0, 1) := by decide +kernel
theorem dX9_fair_1 : decode cX9_fair 1 = .ok (.getfield 10, 3) := by decide +kernel
theorem dX9_fair_4 : decode cX9_fair 4 = .ok (.iload_n 1, 1) := by decide +kernel
theorem dX9_fair_5 : decode cX9_fair 5 = .ok (.invokevirtual 216, 3) := by decide +kernel
theorem dX9_fair_8 : decode cX9_fair 8 = .ok (.ifCond .eq 22, 3) := by decide +kernel
theorem dX9_fair_30 : decode cX9_fair 30 = .ok (.iconst (-1), 1) := by decide +kernel
theorem dX9_fair_31 : decode cX9_fair 31 = .ok (.ireturn, 1) := by decide +kernel
theorem ce_X9_fair : CeV RX9 yX9_fair cX9_fair 4 (some .int) 3 := ⟨tb_1005, tb_1006, tb_1, tb_1007, rfl, by decide, by decide, by decide +kernel⟩
set_option maxHeartbeats 4000000 in
set_option maxRecDepth 20000 in
theorem F_X9_fair (l : Launch) (D : va_G) (A : Nat → Prop) (ad : Nat → Nat) (ns : List Nat) (I : MI) (L : ML) (G : MG) (a0 : Int32) (a1 : Int32) (a2 : Int32) (hG : SGC ns G) (hI : ∀ n k, n < 1000 → I n k = 0) : Met l yX9_fair (wd yX9_fair cX9_fair 4 (some .int)) ({ frames := 1, cells := 0, slots := 0, locals := 21 }) (va_Pc [.ref (ad 0), .int a0, .int a1, .int a2] (PM D A ad ns I L G)) (va_Qi (fun r u => u = (ad, ns, I, L, G) ∧ r = -1) (BM D A) A) 0 0 A := by
  refine m_ofW (by decide) (Nat.le_of_ble_eq_true rfl) ?_
  intro p e s m below meth c ls args hC hE hM hA hS hl
  obtain ⟨hx, hb, hml, hown, hts, hr, hlocks, hin⟩ := hC
  have km1 : (-1 : Int32).toInt = -1 := by decide
  have k0 : (0 : Int32).toInt = 0 := by decide
  have hl : lv_has ls 4 [(0, .ref (ad (0))), (1, .int (a0)), (2, .int (a1)), (3, .int (a2))] := hl
  refine lv_aload_n hx hb dX9_fair_0 rfl (lv_at hl 0 rfl) ?_
  refine m_getr (0) 0 (100) hx hb hts hown hE oc9 hM (hG.1 0 (by decide)) rfl (by decide) rfl (hG.2 (0, 0, 100) (by decide)) (by decide) tb_398 dX9_fair_1 ?_
  refine lv_iload_n hx hb dX9_fair_4 rfl (lv_at hl 1 rfl) ?_
  refine m_calli (m_runV (100) (As := [.int (a0)]) (rest := []) hx hb hml hown hts hE hM hS hA ce_X8_isLit tb_906 (C_X8_isLit l D A ad ns I L G (100) (a0) hG.t0 (fun h => absurd h (by rw [hI 100 0 (by decide)]; decide))) rfl rfl ⟨Nat.le_of_ble_eq_true rfl, Nat.le_of_ble_eq_true rfl⟩ (hG.1 100 (by decide)) rfl rfl (by decide) rfl hl.1 rfl (Nat.le_of_ble_eq_true rfl) dX9_fair_5 ⟨Nat.le_of_ble_eq_true rfl, Nat.le_of_ble_eq_true rfl⟩) hS (fun r1 u H locs hw hM hS => ?_)
  obtain ⟨rfl, b_r1⟩ := hw
  have hM : Mem D A ad ns I L G H := hM
  obtain rfl : r1 = 0 := b_r1.z (by rw [hI 100 0 (by decide)]; omega)
  refine lv_if_eq (tgt := 30) hx hb dX9_fair_8 (by decide) (fun c2 => ?_) (fun c2 => ?_)
  · have hc2 := c2
    have q2 := q_eq hc2
    refine lv_iconst (v := (-1)) hx hb dX9_fair_30 (by decide) ?_
    exact m_iret hx hb hr hlocks hM hS (Nat.le_of_ble_eq_true rfl) (Nat.le_of_ble_eq_true rfl) ⟨rfl, rfl⟩ dX9_fair_31
  · exact absurd c2 (by decide)
theorem dX9_mends_0 : decode cX9_mends 0 = .ok (.aload_n 0, 1) := by decide +kernel
theorem dX9_mends_1 : decode cX9_mends 1 = .ok (.getfield 10, 3) := by decide +kernel
theorem dX9_mends_4 : decode cX9_mends 4 = .ok (.iload_n 1, 1) := by decide +kernel
theorem dX9_mends_5 : decode cX9_mends 5 = .ok (.invokevirtual 216, 3) := by decide +kernel
theorem dX9_mends_8 : decode cX9_mends 8 = .ok (.ifCond .eq 23, 3) := by decide +kernel
theorem dX9_mends_31 : decode cX9_mends 31 = .ok (.iconst (-1), 1) := by decide +kernel
theorem dX9_mends_32 : decode cX9_mends 32 = .ok (.ireturn, 1) := by decide +kernel
theorem ce_X9_mends : CeV RX9 yX9_mends cX9_mends 4 (some .int) 3 := ⟨tb_1009, tb_1010, tb_1, tb_1011, rfl, by decide, by decide, by decide +kernel⟩
set_option maxHeartbeats 4000000 in
set_option maxRecDepth 20000 in
theorem F_X9_mends (l : Launch) (D : va_G) (A : Nat → Prop) (ad : Nat → Nat) (ns : List Nat) (I : MI) (L : ML) (G : MG) (a0 : Int32) (a1 : Int32) (a2 : Int32) (hG : SGC ns G) (hI : ∀ n k, n < 1000 → I n k = 0) : Met l yX9_mends (wd yX9_mends cX9_mends 4 (some .int)) ({ frames := 1, cells := 0, slots := 0, locals := 21 }) (va_Pc [.ref (ad 0), .int a0, .int a1, .int a2] (PM D A ad ns I L G)) (va_Qi (fun r u => u = (ad, ns, I, L, G) ∧ r = -1) (BM D A) A) 0 0 A := by
  refine m_ofW (by decide) (Nat.le_of_ble_eq_true rfl) ?_
  intro p e s m below meth c ls args hC hE hM hA hS hl
  obtain ⟨hx, hb, hml, hown, hts, hr, hlocks, hin⟩ := hC
  have km1 : (-1 : Int32).toInt = -1 := by decide
  have k0 : (0 : Int32).toInt = 0 := by decide
  have hl : lv_has ls 4 [(0, .ref (ad (0))), (1, .int (a0)), (2, .int (a1)), (3, .int (a2))] := hl
  refine lv_aload_n hx hb dX9_mends_0 rfl (lv_at hl 0 rfl) ?_
  refine m_getr (0) 0 (100) hx hb hts hown hE oc9 hM (hG.1 0 (by decide)) rfl (by decide) rfl (hG.2 (0, 0, 100) (by decide)) (by decide) tb_398 dX9_mends_1 ?_
  refine lv_iload_n hx hb dX9_mends_4 rfl (lv_at hl 1 rfl) ?_
  refine m_calli (m_runV (100) (As := [.int (a0)]) (rest := []) hx hb hml hown hts hE hM hS hA ce_X8_isLit tb_906 (C_X8_isLit l D A ad ns I L G (100) (a0) hG.t0 (fun h => absurd h (by rw [hI 100 0 (by decide)]; decide))) rfl rfl ⟨Nat.le_of_ble_eq_true rfl, Nat.le_of_ble_eq_true rfl⟩ (hG.1 100 (by decide)) rfl rfl (by decide) rfl hl.1 rfl (Nat.le_of_ble_eq_true rfl) dX9_mends_5 ⟨Nat.le_of_ble_eq_true rfl, Nat.le_of_ble_eq_true rfl⟩) hS (fun r1 u H locs hw hM hS => ?_)
  obtain ⟨rfl, b_r1⟩ := hw
  have hM : Mem D A ad ns I L G H := hM
  obtain rfl : r1 = 0 := b_r1.z (by rw [hI 100 0 (by decide)]; omega)
  refine lv_if_eq (tgt := 31) hx hb dX9_mends_8 (by decide) (fun c2 => ?_) (fun c2 => ?_)
  · have hc2 := c2
    have q2 := q_eq hc2
    refine lv_iconst (v := (-1)) hx hb dX9_mends_31 (by decide) ?_
    exact m_iret hx hb hr hlocks hM hS (Nat.le_of_ble_eq_true rfl) (Nat.le_of_ble_eq_true rfl) ⟨rfl, rfl⟩ dX9_mends_32
  · exact absurd c2 (by decide)
theorem dX9_second_0 : decode cX9_second 0 = .ok (.aload_n 0, 1) := by decide +kernel
theorem dX9_second_1 : decode cX9_second 1 = .ok (.getfield 10, 3) := by decide +kernel
theorem dX9_second_4 : decode cX9_second 4 = .ok (.iload_n 1, 1) := by decide +kernel
theorem dX9_second_5 : decode cX9_second 5 = .ok (.invokevirtual 216, 3) := by decide +kernel
theorem dX9_second_8 : decode cX9_second 8 = .ok (.ifCond .eq 12, 3) := by decide +kernel
theorem dX9_second_20 : decode cX9_second 20 = .ok (.iconst (-1), 1) := by decide +kernel
theorem dX9_second_21 : decode cX9_second 21 = .ok (.ireturn, 1) := by decide +kernel
theorem ce_X9_second : CeV RX9 yX9_second cX9_second 3 (some .int) 2 := ⟨tb_1060, tb_1061, tb_1, tb_1062, rfl, by decide, by decide, by decide +kernel⟩
set_option maxHeartbeats 4000000 in
set_option maxRecDepth 20000 in
theorem F_X9_second (l : Launch) (D : va_G) (A : Nat → Prop) (ad : Nat → Nat) (ns : List Nat) (I : MI) (L : ML) (G : MG) (a0 : Int32) (a1 : Int32) (hG : SGC ns G) (hI : ∀ n k, n < 1000 → I n k = 0) : Met l yX9_second (wd yX9_second cX9_second 3 (some .int)) ({ frames := 1, cells := 0, slots := 0, locals := 21 }) (va_Pc [.ref (ad 0), .int a0, .int a1] (PM D A ad ns I L G)) (va_Qi (fun r u => u = (ad, ns, I, L, G) ∧ r = -1) (BM D A) A) 0 0 A := by
  refine m_ofW (by decide) (Nat.le_of_ble_eq_true rfl) ?_
  intro p e s m below meth c ls args hC hE hM hA hS hl
  obtain ⟨hx, hb, hml, hown, hts, hr, hlocks, hin⟩ := hC
  have km1 : (-1 : Int32).toInt = -1 := by decide
  have k0 : (0 : Int32).toInt = 0 := by decide
  have hl : lv_has ls 3 [(0, .ref (ad (0))), (1, .int (a0)), (2, .int (a1))] := hl
  refine lv_aload_n hx hb dX9_second_0 rfl (lv_at hl 0 rfl) ?_
  refine m_getr (0) 0 (100) hx hb hts hown hE oc9 hM (hG.1 0 (by decide)) rfl (by decide) rfl (hG.2 (0, 0, 100) (by decide)) (by decide) tb_398 dX9_second_1 ?_
  refine lv_iload_n hx hb dX9_second_4 rfl (lv_at hl 1 rfl) ?_
  refine m_calli (m_runV (100) (As := [.int (a0)]) (rest := []) hx hb hml hown hts hE hM hS hA ce_X8_isLit tb_906 (C_X8_isLit l D A ad ns I L G (100) (a0) hG.t0 (fun h => absurd h (by rw [hI 100 0 (by decide)]; decide))) rfl rfl ⟨Nat.le_of_ble_eq_true rfl, Nat.le_of_ble_eq_true rfl⟩ (hG.1 100 (by decide)) rfl rfl (by decide) rfl hl.1 rfl (Nat.le_of_ble_eq_true rfl) dX9_second_5 ⟨Nat.le_of_ble_eq_true rfl, Nat.le_of_ble_eq_true rfl⟩) hS (fun r1 u H locs hw hM hS => ?_)
  obtain ⟨rfl, b_r1⟩ := hw
  have hM : Mem D A ad ns I L G H := hM
  obtain rfl : r1 = 0 := b_r1.z (by rw [hI 100 0 (by decide)]; omega)
  refine lv_if_eq (tgt := 20) hx hb dX9_second_8 (by decide) (fun c2 => ?_) (fun c2 => ?_)
  · have hc2 := c2
    have q2 := q_eq hc2
    refine lv_iconst (v := (-1)) hx hb dX9_second_20 (by decide) ?_
    exact m_iret hx hb hr hlocks hM hS (Nat.le_of_ble_eq_true rfl) (Nat.le_of_ble_eq_true rfl) ⟨rfl, rfl⟩ dX9_second_21
  · exact absurd c2 (by decide)
theorem dX9_thief_0 : decode cX9_thief 0 = .ok (.aload_n 0, 1) := by decide +kernel
theorem dX9_thief_1 : decode cX9_thief 1 = .ok (.getfield 10, 3) := by decide +kernel
theorem dX9_thief_4 : decode cX9_thief 4 = .ok (.iload_n 1, 1) := by decide +kernel
theorem dX9_thief_5 : decode cX9_thief 5 = .ok (.invokevirtual 216, 3) := by decide +kernel
theorem dX9_thief_8 : decode cX9_thief 8 = .ok (.ifCond .eq 12, 3) := by decide +kernel
theorem dX9_thief_20 : decode cX9_thief 20 = .ok (.iconst (-1), 1) := by decide +kernel
theorem dX9_thief_21 : decode cX9_thief 21 = .ok (.ireturn, 1) := by decide +kernel
theorem ce_X9_thief : CeV RX9 yX9_thief cX9_thief 3 (some .int) 2 := ⟨tb_1087, tb_1088, tb_1, tb_1089, rfl, by decide, by decide, by decide +kernel⟩
set_option maxHeartbeats 4000000 in
set_option maxRecDepth 20000 in
theorem F_X9_thief (l : Launch) (D : va_G) (A : Nat → Prop) (ad : Nat → Nat) (ns : List Nat) (I : MI) (L : ML) (G : MG) (a0 : Int32) (a1 : Int32) (hG : SGC ns G) (hI : ∀ n k, n < 1000 → I n k = 0) : Met l yX9_thief (wd yX9_thief cX9_thief 3 (some .int)) ({ frames := 1, cells := 0, slots := 0, locals := 21 }) (va_Pc [.ref (ad 0), .int a0, .int a1] (PM D A ad ns I L G)) (va_Qi (fun r u => u = (ad, ns, I, L, G) ∧ r = -1) (BM D A) A) 0 0 A := by
  refine m_ofW (by decide) (Nat.le_of_ble_eq_true rfl) ?_
  intro p e s m below meth c ls args hC hE hM hA hS hl
  obtain ⟨hx, hb, hml, hown, hts, hr, hlocks, hin⟩ := hC
  have km1 : (-1 : Int32).toInt = -1 := by decide
  have k0 : (0 : Int32).toInt = 0 := by decide
  have hl : lv_has ls 3 [(0, .ref (ad (0))), (1, .int (a0)), (2, .int (a1))] := hl
  refine lv_aload_n hx hb dX9_thief_0 rfl (lv_at hl 0 rfl) ?_
  refine m_getr (0) 0 (100) hx hb hts hown hE oc9 hM (hG.1 0 (by decide)) rfl (by decide) rfl (hG.2 (0, 0, 100) (by decide)) (by decide) tb_398 dX9_thief_1 ?_
  refine lv_iload_n hx hb dX9_thief_4 rfl (lv_at hl 1 rfl) ?_
  refine m_calli (m_runV (100) (As := [.int (a0)]) (rest := []) hx hb hml hown hts hE hM hS hA ce_X8_isLit tb_906 (C_X8_isLit l D A ad ns I L G (100) (a0) hG.t0 (fun h => absurd h (by rw [hI 100 0 (by decide)]; decide))) rfl rfl ⟨Nat.le_of_ble_eq_true rfl, Nat.le_of_ble_eq_true rfl⟩ (hG.1 100 (by decide)) rfl rfl (by decide) rfl hl.1 rfl (Nat.le_of_ble_eq_true rfl) dX9_thief_5 ⟨Nat.le_of_ble_eq_true rfl, Nat.le_of_ble_eq_true rfl⟩) hS (fun r1 u H locs hw hM hS => ?_)
  obtain ⟨rfl, b_r1⟩ := hw
  have hM : Mem D A ad ns I L G H := hM
  obtain rfl : r1 = 0 := b_r1.z (by rw [hI 100 0 (by decide)]; omega)
  refine lv_if_eq (tgt := 20) hx hb dX9_thief_8 (by decide) (fun c2 => ?_) (fun c2 => ?_)
  · have hc2 := c2
    have q2 := q_eq hc2
    refine lv_iconst (v := (-1)) hx hb dX9_thief_20 (by decide) ?_
    exact m_iret hx hb hr hlocks hM hS (Nat.le_of_ble_eq_true rfl) (Nat.le_of_ble_eq_true rfl) ⟨rfl, rfl⟩ dX9_thief_21
  · exact absurd c2 (by decide)
theorem dX9_dusty_0 : decode cX9_dusty 0 = .ok (.aload_n 0, 1) := by decide +kernel
theorem dX9_dusty_1 : decode cX9_dusty 1 = .ok (.getfield 10, 3) := by decide +kernel
theorem dX9_dusty_4 : decode cX9_dusty 4 = .ok (.iload_n 1, 1) := by decide +kernel
theorem dX9_dusty_5 : decode cX9_dusty 5 = .ok (.invokevirtual 216, 3) := by decide +kernel
theorem dX9_dusty_8 : decode cX9_dusty 8 = .ok (.ifCond .eq 36, 3) := by decide +kernel
theorem dX9_dusty_44 : decode cX9_dusty 44 = .ok (.iconst (-1), 1) := by decide +kernel
theorem dX9_dusty_45 : decode cX9_dusty 45 = .ok (.ireturn, 1) := by decide +kernel
theorem ce_X9_dusty : CeV RX9 yX9_dusty cX9_dusty 7 (some .int) 4 := ⟨tb_1123, tb_1124, tb_1, tb_1125, rfl, by decide, by decide, by decide +kernel⟩
set_option maxHeartbeats 4000000 in
set_option maxRecDepth 20000 in
theorem F_X9_dusty (l : Launch) (D : va_G) (A : Nat → Prop) (ad : Nat → Nat) (ns : List Nat) (I : MI) (L : ML) (G : MG) (a0 : Int32) (a1 : Int32) (a2 : Int32) (a3 : Int32) (hG : SGC ns G) (hI : ∀ n k, n < 1000 → I n k = 0) : Met l yX9_dusty (wd yX9_dusty cX9_dusty 7 (some .int)) ({ frames := 1, cells := 0, slots := 0, locals := 21 }) (va_Pc [.ref (ad 0), .int a0, .int a1, .int a2, .int a3] (PM D A ad ns I L G)) (va_Qi (fun r u => u = (ad, ns, I, L, G) ∧ r = -1) (BM D A) A) 0 0 A := by
  refine m_ofW (by decide) (Nat.le_of_ble_eq_true rfl) ?_
  intro p e s m below meth c ls args hC hE hM hA hS hl
  obtain ⟨hx, hb, hml, hown, hts, hr, hlocks, hin⟩ := hC
  have km1 : (-1 : Int32).toInt = -1 := by decide
  have k0 : (0 : Int32).toInt = 0 := by decide
  have hl : lv_has ls 7 [(0, .ref (ad (0))), (1, .int (a0)), (2, .int (a1)), (3, .int (a2)), (4, .int (a3))] := hl
  refine lv_aload_n hx hb dX9_dusty_0 rfl (lv_at hl 0 rfl) ?_
  refine m_getr (0) 0 (100) hx hb hts hown hE oc9 hM (hG.1 0 (by decide)) rfl (by decide) rfl (hG.2 (0, 0, 100) (by decide)) (by decide) tb_398 dX9_dusty_1 ?_
  refine lv_iload_n hx hb dX9_dusty_4 rfl (lv_at hl 1 rfl) ?_
  refine m_calli (m_runV (100) (As := [.int (a0)]) (rest := []) hx hb hml hown hts hE hM hS hA ce_X8_isLit tb_906 (C_X8_isLit l D A ad ns I L G (100) (a0) hG.t0 (fun h => absurd h (by rw [hI 100 0 (by decide)]; decide))) rfl rfl ⟨Nat.le_of_ble_eq_true rfl, Nat.le_of_ble_eq_true rfl⟩ (hG.1 100 (by decide)) rfl rfl (by decide) rfl hl.1 rfl (Nat.le_of_ble_eq_true rfl) dX9_dusty_5 ⟨Nat.le_of_ble_eq_true rfl, Nat.le_of_ble_eq_true rfl⟩) hS (fun r1 u H locs hw hM hS => ?_)
  obtain ⟨rfl, b_r1⟩ := hw
  have hM : Mem D A ad ns I L G H := hM
  obtain rfl : r1 = 0 := b_r1.z (by rw [hI 100 0 (by decide)]; omega)
  refine lv_if_eq (tgt := 44) hx hb dX9_dusty_8 (by decide) (fun c2 => ?_) (fun c2 => ?_)
  · have hc2 := c2
    have q2 := q_eq hc2
    refine lv_iconst (v := (-1)) hx hb dX9_dusty_44 (by decide) ?_
    exact m_iret hx hb hr hlocks hM hS (Nat.le_of_ble_eq_true rfl) (Nat.le_of_ble_eq_true rfl) ⟨rfl, rfl⟩ dX9_dusty_45
  · exact absurd c2 (by decide)
theorem dX9_dark_0 : decode cX9_dark 0 = .ok (.aload_n 0, 1) := by decide +kernel
theorem dX9_dark_1 : decode cX9_dark 1 = .ok (.iload_n 1, 1) := by decide +kernel
theorem dX9_dark_2 : decode cX9_dark 2 = .ok (.invokevirtual 186, 3) := by decide +kernel
theorem dX9_dark_5 : decode cX9_dark 5 = .ok (.astore 4, 2) := by decide +kernel
theorem dX9_dark_7 : decode cX9_dark 7 = .ok (.aload 4, 2) := by decide +kernel
theorem dX9_dark_9 : decode cX9_dark 9 = .ok (.ifnull 18, 3) := by decide +kernel
theorem dX9_dark_27 : decode cX9_dark 27 = .ok (.iconst (-1), 1) := by decide +kernel
theorem dX9_dark_28 : decode cX9_dark 28 = .ok (.ireturn, 1) := by decide +kernel
theorem ce_X9_dark : CeV RX9 yX9_dark cX9_dark 7 (some .int) 3 := ⟨tb_1144, tb_1145, tb_1, tb_1146, rfl, by decide, by decide, by decide +kernel⟩
set_option maxHeartbeats 4000000 in
set_option maxRecDepth 20000 in
theorem F_X9_dark (l : Launch) (D : va_G) (A : Nat → Prop) (ad : Nat → Nat) (ns : List Nat) (I : MI) (L : ML) (G : MG) (a0 : Int32) (a1 : Int32) (a2 : Int32) (hG : SGC ns G) (hI : ∀ n k, n < 1000 → I n k = 0) : Met l yX9_dark (wd yX9_dark cX9_dark 7 (some .int)) ({ frames := 2, cells := 0, slots := 0, locals := 43 }) (va_Pc [.ref (ad 0), .int a0, .int a1, .int a2] (PM D A ad ns I L G)) (va_Qi (fun r u => u = (ad, ns, I, L, G) ∧ r = -1) (BM D A) A) 0 0 A := by
  refine m_ofW (by decide) (Nat.le_of_ble_eq_true rfl) ?_
  intro p e s m below meth c ls args hC hE hM hA hS hl
  obtain ⟨hx, hb, hml, hown, hts, hr, hlocks, hin⟩ := hC
  have km1 : (-1 : Int32).toInt = -1 := by decide
  have k0 : (0 : Int32).toInt = 0 := by decide
  have hl : lv_has ls 7 [(0, .ref (ad (0))), (1, .int (a0)), (2, .int (a1)), (3, .int (a2))] := hl
  refine lv_aload_n hx hb dX9_dark_0 rfl (lv_at hl 0 rfl) ?_
  refine lv_iload_n hx hb dX9_dark_1 rfl (lv_at hl 1 rfl) ?_
  refine m_callq (m_runV (0) (As := [.int (a0)]) (rest := []) hx hb hml hown hts hE hM hS hA ce_X9_findLaw tb_740 (C_X9_findLaw l D A ad ns I L G (a0) hG (by rw [hI 0 14 (by decide)]; decide)) rfl rfl ⟨Nat.le_of_ble_eq_true rfl, Nat.le_of_ble_eq_true rfl⟩ (hG.1 0 (by decide)) rfl rfl (by decide) rfl hl.1 rfl (Nat.le_of_ble_eq_true rfl) dX9_dark_2 ⟨Nat.le_of_ble_eq_true rfl, Nat.le_of_ble_eq_true rfl⟩) hS (fun r1 u H locs hw hM hS => ?_)
  obtain ⟨rfl, b_r1⟩ := hw
  have hM : Mem D A ad ns I L G H := hM
  obtain rfl : r1 = none := by
    rcases b_r1 with ⟨h1, h2, -⟩ | ⟨-, h⟩
    · rw [hI 0 14 (by decide)] at h2
      omega
    · exact h
  refine lv_astoreN (lv' := [(4, .null), (0, .ref (ad (0))), (1, .int (a0)), (2, .int (a1)), (3, .int (a2))]) hx hb dX9_dark_5 hl (by decide) rfl (fun ls hl => ?_)
  refine lv_aloadN hx hb dX9_dark_7 (lv_at hl 0 rfl) ?_
  refine lv_ifnullN (tgt := 27) hx hb dX9_dark_9 (by decide) ?_
  refine lv_iconst (v := (-1)) hx hb dX9_dark_27 (by decide) ?_
  exact m_iret hx hb hr hlocks hM hS (Nat.le_of_ble_eq_true rfl) (Nat.le_of_ble_eq_true rfl) ⟨rfl, rfl⟩ dX9_dark_28
theorem dX9_ahead_0 : decode cX9_ahead 0 = .ok (.aload_n 0, 1) := by decide +kernel
theorem dX9_ahead_1 : decode cX9_ahead 1 = .ok (.iload_n 1, 1) := by decide +kernel
theorem dX9_ahead_2 : decode cX9_ahead 2 = .ok (.invokevirtual 186, 3) := by decide +kernel
theorem dX9_ahead_5 : decode cX9_ahead 5 = .ok (.astore 4, 2) := by decide +kernel
theorem dX9_ahead_7 : decode cX9_ahead 7 = .ok (.aload 4, 2) := by decide +kernel
theorem dX9_ahead_9 : decode cX9_ahead 9 = .ok (.ifnull 23, 3) := by decide +kernel
theorem dX9_ahead_32 : decode cX9_ahead 32 = .ok (.bipush (-3), 2) := by decide +kernel
theorem dX9_ahead_34 : decode cX9_ahead 34 = .ok (.ireturn, 1) := by decide +kernel
theorem ce_X9_ahead : CeV RX9 yX9_ahead cX9_ahead 7 (some .int) 3 := ⟨tb_1153, tb_1154, tb_1, tb_1155, rfl, by decide, by decide, by decide +kernel⟩
set_option maxHeartbeats 4000000 in
set_option maxRecDepth 20000 in
theorem F_X9_ahead (l : Launch) (D : va_G) (A : Nat → Prop) (ad : Nat → Nat) (ns : List Nat) (I : MI) (L : ML) (G : MG) (a0 : Int32) (a1 : Int32) (a2 : Int32) (hG : SGC ns G) (hI : ∀ n k, n < 1000 → I n k = 0) : Met l yX9_ahead (wd yX9_ahead cX9_ahead 7 (some .int)) ({ frames := 2, cells := 0, slots := 0, locals := 43 }) (va_Pc [.ref (ad 0), .int a0, .int a1, .int a2] (PM D A ad ns I L G)) (va_Qi (fun r u => u = (ad, ns, I, L, G) ∧ r = -3) (BM D A) A) 0 0 A := by
  refine m_ofW (by decide) (Nat.le_of_ble_eq_true rfl) ?_
  intro p e s m below meth c ls args hC hE hM hA hS hl
  obtain ⟨hx, hb, hml, hown, hts, hr, hlocks, hin⟩ := hC
  have km3 : (-3 : Int32).toInt = -3 := by decide
  have k0 : (0 : Int32).toInt = 0 := by decide
  have hl : lv_has ls 7 [(0, .ref (ad (0))), (1, .int (a0)), (2, .int (a1)), (3, .int (a2))] := hl
  refine lv_aload_n hx hb dX9_ahead_0 rfl (lv_at hl 0 rfl) ?_
  refine lv_iload_n hx hb dX9_ahead_1 rfl (lv_at hl 1 rfl) ?_
  refine m_callq (m_runV (0) (As := [.int (a0)]) (rest := []) hx hb hml hown hts hE hM hS hA ce_X9_findLaw tb_740 (C_X9_findLaw l D A ad ns I L G (a0) hG (by rw [hI 0 14 (by decide)]; decide)) rfl rfl ⟨Nat.le_of_ble_eq_true rfl, Nat.le_of_ble_eq_true rfl⟩ (hG.1 0 (by decide)) rfl rfl (by decide) rfl hl.1 rfl (Nat.le_of_ble_eq_true rfl) dX9_ahead_2 ⟨Nat.le_of_ble_eq_true rfl, Nat.le_of_ble_eq_true rfl⟩) hS (fun r1 u H locs hw hM hS => ?_)
  obtain ⟨rfl, b_r1⟩ := hw
  have hM : Mem D A ad ns I L G H := hM
  obtain rfl : r1 = none := by
    rcases b_r1 with ⟨h1, h2, -⟩ | ⟨-, h⟩
    · rw [hI 0 14 (by decide)] at h2
      omega
    · exact h
  refine lv_astoreN (lv' := [(4, .null), (0, .ref (ad (0))), (1, .int (a0)), (2, .int (a1)), (3, .int (a2))]) hx hb dX9_ahead_5 hl (by decide) rfl (fun ls hl => ?_)
  refine lv_aloadN hx hb dX9_ahead_7 (lv_at hl 0 rfl) ?_
  refine lv_ifnullN (tgt := 32) hx hb dX9_ahead_9 (by decide) ?_
  refine lv_bipush (v := (-3)) hx hb dX9_ahead_32 (by decide) ?_
  exact m_iret hx hb hr hlocks hM hS (Nat.le_of_ble_eq_true rfl) (Nat.le_of_ble_eq_true rfl) ⟨rfl, rfl⟩ dX9_ahead_34
theorem dX9_image_0 : decode cX9_image 0 = .ok (.iload_n 1, 1) := by decide +kernel
theorem dX9_image_1 : decode cX9_image 1 = .ok (.iconst 0, 1) := by decide +kernel
theorem dX9_image_2 : decode cX9_image 2 = .ok (.iconst 3, 1) := by decide +kernel
theorem dX9_image_3 : decode cX9_image 3 = .ok (.invokestatic 95, 3) := by decide +kernel
theorem dX9_image_6 : decode cX9_image 6 = .ok (.ifCond .eq 13, 3) := by decide +kernel
theorem dX9_image_9 : decode cX9_image 9 = .ok (.aload_n 0, 1) := by decide +kernel
theorem dX9_image_10 : decode cX9_image 10 = .ok (.getfield 10, 3) := by decide +kernel
theorem dX9_image_13 : decode cX9_image 13 = .ok (.invokevirtual 111, 3) := by decide +kernel
theorem dX9_image_16 : decode cX9_image 16 = .ok (.ifCond .ne 5, 3) := by decide +kernel
theorem dX9_image_19 : decode cX9_image 19 = .ok (.iconst (-1), 1) := by decide +kernel
theorem dX9_image_20 : decode cX9_image 20 = .ok (.ireturn, 1) := by decide +kernel
theorem ce_X9_image : CeV RX9 yX9_image cX9_image 3 (some .int) 1 := ⟨tb_1165, tb_1166, tb_1, tb_1167, rfl, by decide, by decide, by decide +kernel⟩
set_option maxHeartbeats 4000000 in
set_option maxRecDepth 20000 in
theorem F_X9_image (l : Launch) (D : va_G) (A : Nat → Prop) (ad : Nat → Nat) (ns : List Nat) (I : MI) (L : ML) (G : MG) (a0 : Int32) (hG : SGC ns G) (hI : ∀ n k, n < 1000 → I n k = 0) : Met l yX9_image (wd yX9_image cX9_image 3 (some .int)) ({ frames := 1, cells := 0, slots := 0, locals := 22 }) (va_Pc [.ref (ad 0), .int a0] (PM D A ad ns I L G)) (va_Qi (fun r u => u = (ad, ns, I, L, G) ∧ r = -1) (BM D A) A) 0 0 A := by
  refine m_ofW (by decide) (Nat.le_of_ble_eq_true rfl) ?_
  intro p e s m below meth c ls args hC hE hM hA hS hl
  obtain ⟨hx, hb, hml, hown, hts, hr, hlocks, hin⟩ := hC
  have km1 : (-1 : Int32).toInt = -1 := by decide
  have k0 : (0 : Int32).toInt = 0 := by decide
  have k3 : (3 : Int32).toInt = 3 := by decide
  have hl : lv_has ls 3 [(0, .ref (ad (0))), (1, .int (a0))] := hl
  refine lv_iload_n hx hb dX9_image_0 rfl (lv_at hl 1 rfl) ?_
  refine lv_iconst (v := (0)) hx hb dX9_image_1 (by decide) ?_
  refine lv_iconst (v := (3)) hx hb dX9_image_2 (by decide) ?_
  refine m_calli (m_runS (As := [.int (a0), .int (0), .int (3)]) (rest := []) hx hb hml hown hts hE hM hS hA ce_X9_isWithin tb_451 (C_X9_isWithin l D A ad ns I L G (a0) (0) (3)) rfl rfl ⟨Nat.le_of_ble_eq_true rfl, Nat.le_of_ble_eq_true rfl⟩  rfl hl.1 rfl (Nat.le_of_ble_eq_true rfl) dX9_image_3 ⟨Nat.le_of_ble_eq_true rfl, Nat.le_of_ble_eq_true rfl⟩) hS (fun r1 u H locs hw hM hS => ?_)
  obtain ⟨rfl, b_r1⟩ := hw
  have hM : Mem D A ad ns I L G H := hM
  refine lv_if_eq (tgt := 19) hx hb dX9_image_6 (by decide) (fun c2 => ?_) (fun c2 => ?_)
  · have hc2 := c2
    have q2 := b_r1.f hc2
    refine lv_iconst (v := (-1)) hx hb dX9_image_19 (by decide) ?_
    exact m_iret hx hb hr hlocks hM hS (Nat.le_of_ble_eq_true rfl) (Nat.le_of_ble_eq_true rfl) ⟨rfl, rfl⟩ dX9_image_20
  · have hc2 := c2
    have q2 := b_r1.t hc2
    refine lv_aload_n hx hb dX9_image_9 rfl (lv_at hl 0 rfl) ?_
    refine m_getr (0) 0 (100) hx hb hts hown hE oc9 hM (hG.1 0 (by decide)) rfl (by decide) rfl (hG.2 (0, 0, 100) (by decide)) (by decide) tb_398 dX9_image_10 ?_
    refine m_calli (m_runV (100) (As := []) (rest := []) hx hb hml hown hts hE hM hS hA ce_X8_isBegun tb_484 (C_X8_isBegun l D A ad ns I L G (100) hG.t0) rfl rfl ⟨Nat.le_of_ble_eq_true rfl, Nat.le_of_ble_eq_true rfl⟩ (hG.1 100 (by decide)) rfl rfl (by decide) rfl hl.1 rfl (Nat.le_of_ble_eq_true rfl) dX9_image_13 ⟨Nat.le_of_ble_eq_true rfl, Nat.le_of_ble_eq_true rfl⟩) hS (fun r3 u H locs hw hM hS => ?_)
    obtain ⟨rfl, b_r3⟩ := hw
    have hM : Mem D A ad ns I L G H := hM
    obtain rfl : r3 = 0 := b_r3.z (by rw [hI 100 0 (by decide)]; omega)
    refine lv_if_ne (tgt := 21) hx hb dX9_image_16 (by decide) (fun c4 => ?_) (fun c4 => ?_)
    · exact absurd c4 (by decide)
    · have hc4 := c4
      have q4 := q_eq hc4
      refine lv_iconst (v := (-1)) hx hb dX9_image_19 (by decide) ?_
      exact m_iret hx hb hr hlocks hM hS (Nat.le_of_ble_eq_true rfl) (Nat.le_of_ble_eq_true rfl) ⟨rfl, rfl⟩ dX9_image_20
theorem dX9_back_0 : decode cX9_back 0 = .ok (.iload_n 1, 1) := by decide +kernel
theorem dX9_back_1 : decode cX9_back 1 = .ok (.iconst 0, 1) := by decide +kernel
theorem dX9_back_2 : decode cX9_back 2 = .ok (.iconst 3, 1) := by decide +kernel
theorem dX9_back_3 : decode cX9_back 3 = .ok (.invokestatic 95, 3) := by decide +kernel
theorem dX9_back_6 : decode cX9_back 6 = .ok (.ifCond .ne 5, 3) := by decide +kernel
theorem dX9_back_9 : decode cX9_back 9 = .ok (.iconst (-1), 1) := by decide +kernel
theorem dX9_back_10 : decode cX9_back 10 = .ok (.ireturn, 1) := by decide +kernel
theorem dX9_back_11 : decode cX9_back 11 = .ok (.aload_n 0, 1) := by decide +kernel
theorem dX9_back_12 : decode cX9_back 12 = .ok (.getfield 19, 3) := by decide +kernel
theorem dX9_back_15 : decode cX9_back 15 = .ok (.iload_n 1, 1) := by decide +kernel
theorem dX9_back_16 : decode cX9_back 16 = .ok (.aaload, 1) := by decide +kernel
theorem dX9_back_17 : decode cX9_back 17 = .ok (.astore_n 2, 1) := by decide +kernel
theorem dX9_back_18 : decode cX9_back 18 = .ok (.aload_n 2, 1) := by decide +kernel
theorem dX9_back_19 : decode cX9_back 19 = .ok (.ifnonnull 5, 3) := by decide +kernel
theorem dX9_back_22 : decode cX9_back 22 = .ok (.iconst (-1), 1) := by decide +kernel
theorem dX9_back_23 : decode cX9_back 23 = .ok (.ireturn, 1) := by decide +kernel
theorem ce_X9_back : CeV RX9 yX9_back cX9_back 3 (some .int) 1 := ⟨tb_1169, tb_1170, tb_1, tb_1171, rfl, by decide, by decide, by decide +kernel⟩
set_option maxHeartbeats 4000000 in
set_option maxRecDepth 20000 in
theorem F_X9_back (l : Launch) (D : va_G) (A : Nat → Prop) (ad : Nat → Nat) (ns : List Nat) (I : MI) (L : ML) (G : MG) (a0 : Int32) (hG : SGC ns G) (hI : ∀ n k, n < 1000 → I n k = 0) (hN : ∀ k, G 1 k = 0) : Met l yX9_back (wd yX9_back cX9_back 3 (some .int)) ({ frames := 1, cells := 0, slots := 0, locals := 22 }) (va_Pc [.ref (ad 0), .int a0] (PM D A ad ns I L G)) (va_Qi (fun r u => u = (ad, ns, I, L, G) ∧ r = -1) (BM D A) A) 0 0 A := by
  refine m_ofW (by decide) (Nat.le_of_ble_eq_true rfl) ?_
  intro p e s m below meth c ls args hC hE hM hA hS hl
  obtain ⟨hx, hb, hml, hown, hts, hr, hlocks, hin⟩ := hC
  have km1 : (-1 : Int32).toInt = -1 := by decide
  have k0 : (0 : Int32).toInt = 0 := by decide
  have k3 : (3 : Int32).toInt = 3 := by decide
  have hl : lv_has ls 3 [(0, .ref (ad (0))), (1, .int (a0))] := hl
  refine lv_iload_n hx hb dX9_back_0 rfl (lv_at hl 1 rfl) ?_
  refine lv_iconst (v := (0)) hx hb dX9_back_1 (by decide) ?_
  refine lv_iconst (v := (3)) hx hb dX9_back_2 (by decide) ?_
  refine m_calli (m_runS (As := [.int (a0), .int (0), .int (3)]) (rest := []) hx hb hml hown hts hE hM hS hA ce_X9_isWithin tb_451 (C_X9_isWithin l D A ad ns I L G (a0) (0) (3)) rfl rfl ⟨Nat.le_of_ble_eq_true rfl, Nat.le_of_ble_eq_true rfl⟩  rfl hl.1 rfl (Nat.le_of_ble_eq_true rfl) dX9_back_3 ⟨Nat.le_of_ble_eq_true rfl, Nat.le_of_ble_eq_true rfl⟩) hS (fun r1 u H locs hw hM hS => ?_)
  obtain ⟨rfl, b_r1⟩ := hw
  have hM : Mem D A ad ns I L G H := hM
  refine lv_if_ne (tgt := 11) hx hb dX9_back_6 (by decide) (fun c2 => ?_) (fun c2 => ?_)
  · have hc2 := c2
    have q2 := b_r1.t hc2
    refine lv_aload_n hx hb dX9_back_11 rfl (lv_at hl 0 rfl) ?_
    refine m_getr (0) 2 (1) hx hb hts hown hE oc9 hM (hG.1 0 (by decide)) rfl (by decide) rfl (hG.2 (0, 2, 1) (by decide)) (by decide) tb_400 dX9_back_12 ?_
    refine lv_iload_n hx hb dX9_back_15 rfl (lv_at hl 1 rfl) ?_
    refine m_aald (1) hx hb hE hM (hG.1 1 (by decide)) rfl (by decide) (vp_in_iff.mpr (by omega)) dX9_back_16 ?_
    rw [show rn ad (G 1 (a0).toNatClampNeg) = none from by rw [hN]; rfl]
    refine lv_astore_nN (lv' := [(2, .null), (0, .ref (ad (0))), (1, .int (a0))]) hx hb dX9_back_17 rfl hl (by decide) rfl (fun ls hl => ?_)
    refine lv_aload_nN hx hb dX9_back_18 rfl (lv_at hl 0 rfl) ?_
    refine lv_ifnonnullN hx hb dX9_back_19 ?_
    refine lv_iconst (v := (-1)) hx hb dX9_back_22 (by decide) ?_
    exact m_iret hx hb hr hlocks hM hS (Nat.le_of_ble_eq_true rfl) (Nat.le_of_ble_eq_true rfl) ⟨rfl, rfl⟩ dX9_back_23
  · have hc2 := c2
    have q2 := b_r1.f hc2
    refine lv_iconst (v := (-1)) hx hb dX9_back_9 (by decide) ?_
    exact m_iret hx hb hr hlocks hM hS (Nat.le_of_ble_eq_true rfl) (Nat.le_of_ble_eq_true rfl) ⟨rfl, rfl⟩ dX9_back_10
