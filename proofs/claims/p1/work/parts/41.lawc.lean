theorem dX3_clear_0 : decode cX3_clear 0 = .ok (.aload_n 0, 1) := by decide +kernel
theorem dX3_clear_1 : decode cX3_clear 1 = .ok (.iconst 0, 1) := by decide +kernel
theorem dX3_clear_2 : decode cX3_clear 2 = .ok (.putfield 27, 3) := by decide +kernel
theorem dX3_clear_5 : decode cX3_clear 5 = .ok (.aload_n 0, 1) := by decide +kernel
theorem dX3_clear_6 : decode cX3_clear 6 = .ok (.iconst 0, 1) := by decide +kernel
theorem dX3_clear_7 : decode cX3_clear 7 = .ok (.putfield 31, 3) := by decide +kernel
theorem dX3_clear_10 : decode cX3_clear 10 = .ok (.return_, 1) := by decide +kernel
theorem ce_X3_clear : CeV RX3 yX3_clear cX3_clear 1 none 0 := ⟨tb_570, tb_571, tb_10, tb_572, rfl, by decide, by decide, by decide +kernel⟩
set_option maxHeartbeats 4000000 in
set_option maxRecDepth 20000 in
theorem C_X3_clear (l : Launch) (D : va_G) (A : Nat → Prop) (ad : Nat → Nat) (ns : List Nat) (I : MI) (L : ML) (G : MG) (b : Nat) (hb0 : b ∈ ns) (hk : kd b = (3, 7)) : Met l yX3_clear (wd yX3_clear cX3_clear 1 none) ({ frames := 0, cells := 0, slots := 0, locals := 0 }) (va_Pc [.ref (ad b)] (PM D A ad ns I L G)) (va_Qv (fun u => u = (ad, ns, u2 (u2 I b 5 0) b 6 0, L, G)) (BM D A) A) 0 0 A := by
  refine m_ofW (by decide) (Nat.le_of_ble_eq_true rfl) ?_
  intro p e s m below meth c ls args hC hE hM hA hS hl
  obtain ⟨hx, hb, hml, hown, hts, hr, hlocks, hin⟩ := hC
  have k0 : (0 : Int32).toInt = 0 := by decide
  have hl : lv_has ls 1 [(0, .ref (ad (b)))] := hl
  refine lv_aload_n hx hb dX3_clear_0 rfl (lv_at hl 0 rfl) ?_
  refine lv_iconst (v := (0)) hx hb dX3_clear_1 (by decide) ?_
  refine m_puti (b) 5 hx hb hts hown hE oc3 hM hS hb0 hk (by decide) rfl rfl rfl rfl tb_379 dX3_clear_2 (fun H locs I1 eI1 hM hS => ?_)
  subst eI1
  refine lv_aload_n hx hb dX3_clear_5 rfl (lv_at hl 0 rfl) ?_
  refine lv_iconst (v := (0)) hx hb dX3_clear_6 (by decide) ?_
  refine m_puti (b) 6 hx hb hts hown hE oc3 hM hS hb0 hk (by decide) rfl rfl rfl rfl tb_382 dX3_clear_7 (fun H locs I2 eI2 hM hS => ?_)
  subst eI2
  exact m_vret hx hb hr hlocks hM hS (Nat.le_of_ble_eq_true rfl) (Nat.le_of_ble_eq_true rfl) rfl dX3_clear_10
theorem dX4_fail_0 : decode cX4_fail 0 = .ok (.aload_n 0, 1) := by decide +kernel
theorem dX4_fail_1 : decode cX4_fail 1 = .ok (.iconst 1, 1) := by decide +kernel
theorem dX4_fail_2 : decode cX4_fail 2 = .ok (.bipush 8, 2) := by decide +kernel
theorem dX4_fail_4 : decode cX4_fail 4 = .ok (.aload_n 0, 1) := by decide +kernel
theorem dX4_fail_5 : decode cX4_fail 5 = .ok (.getfield 29, 3) := by decide +kernel
theorem dX4_fail_8 : decode cX4_fail 8 = .ok (.imul, 1) := by decide +kernel
theorem dX4_fail_9 : decode cX4_fail 9 = .ok (.iadd, 1) := by decide +kernel
theorem dX4_fail_10 : decode cX4_fail 10 = .ok (.iload_n 1, 1) := by decide +kernel
theorem dX4_fail_11 : decode cX4_fail 11 = .ok (.iadd, 1) := by decide +kernel
theorem dX4_fail_12 : decode cX4_fail 12 = .ok (.putfield 44, 3) := by decide +kernel
theorem dX4_fail_15 : decode cX4_fail 15 = .ok (.return_, 1) := by decide +kernel
theorem ce_X4_fail : CeV RX4 yX4_fail cX4_fail 2 none 1 := ⟨tb_675, tp_11, tb_9, tb_676, rfl, by decide, by decide, by decide +kernel⟩
set_option maxHeartbeats 4000000 in
set_option maxRecDepth 20000 in
theorem F_X4_fail (l : Launch) (D : va_G) (A : Nat → Prop) (ad : Nat → Nat) (ns : List Nat) (I : MI) (L : ML) (G : MG) (h70 : 70 ∈ ns) (hp : I 70 4 = 0) : Met l yX4_fail (wd yX4_fail cX4_fail 2 none) ({ frames := 0, cells := 0, slots := 0, locals := 0 }) (va_Pc [.ref (ad 70), .int 0] (PM D A ad ns I L G)) (va_Qv (fun u => u = (ad, ns, u2 I 70 12 1, L, G)) (BM D A) A) 0 0 A := by
  refine m_ofW (by decide) (Nat.le_of_ble_eq_true rfl) ?_
  intro p e s m below meth c ls args hC hE hM hA hS hl
  obtain ⟨hx, hb, hml, hown, hts, hr, hlocks, hin⟩ := hC
  have k0 : (0 : Int32).toInt = 0 := by decide
  have k1 : (1 : Int32).toInt = 1 := by decide
  have k8 : (8 : Int32).toInt = 8 := by decide
  have hl : lv_has ls 2 [(0, .ref (ad (70))), (1, .int (0))] := hl
  refine lv_aload_n hx hb dX4_fail_0 rfl (lv_at hl 0 rfl) ?_
  refine lv_iconst (v := (1)) hx hb dX4_fail_1 (by decide) ?_
  refine lv_bipush (v := (8)) hx hb dX4_fail_2 (by decide) ?_
  refine lv_aload_n hx hb dX4_fail_4 rfl (lv_at hl 0 rfl) ?_
  refine m_geti (70) 4 hx hb hts hown hE oc4 hM h70 rfl (by decide) rfl tb_322 dX4_fail_5 ?_
  rw [show I (70) 4 = 0 from by simp [u2_v, fillI, cpyI, hp]]
  refine lv_imul hx hb dX4_fail_8 ?_
  refine lv_topi (fun v1 ev1 => ?_)
  obtain rfl : v1 = 0 := ev1.trans (by decide)
  refine lv_iadd hx hb dX4_fail_9 ?_
  refine lv_topi (fun v2 ev2 => ?_)
  obtain rfl : v2 = 1 := ev2.trans (by decide)
  refine lv_iload_n hx hb dX4_fail_10 rfl (lv_at hl 1 rfl) ?_
  refine lv_iadd hx hb dX4_fail_11 ?_
  refine lv_topi (fun v3 ev3 => ?_)
  obtain rfl : v3 = 1 := ev3.trans (by decide)
  refine m_puti (70) 12 hx hb hts hown hE oc4 hM hS h70 rfl (by decide) rfl rfl rfl rfl tb_330 dX4_fail_12 (fun H locs I4 eI4 hM hS => ?_)
  subst eI4
  exact m_vret hx hb hr hlocks hM hS (Nat.le_of_ble_eq_true rfl) (Nat.le_of_ble_eq_true rfl) rfl dX4_fail_15
theorem dX4_takeTurn_0 : decode cX4_takeTurn 0 = .ok (.aload_n 0, 1) := by decide +kernel
theorem dX4_takeTurn_1 : decode cX4_takeTurn 1 = .ok (.getfield 83, 3) := by decide +kernel
theorem dX4_takeTurn_4 : decode cX4_takeTurn 4 = .ok (.bipush (-40), 2) := by decide +kernel
theorem dX4_takeTurn_6 : decode cX4_takeTurn 6 = .ok (.if_icmp .eq 11, 3) := by decide +kernel
theorem dX4_takeTurn_9 : decode cX4_takeTurn 9 = .ok (.aload_n 0, 1) := by decide +kernel
theorem dX4_takeTurn_10 : decode cX4_takeTurn 10 = .ok (.iconst 0, 1) := by decide +kernel
theorem dX4_takeTurn_11 : decode cX4_takeTurn 11 = .ok (.invokevirtual 86, 3) := by decide +kernel
theorem dX4_takeTurn_14 : decode cX4_takeTurn 14 = .ok (.goto 28, 3) := by decide +kernel
theorem dX4_takeTurn_42 : decode cX4_takeTurn 42 = .ok (.return_, 1) := by decide +kernel
theorem ce_X4_takeTurn : CeV RX4 yX4_takeTurn cX4_takeTurn 1 none 0 := ⟨tb_671, tp_10, tb_9, tb_672, rfl, by decide, by decide, by decide +kernel⟩
set_option maxHeartbeats 4000000 in
set_option maxRecDepth 20000 in
theorem F_X4_takeTurn (l : Launch) (D : va_G) (A : Nat → Prop) (ad : Nat → Nat) (ns : List Nat) (I : MI) (L : ML) (G : MG) (h70 : 70 ∈ ns) (hp : I 70 4 = 0) (ht : I 70 5 = -45) : Met l yX4_takeTurn (wd yX4_takeTurn cX4_takeTurn 1 none) ({ frames := 1, cells := 0, slots := 0, locals := 21 }) (va_Pc [.ref (ad 70)] (PM D A ad ns I L G)) (va_Qv (fun u => u = (ad, ns, u2 I 70 12 1, L, G)) (BM D A) A) 0 0 A := by
  refine m_ofW (by decide) (Nat.le_of_ble_eq_true rfl) ?_
  intro p e s m below meth c ls args hC hE hM hA hS hl
  obtain ⟨hx, hb, hml, hown, hts, hr, hlocks, hin⟩ := hC
  have km40 : (-40 : Int32).toInt = -40 := by decide
  have k0 : (0 : Int32).toInt = 0 := by decide
  have hl : lv_has ls 1 [(0, .ref (ad (70)))] := hl
  refine lv_aload_n hx hb dX4_takeTurn_0 rfl (lv_at hl 0 rfl) ?_
  refine m_geti (70) 5 hx hb hts hown hE oc4 hM h70 rfl (by decide) rfl tb_323 dX4_takeTurn_1 ?_
  rw [show I (70) 5 = -45 from by simp [u2_v, fillI, cpyI, ht]]
  refine lv_bipush (v := (-40)) hx hb dX4_takeTurn_4 (by decide) ?_
  refine lv_icmp_eq (tgt := 17) hx hb dX4_takeTurn_6 (by decide) (fun c1 => ?_) (fun c1 => ?_)
  · exact absurd c1 (by decide)
  · have hc1 := c1
    have q1 := q_ne hc1
    refine lv_aload_n hx hb dX4_takeTurn_9 rfl (lv_at hl 0 rfl) ?_
    refine lv_iconst (v := (0)) hx hb dX4_takeTurn_10 (by decide) ?_
    refine m_callv (m_runV (70) (As := [.int (0)]) (rest := []) hx hb hml hown hts hE hM hS hA ce_X4_fail tb_673 (F_X4_fail l D A ad ns I L G h70 hp) rfl rfl ⟨Nat.le_of_ble_eq_true rfl, Nat.le_of_ble_eq_true rfl⟩ h70 rfl rfl (by decide) rfl hl.1 rfl (Nat.le_of_ble_eq_true rfl) dX4_takeTurn_11 ⟨Nat.le_of_ble_eq_true rfl, Nat.le_of_ble_eq_true rfl⟩) hS (fun u H locs hw hM hS => ?_)
    subst hw
    have hM : Mem D A ad ns (u2 I 70 12 1) L G H := hM
    refine lv_goto (tgt := 42) hx hb dX4_takeTurn_14 (by decide) ?_
    exact m_vret hx hb hr hlocks hM hS (Nat.le_of_ble_eq_true rfl) (Nat.le_of_ble_eq_true rfl) rfl dX4_takeTurn_42
theorem dX4_takeToken_0 : decode cX4_takeToken 0 = .ok (.aload_n 0, 1) := by decide +kernel
theorem dX4_takeToken_1 : decode cX4_takeToken 1 = .ok (.getfield 47, 3) := by decide +kernel
theorem dX4_takeToken_4 : decode cX4_takeToken 4 = .ok (.tableswitch 60 0 3 #[32, 39, 46, 53], 32) := by decide +kernel
theorem dX4_takeToken_36 : decode cX4_takeToken 36 = .ok (.aload_n 0, 1) := by decide +kernel
theorem dX4_takeToken_37 : decode cX4_takeToken 37 = .ok (.invokevirtual 68, 3) := by decide +kernel
theorem dX4_takeToken_40 : decode cX4_takeToken 40 = .ok (.goto 28, 3) := by decide +kernel
theorem dX4_takeToken_68 : decode cX4_takeToken 68 = .ok (.return_, 1) := by decide +kernel
theorem ce_X4_takeToken : CeV RX4 yX4_takeToken cX4_takeToken 1 none 0 := ⟨tb_667, tp_9, tb_9, tb_668, rfl, by decide, by decide, by decide +kernel⟩
set_option maxHeartbeats 4000000 in
set_option maxRecDepth 20000 in
theorem F_X4_takeToken (l : Launch) (D : va_G) (A : Nat → Prop) (ad : Nat → Nat) (ns : List Nat) (I : MI) (L : ML) (G : MG) (h70 : 70 ∈ ns) (hp : I 70 4 = 0) (ht : I 70 5 = -45) (ha : I 70 7 = 0) : Met l yX4_takeToken (wd yX4_takeToken cX4_takeToken 1 none) ({ frames := 2, cells := 0, slots := 0, locals := 41 }) (va_Pc [.ref (ad 70)] (PM D A ad ns I L G)) (va_Qv (fun u => u = (ad, ns, u2 I 70 12 1, L, G)) (BM D A) A) 0 0 A := by
  refine m_ofW (by decide) (Nat.le_of_ble_eq_true rfl) ?_
  intro p e s m below meth c ls args hC hE hM hA hS hl
  obtain ⟨hx, hb, hml, hown, hts, hr, hlocks, hin⟩ := hC
  have k0 : (0 : Int32).toInt = 0 := by decide
  have hl : lv_has ls 1 [(0, .ref (ad (70)))] := hl
  refine lv_aload_n hx hb dX4_takeToken_0 rfl (lv_at hl 0 rfl) ?_
  refine m_geti (70) 7 hx hb hts hown hE oc4 hM h70 rfl (by decide) rfl tb_325 dX4_takeToken_1 ?_
  rw [show I (70) 7 = 0 from by simp [u2_v, fillI, cpyI, ha]]
  refine lv_tableIn (x := 0) (off := 32) (tgt := 36) hx hb dX4_takeToken_4 (by decide) (by decide) rfl (by decide) ?_
  refine lv_aload_n hx hb dX4_takeToken_36 rfl (lv_at hl 0 rfl) ?_
  refine m_callv (m_runV (70) (As := []) (rest := []) hx hb hml hown hts hE hM hS hA ce_X4_takeTurn tb_669 (F_X4_takeTurn l D A ad ns I L G h70 hp ht) rfl rfl ⟨Nat.le_of_ble_eq_true rfl, Nat.le_of_ble_eq_true rfl⟩ h70 rfl rfl (by decide) rfl hl.1 rfl (Nat.le_of_ble_eq_true rfl) dX4_takeToken_37 ⟨Nat.le_of_ble_eq_true rfl, Nat.le_of_ble_eq_true rfl⟩) hS (fun u H locs hw hM hS => ?_)
  subst hw
  have hM : Mem D A ad ns (u2 I 70 12 1) L G H := hM
  refine lv_goto (tgt := 68) hx hb dX4_takeToken_40 (by decide) ?_
  exact m_vret hx hb hr hlocks hM hS (Nat.le_of_ble_eq_true rfl) (Nat.le_of_ble_eq_true rfl) rfl dX4_takeToken_68
theorem dX4_readToken_0 : decode cX4_readToken 0 = .ok (.aload_n 0, 1) := by decide +kernel
theorem dX4_readToken_1 : decode cX4_readToken 1 = .ok (.getfield 29, 3) := by decide +kernel
theorem dX4_readToken_4 : decode cX4_readToken 4 = .ok (.aload_n 0, 1) := by decide +kernel
theorem dX4_readToken_5 : decode cX4_readToken 5 = .ok (.getfield 25, 3) := by decide +kernel
theorem dX4_readToken_8 : decode cX4_readToken 8 = .ok (.if_icmp .ge 30, 3) := by decide +kernel
theorem dX4_readToken_38 : decode cX4_readToken 38 = .ok (.aload_n 0, 1) := by decide +kernel
theorem dX4_readToken_39 : decode cX4_readToken 39 = .ok (.iconst 0, 1) := by decide +kernel
theorem dX4_readToken_40 : decode cX4_readToken 40 = .ok (.putfield 65, 3) := by decide +kernel
theorem dX4_readToken_43 : decode cX4_readToken 43 = .ok (.aload_n 0, 1) := by decide +kernel
theorem dX4_readToken_44 : decode cX4_readToken 44 = .ok (.getfield 29, 3) := by decide +kernel
theorem dX4_readToken_47 : decode cX4_readToken 47 = .ok (.aload_n 0, 1) := by decide +kernel
theorem dX4_readToken_48 : decode cX4_readToken 48 = .ok (.getfield 25, 3) := by decide +kernel
theorem dX4_readToken_51 : decode cX4_readToken 51 = .ok (.if_icmp .lt 12, 3) := by decide +kernel
theorem dX4_readToken_54 : decode cX4_readToken 54 = .ok (.aload_n 0, 1) := by decide +kernel
theorem dX4_readToken_55 : decode cX4_readToken 55 = .ok (.bipush (-45), 2) := by decide +kernel
theorem dX4_readToken_57 : decode cX4_readToken 57 = .ok (.putfield 83, 3) := by decide +kernel
theorem dX4_readToken_60 : decode cX4_readToken 60 = .ok (.goto 141, 3) := by decide +kernel
theorem dX4_readToken_201 : decode cX4_readToken 201 = .ok (.return_, 1) := by decide +kernel
theorem ce_X4_readToken : CeV RX4 yX4_readToken cX4_readToken 1 none 0 := ⟨tb_575, tp_2, tb_9, tb_576, rfl, by decide, by decide, by decide +kernel⟩
set_option maxHeartbeats 4000000 in
set_option maxRecDepth 20000 in
theorem F_X4_readToken (l : Launch) (D : va_G) (A : Nat → Prop) (ad : Nat → Nat) (ns : List Nat) (I : MI) (L : ML) (G : MG) (h70 : 70 ∈ ns) (hp : I 70 4 = 0) (hq : I 70 3 = 0) : Met l yX4_readToken (wd yX4_readToken cX4_readToken 1 none) ({ frames := 0, cells := 0, slots := 0, locals := 0 }) (va_Pc [.ref (ad 70)] (PM D A ad ns I L G)) (va_Qv (fun u => u = (ad, ns, u2 (u2 I 70 6 0) 70 5 (-45), L, G)) (BM D A) A) 0 0 A := by
  refine m_ofW (by decide) (Nat.le_of_ble_eq_true rfl) ?_
  intro p e s m below meth c ls args hC hE hM hA hS hl
  obtain ⟨hx, hb, hml, hown, hts, hr, hlocks, hin⟩ := hC
  have km45 : (-45 : Int32).toInt = -45 := by decide
  have k0 : (0 : Int32).toInt = 0 := by decide
  have hl : lv_has ls 1 [(0, .ref (ad (70)))] := hl
  refine lv_aload_n hx hb dX4_readToken_0 rfl (lv_at hl 0 rfl) ?_
  refine m_geti (70) 4 hx hb hts hown hE oc4 hM h70 rfl (by decide) rfl tb_322 dX4_readToken_1 ?_
  rw [show I (70) 4 = 0 from by simp [u2_v, fillI, cpyI, hp]]
  refine lv_aload_n hx hb dX4_readToken_4 rfl (lv_at hl 0 rfl) ?_
  refine m_geti (70) 3 hx hb hts hown hE oc4 hM h70 rfl (by decide) rfl tb_321 dX4_readToken_5 ?_
  rw [show I (70) 3 = 0 from by simp [u2_v, fillI, cpyI, hq]]
  refine lv_icmp_ge (tgt := 38) hx hb dX4_readToken_8 (by decide) (fun c1 => ?_) (fun c1 => ?_)
  · have hc1 := c1
    have q1 := q_le hc1
    refine lv_aload_n hx hb dX4_readToken_38 rfl (lv_at hl 0 rfl) ?_
    refine lv_iconst (v := (0)) hx hb dX4_readToken_39 (by decide) ?_
    refine m_puti (70) 6 hx hb hts hown hE oc4 hM hS h70 rfl (by decide) rfl rfl rfl rfl tb_324 dX4_readToken_40 (fun H locs I2 eI2 hM hS => ?_)
    subst eI2
    refine lv_aload_n hx hb dX4_readToken_43 rfl (lv_at hl 0 rfl) ?_
    refine m_geti (70) 4 hx hb hts hown hE oc4 hM h70 rfl (by decide) rfl tb_322 dX4_readToken_44 ?_
    rw [show (u2 I (70) 6 (0)) (70) 4 = 0 from by simp [u2_v, fillI, cpyI, hp]]
    refine lv_aload_n hx hb dX4_readToken_47 rfl (lv_at hl 0 rfl) ?_
    refine m_geti (70) 3 hx hb hts hown hE oc4 hM h70 rfl (by decide) rfl tb_321 dX4_readToken_48 ?_
    rw [show (u2 I (70) 6 (0)) (70) 3 = 0 from by simp [u2_v, fillI, cpyI, hq]]
    refine lv_icmp_lt (tgt := 63) hx hb dX4_readToken_51 (by decide) (fun c3 => ?_) (fun c3 => ?_)
    · exact absurd c3 (by decide)
    · have hc3 := c3
      have q3 := q_nlt hc3
      refine lv_aload_n hx hb dX4_readToken_54 rfl (lv_at hl 0 rfl) ?_
      refine lv_bipush (v := (-45)) hx hb dX4_readToken_55 (by decide) ?_
      refine m_puti (70) 5 hx hb hts hown hE oc4 hM hS h70 rfl (by decide) rfl rfl rfl rfl tb_323 dX4_readToken_57 (fun H locs I4 eI4 hM hS => ?_)
      subst eI4
      refine lv_goto (tgt := 201) hx hb dX4_readToken_60 (by decide) ?_
      exact m_vret hx hb hr hlocks hM hS (Nat.le_of_ble_eq_true rfl) (Nat.le_of_ble_eq_true rfl) rfl dX4_readToken_201
  · exact absurd c1 (by decide)
theorem dX4_read_0 : decode cX4_read 0 = .ok (.aload_n 1, 1) := by decide +kernel
theorem dX4_read_1 : decode cX4_read 1 = .ok (.iconst 0, 1) := by decide +kernel
theorem dX4_read_2 : decode cX4_read 2 = .ok (.aload_n 0, 1) := by decide +kernel
theorem dX4_read_3 : decode cX4_read 3 = .ok (.getfield 9, 3) := by decide +kernel
theorem dX4_read_6 : decode cX4_read 6 = .ok (.iconst 0, 1) := by decide +kernel
theorem dX4_read_7 : decode cX4_read 7 = .ok (.iload_n 2, 1) := by decide +kernel
theorem dX4_read_8 : decode cX4_read 8 = .ok (.invokestatic 19, 3) := by decide +kernel
theorem dX4_read_11 : decode cX4_read 11 = .ok (.aload_n 0, 1) := by decide +kernel
theorem dX4_read_12 : decode cX4_read 12 = .ok (.iload_n 2, 1) := by decide +kernel
theorem dX4_read_13 : decode cX4_read 13 = .ok (.putfield 25, 3) := by decide +kernel
theorem dX4_read_16 : decode cX4_read 16 = .ok (.aload_n 0, 1) := by decide +kernel
theorem dX4_read_17 : decode cX4_read 17 = .ok (.iconst 0, 1) := by decide +kernel
theorem dX4_read_18 : decode cX4_read 18 = .ok (.putfield 29, 3) := by decide +kernel
theorem dX4_read_21 : decode cX4_read 21 = .ok (.aload_n 0, 1) := by decide +kernel
theorem dX4_read_22 : decode cX4_read 22 = .ok (.iconst 0, 1) := by decide +kernel
theorem dX4_read_23 : decode cX4_read 23 = .ok (.putfield 32, 3) := by decide +kernel
theorem dX4_read_26 : decode cX4_read 26 = .ok (.aload_n 0, 1) := by decide +kernel
theorem dX4_read_27 : decode cX4_read 27 = .ok (.iconst 0, 1) := by decide +kernel
theorem dX4_read_28 : decode cX4_read 28 = .ok (.putfield 35, 3) := by decide +kernel
theorem dX4_read_31 : decode cX4_read 31 = .ok (.aload_n 0, 1) := by decide +kernel
theorem dX4_read_32 : decode cX4_read 32 = .ok (.iconst 0, 1) := by decide +kernel
theorem dX4_read_33 : decode cX4_read 33 = .ok (.putfield 38, 3) := by decide +kernel
theorem dX4_read_36 : decode cX4_read 36 = .ok (.aload_n 0, 1) := by decide +kernel
theorem dX4_read_37 : decode cX4_read 37 = .ok (.iconst 0, 1) := by decide +kernel
theorem dX4_read_38 : decode cX4_read 38 = .ok (.putfield 41, 3) := by decide +kernel
theorem dX4_read_41 : decode cX4_read 41 = .ok (.aload_n 0, 1) := by decide +kernel
theorem dX4_read_42 : decode cX4_read 42 = .ok (.iconst 0, 1) := by decide +kernel
theorem dX4_read_43 : decode cX4_read 43 = .ok (.putfield 44, 3) := by decide +kernel
theorem dX4_read_46 : decode cX4_read 46 = .ok (.aload_n 0, 1) := by decide +kernel
theorem dX4_read_47 : decode cX4_read 47 = .ok (.iconst 0, 1) := by decide +kernel
theorem dX4_read_48 : decode cX4_read 48 = .ok (.putfield 47, 3) := by decide +kernel
theorem dX4_read_51 : decode cX4_read 51 = .ok (.aload_n 0, 1) := by decide +kernel
theorem dX4_read_52 : decode cX4_read 52 = .ok (.aload_n 3, 1) := by decide +kernel
theorem dX4_read_53 : decode cX4_read 53 = .ok (.putfield 50, 3) := by decide +kernel
theorem dX4_read_56 : decode cX4_read 56 = .ok (.aload_n 0, 1) := by decide +kernel
theorem dX4_read_57 : decode cX4_read 57 = .ok (.getfield 50, 3) := by decide +kernel
theorem dX4_read_60 : decode cX4_read 60 = .ok (.invokevirtual 54, 3) := by decide +kernel
theorem dX4_read_63 : decode cX4_read 63 = .ok (.iconst 0, 1) := by decide +kernel
theorem dX4_read_64 : decode cX4_read 64 = .ok (.istore 4, 2) := by decide +kernel
theorem dX4_read_66 : decode cX4_read 66 = .ok (.iload 4, 2) := by decide +kernel
theorem dX4_read_68 : decode cX4_read 68 = .ok (.sipush 400, 3) := by decide +kernel
theorem dX4_read_71 : decode cX4_read 71 = .ok (.if_icmp .gt 45, 3) := by decide +kernel
theorem dX4_read_74 : decode cX4_read 74 = .ok (.aload_n 0, 1) := by decide +kernel
theorem dX4_read_75 : decode cX4_read 75 = .ok (.getfield 47, 3) := by decide +kernel
theorem dX4_read_78 : decode cX4_read 78 = .ok (.iconst 5, 1) := by decide +kernel
theorem dX4_read_79 : decode cX4_read 79 = .ok (.if_icmp .eq 37, 3) := by decide +kernel
theorem dX4_read_82 : decode cX4_read 82 = .ok (.aload_n 0, 1) := by decide +kernel
theorem dX4_read_83 : decode cX4_read 83 = .ok (.getfield 44, 3) := by decide +kernel
theorem dX4_read_86 : decode cX4_read 86 = .ok (.ifCond .ne 30, 3) := by decide +kernel
theorem dX4_read_89 : decode cX4_read 89 = .ok (.aload_n 0, 1) := by decide +kernel
theorem dX4_read_90 : decode cX4_read 90 = .ok (.invokevirtual 59, 3) := by decide +kernel
theorem dX4_read_93 : decode cX4_read 93 = .ok (.aload_n 0, 1) := by decide +kernel
theorem dX4_read_94 : decode cX4_read 94 = .ok (.invokevirtual 62, 3) := by decide +kernel
theorem dX4_read_97 : decode cX4_read 97 = .ok (.aload_n 0, 1) := by decide +kernel
theorem dX4_read_98 : decode cX4_read 98 = .ok (.dup, 1) := by decide +kernel
theorem dX4_read_99 : decode cX4_read 99 = .ok (.getfield 29, 3) := by decide +kernel
theorem dX4_read_102 : decode cX4_read 102 = .ok (.aload_n 0, 1) := by decide +kernel
theorem dX4_read_103 : decode cX4_read 103 = .ok (.getfield 65, 3) := by decide +kernel
theorem dX4_read_106 : decode cX4_read 106 = .ok (.iadd, 1) := by decide +kernel
theorem dX4_read_107 : decode cX4_read 107 = .ok (.putfield 29, 3) := by decide +kernel
theorem dX4_read_110 : decode cX4_read 110 = .ok (.iinc 4 1, 3) := by decide +kernel
theorem dX4_read_113 : decode cX4_read 113 = .ok (.goto (-47), 3) := by decide +kernel
theorem dX4_read_116 : decode cX4_read 116 = .ok (.aload_n 0, 1) := by decide +kernel
theorem dX4_read_117 : decode cX4_read 117 = .ok (.getfield 44, 3) := by decide +kernel
theorem dX4_read_120 : decode cX4_read 120 = .ok (.ireturn, 1) := by decide +kernel
theorem ce_X4_read : CeV RX4 yX4_read cX4_read 5 (some .int) 3 := ⟨tb_563, tb_564, tb_9, tb_565, rfl, by decide, by decide, by decide +kernel⟩
set_option maxHeartbeats 4000000 in
set_option maxRecDepth 20000 in
theorem F_X4_read (l : Launch) (D : va_G) (A : Nat → Prop) (ad : Nat → Nat) (ns : List Nat) (I : MI) (L : ML) (G : MG) (hG : SGC ns G) (h200 : 200 ∈ ns) (hI : ∀ n k, n < 1000 → I n k = 0) : Met l yX4_read (wd yX4_read cX4_read 5 (some .int)) ({ frames := 3, cells := 0, slots := 0, locals := 61 }) (va_Pc [.ref (ad 70), .ref (ad 3), .int 0, .ref (ad 200)] (PM D A ad ns I L G)) (va_Qi (fun z u => ∃ I2 G2, u = (ad, ns, I2, L, G2) ∧ z = 1 ∧ (∀ n, 1000 ≤ n → I2 n = I n) ∧ ∀ n, n ≠ 70 → G2 n = G n) (BM D A) A) 0 0 A := by
  refine m_ofW (by decide) (Nat.le_of_ble_eq_true rfl) ?_
  intro p e s m below meth c ls args hC hE hM hA hS hl
  obtain ⟨hx, hb, hml, hown, hts, hr, hlocks, hin⟩ := hC
  have k0 : (0 : Int32).toInt = 0 := by decide
  have k5 : (5 : Int32).toInt = 5 := by decide
  have k400 : (400 : Int32).toInt = 400 := by decide
  have hM70 := hG.1 70 (by decide)
  have hl : lv_has ls 5 [(0, .ref (ad (70))), (1, .ref (ad (3))), (2, .int (0)), (3, .ref (ad (200)))] := hl
  refine lv_aload_n hx hb dX4_read_0 rfl (lv_at hl 1 rfl) ?_
  refine lv_iconst (v := (0)) hx hb dX4_read_1 (by decide) ?_
  refine lv_aload_n hx hb dX4_read_2 rfl (lv_at hl 0 rfl) ?_
  refine m_getr (70) 0 (71) hx hb hts hown hE oc4 hM (hG.1 70 (by decide)) rfl (by decide) rfl (hG.2 (70, 0, 71) (by decide)) (by decide) tb_318 dX4_read_3 ?_
  refine lv_iconst (v := (0)) hx hb dX4_read_6 (by decide) ?_
  refine lv_iload_n hx hb dX4_read_7 rfl (lv_at hl 2 rfl) ?_
  refine m_copyb (3) (71) hx hb (hml.trans hl.1.symm) hown hE hM hS (hG.1 3 (by decide)) rfl (hG.1 71 (by decide)) rfl (hts _ tb_566) (hts _ tb_568) (hts _ tb_567) (hts _ tb_13) ⟨⟨by decide, by decide, by decide⟩, by decide, by decide, fun i hi => absurd hi (Nat.not_lt_zero i)⟩ (Nat.le_of_ble_eq_true rfl) (Nat.le_of_ble_eq_true rfl) dX4_read_8 (fun H locs I1 eI1 hM hS => ?_)
  subst eI1
  refine lv_aload_n hx hb dX4_read_11 rfl (lv_at hl 0 rfl) ?_
  refine lv_iload_n hx hb dX4_read_12 rfl (lv_at hl 2 rfl) ?_
  refine m_puti (70) 3 hx hb hts hown hE oc4 hM hS (hG.1 70 (by decide)) rfl (by decide) rfl rfl rfl rfl tb_321 dX4_read_13 (fun H locs I2 eI2 hM hS => ?_)
  subst eI2
  refine lv_aload_n hx hb dX4_read_16 rfl (lv_at hl 0 rfl) ?_
  refine lv_iconst (v := (0)) hx hb dX4_read_17 (by decide) ?_
  refine m_puti (70) 4 hx hb hts hown hE oc4 hM hS (hG.1 70 (by decide)) rfl (by decide) rfl rfl rfl rfl tb_322 dX4_read_18 (fun H locs I3 eI3 hM hS => ?_)
  subst eI3
  refine lv_aload_n hx hb dX4_read_21 rfl (lv_at hl 0 rfl) ?_
  refine lv_iconst (v := (0)) hx hb dX4_read_22 (by decide) ?_
  refine m_puti (70) 2 hx hb hts hown hE oc4 hM hS (hG.1 70 (by decide)) rfl (by decide) rfl rfl rfl rfl tb_320 dX4_read_23 (fun H locs I4 eI4 hM hS => ?_)
  subst eI4
  refine lv_aload_n hx hb dX4_read_26 rfl (lv_at hl 0 rfl) ?_
  refine lv_iconst (v := (0)) hx hb dX4_read_27 (by decide) ?_
  refine m_puti (70) 9 hx hb hts hown hE oc4 hM hS (hG.1 70 (by decide)) rfl (by decide) rfl rfl rfl rfl tb_327 dX4_read_28 (fun H locs I5 eI5 hM hS => ?_)
  subst eI5
  refine lv_aload_n hx hb dX4_read_31 rfl (lv_at hl 0 rfl) ?_
  refine lv_iconst (v := (0)) hx hb dX4_read_32 (by decide) ?_
  refine m_puti (70) 10 hx hb hts hown hE oc4 hM hS (hG.1 70 (by decide)) rfl (by decide) rfl rfl rfl rfl tb_328 dX4_read_33 (fun H locs I6 eI6 hM hS => ?_)
  subst eI6
  refine lv_aload_n hx hb dX4_read_36 rfl (lv_at hl 0 rfl) ?_
  refine lv_iconst (v := (0)) hx hb dX4_read_37 (by decide) ?_
  refine m_puti (70) 11 hx hb hts hown hE oc4 hM hS (hG.1 70 (by decide)) rfl (by decide) rfl rfl rfl rfl tb_329 dX4_read_38 (fun H locs I7 eI7 hM hS => ?_)
  subst eI7
  refine lv_aload_n hx hb dX4_read_41 rfl (lv_at hl 0 rfl) ?_
  refine lv_iconst (v := (0)) hx hb dX4_read_42 (by decide) ?_
  refine m_puti (70) 12 hx hb hts hown hE oc4 hM hS (hG.1 70 (by decide)) rfl (by decide) rfl rfl rfl rfl tb_330 dX4_read_43 (fun H locs I8 eI8 hM hS => ?_)
  subst eI8
  refine lv_aload_n hx hb dX4_read_46 rfl (lv_at hl 0 rfl) ?_
  refine lv_iconst (v := (0)) hx hb dX4_read_47 (by decide) ?_
  refine m_puti (70) 7 hx hb hts hown hE oc4 hM hS (hG.1 70 (by decide)) rfl (by decide) rfl rfl rfl rfl tb_325 dX4_read_48 (fun H locs I9 eI9 hM hS => ?_)
  subst eI9
  refine lv_aload_n hx hb dX4_read_51 rfl (lv_at hl 0 rfl) ?_
  refine lv_aload_n hx hb dX4_read_52 rfl (lv_at hl 3 rfl) ?_
  refine m_putr (70) 13 (200) hx hb hts hown hE oc4 hM hS (hG.1 70 (by decide)) rfl (by decide) rfl (by decide) h200 rfl rfl rfl tb_331 dX4_read_53 (fun H locs G11 eG11 hM hS => ?_)
  subst eG11
  refine lv_aload_n hx hb dX4_read_56 rfl (lv_at hl 0 rfl) ?_
  refine m_getr (70) 13 (200) hx hb hts hown hE oc4 hM (hG.1 70 (by decide)) rfl (by decide) rfl (u2_self _ _ _ _) (by decide) tb_331 dX4_read_57 ?_
  refine m_callv (m_runV (200) (As := []) (rest := []) hx hb hml hown hts hE hM hS hA ce_X3_clear tb_569 (C_X3_clear l D A ad ns (u2 (u2 (u2 (u2 (u2 (u2 (u2 (u2 (cpyI I (3) (71) (0) (0) (0)) (70) 3 (0)) (70) 4 (0)) (70) 2 (0)) (70) 9 (0)) (70) 10 (0)) (70) 11 (0)) (70) 12 (0)) (70) 7 (0)) L (u2 G (70) 13 (200)) (200) h200 rfl) rfl rfl ⟨Nat.le_of_ble_eq_true rfl, Nat.le_of_ble_eq_true rfl⟩ h200 rfl rfl (by decide) rfl hl.1 rfl (Nat.le_of_ble_eq_true rfl) dX4_read_60 ⟨Nat.le_of_ble_eq_true rfl, Nat.le_of_ble_eq_true rfl⟩) hS (fun u H locs hw hM hS => ?_)
  subst hw
  have hM : Mem D A ad ns (u2 (u2 (u2 (u2 (u2 (u2 (u2 (u2 (u2 (u2 (cpyI I (3) (71) (0) (0) (0)) (70) 3 (0)) (70) 4 (0)) (70) 2 (0)) (70) 9 (0)) (70) 10 (0)) (70) 11 (0)) (70) 12 (0)) (70) 7 (0)) (200) 5 0) (200) 6 0) L (u2 G (70) 13 (200)) H := hM
  refine lv_iconst (v := (0)) hx hb dX4_read_63 (by decide) ?_
  refine lv_istore (lv' := [(4, .int (0)), (0, .ref (ad (70))), (1, .ref (ad (3))), (2, .int (0)), (3, .ref (ad (200)))]) hx hb dX4_read_64 hl (by decide) rfl (fun ls hl => ?_)
  refine lv_iload hx hb dX4_read_66 (lv_at hl 0 rfl) ?_
  refine lv_sipush (v := (400)) hx hb dX4_read_68 (by decide) ?_
  refine lv_icmp_gt (tgt := 116) hx hb dX4_read_71 (by decide) (fun c12 => ?_) (fun c12 => ?_)
  · exact absurd c12 (by decide)
  · have hc12 := c12
    have q12 := q_nlt hc12
    refine lv_aload_n hx hb dX4_read_74 rfl (lv_at hl 1 rfl) ?_
    refine m_geti (70) 7 hx hb hts hown hE oc4 hM (hG.1 70 (by decide)) rfl (by decide) rfl tb_325 dX4_read_75 ?_
    rw [show (u2 (u2 (u2 (u2 (u2 (u2 (u2 (u2 (u2 (u2 (cpyI I (3) (71) (0) (0) (0)) (70) 3 (0)) (70) 4 (0)) (70) 2 (0)) (70) 9 (0)) (70) 10 (0)) (70) 11 (0)) (70) 12 (0)) (70) 7 (0)) (200) 5 0) (200) 6 0) (70) 7 = 0 from by simp [u2_v, fillI, cpyI]]
    refine lv_iconst (v := (5)) hx hb dX4_read_78 (by decide) ?_
    refine lv_icmp_eq (tgt := 116) hx hb dX4_read_79 (by decide) (fun c13 => ?_) (fun c13 => ?_)
    · exact absurd c13 (by decide)
    · have hc13 := c13
      have q13 := q_ne hc13
      refine lv_aload_n hx hb dX4_read_82 rfl (lv_at hl 1 rfl) ?_
      refine m_geti (70) 12 hx hb hts hown hE oc4 hM (hG.1 70 (by decide)) rfl (by decide) rfl tb_330 dX4_read_83 ?_
      rw [show (u2 (u2 (u2 (u2 (u2 (u2 (u2 (u2 (u2 (u2 (cpyI I (3) (71) (0) (0) (0)) (70) 3 (0)) (70) 4 (0)) (70) 2 (0)) (70) 9 (0)) (70) 10 (0)) (70) 11 (0)) (70) 12 (0)) (70) 7 (0)) (200) 5 0) (200) 6 0) (70) 12 = 0 from by simp [u2_v, fillI, cpyI]]
      refine lv_if_ne (tgt := 116) hx hb dX4_read_86 (by decide) (fun c14 => ?_) (fun c14 => ?_)
      · exact absurd c14 (by decide)
      · have hc14 := c14
        have q14 := q_eq hc14
        refine lv_aload_n hx hb dX4_read_89 rfl (lv_at hl 1 rfl) ?_
        refine m_callv (m_runV (70) (As := []) (rest := []) hx hb hml hown hts hE hM hS hA ce_X4_readToken tb_573 (F_X4_readToken l D A ad ns (u2 (u2 (u2 (u2 (u2 (u2 (u2 (u2 (u2 (u2 (cpyI I (3) (71) (0) (0) (0)) (70) 3 (0)) (70) 4 (0)) (70) 2 (0)) (70) 9 (0)) (70) 10 (0)) (70) 11 (0)) (70) 12 (0)) (70) 7 (0)) (200) 5 0) (200) 6 0) L (u2 G (70) 13 (200)) hM70 (by simp [u2_v, fillI, cpyI, hI]) (by simp [u2_v, fillI, cpyI, hI])) rfl rfl ⟨Nat.le_of_ble_eq_true rfl, Nat.le_of_ble_eq_true rfl⟩ (hG.1 70 (by decide)) rfl rfl (by decide) rfl hl.1 rfl (Nat.le_of_ble_eq_true rfl) dX4_read_90 ⟨Nat.le_of_ble_eq_true rfl, Nat.le_of_ble_eq_true rfl⟩) hS (fun u H locs hw hM hS => ?_)
        subst hw
        have hM : Mem D A ad ns (u2 (u2 (u2 (u2 (u2 (u2 (u2 (u2 (u2 (u2 (u2 (u2 (cpyI I (3) (71) (0) (0) (0)) (70) 3 (0)) (70) 4 (0)) (70) 2 (0)) (70) 9 (0)) (70) 10 (0)) (70) 11 (0)) (70) 12 (0)) (70) 7 (0)) (200) 5 0) (200) 6 0) 70 6 0) 70 5 (-45)) L (u2 G (70) 13 (200)) H := hM
        refine lv_aload_n hx hb dX4_read_93 rfl (lv_at hl 1 rfl) ?_
        refine m_callv (m_runV (70) (As := []) (rest := []) hx hb hml hown hts hE hM hS hA ce_X4_takeToken tb_665 (F_X4_takeToken l D A ad ns (u2 (u2 (u2 (u2 (u2 (u2 (u2 (u2 (u2 (u2 (u2 (u2 (cpyI I (3) (71) (0) (0) (0)) (70) 3 (0)) (70) 4 (0)) (70) 2 (0)) (70) 9 (0)) (70) 10 (0)) (70) 11 (0)) (70) 12 (0)) (70) 7 (0)) (200) 5 0) (200) 6 0) 70 6 0) 70 5 (-45)) L (u2 G (70) 13 (200)) hM70 (by simp [u2_v, fillI, cpyI, hI]) (by simp [u2_v, fillI, cpyI, hI]) (by simp [u2_v, fillI, cpyI, hI])) rfl rfl ⟨Nat.le_of_ble_eq_true rfl, Nat.le_of_ble_eq_true rfl⟩ (hG.1 70 (by decide)) rfl rfl (by decide) rfl hl.1 rfl (Nat.le_of_ble_eq_true rfl) dX4_read_94 ⟨Nat.le_of_ble_eq_true rfl, Nat.le_of_ble_eq_true rfl⟩) hS (fun u H locs hw hM hS => ?_)
        subst hw
        have hM : Mem D A ad ns (u2 (u2 (u2 (u2 (u2 (u2 (u2 (u2 (u2 (u2 (u2 (u2 (u2 (cpyI I (3) (71) (0) (0) (0)) (70) 3 (0)) (70) 4 (0)) (70) 2 (0)) (70) 9 (0)) (70) 10 (0)) (70) 11 (0)) (70) 12 (0)) (70) 7 (0)) (200) 5 0) (200) 6 0) 70 6 0) 70 5 (-45)) 70 12 1) L (u2 G (70) 13 (200)) H := hM
        refine lv_aload_n hx hb dX4_read_97 rfl (lv_at hl 1 rfl) ?_
        refine lv_dup hx hb dX4_read_98 rfl ?_
        refine m_geti (70) 4 hx hb hts hown hE oc4 hM (hG.1 70 (by decide)) rfl (by decide) rfl tb_322 dX4_read_99 ?_
        rw [show (u2 (u2 (u2 (u2 (u2 (u2 (u2 (u2 (u2 (u2 (u2 (u2 (u2 (cpyI I (3) (71) (0) (0) (0)) (70) 3 (0)) (70) 4 (0)) (70) 2 (0)) (70) 9 (0)) (70) 10 (0)) (70) 11 (0)) (70) 12 (0)) (70) 7 (0)) (200) 5 0) (200) 6 0) 70 6 0) 70 5 (-45)) 70 12 1) (70) 4 = 0 from by simp [u2_v, fillI, cpyI]]
        refine lv_aload_n hx hb dX4_read_102 rfl (lv_at hl 1 rfl) ?_
        refine m_geti (70) 6 hx hb hts hown hE oc4 hM (hG.1 70 (by decide)) rfl (by decide) rfl tb_324 dX4_read_103 ?_
        rw [show (u2 (u2 (u2 (u2 (u2 (u2 (u2 (u2 (u2 (u2 (u2 (u2 (u2 (cpyI I (3) (71) (0) (0) (0)) (70) 3 (0)) (70) 4 (0)) (70) 2 (0)) (70) 9 (0)) (70) 10 (0)) (70) 11 (0)) (70) 12 (0)) (70) 7 (0)) (200) 5 0) (200) 6 0) 70 6 0) 70 5 (-45)) 70 12 1) (70) 6 = 0 from by simp [u2_v, fillI, cpyI]]
        refine lv_iadd hx hb dX4_read_106 ?_
        refine lv_topi (fun v15 ev15 => ?_)
        obtain rfl : v15 = 0 := ev15.trans (by decide)
        refine m_puti (70) 4 hx hb hts hown hE oc4 hM hS (hG.1 70 (by decide)) rfl (by decide) rfl rfl rfl rfl tb_322 dX4_read_107 (fun H locs I16 eI16 hM hS => ?_)
        subst eI16
        refine lv_iinc (v := 1) (lv' := [(4, .int (1)), (0, .ref (ad (70))), (1, .ref (ad (3))), (2, .int (0)), (3, .ref (ad (200)))]) hx hb dX4_read_110 hl (k := 0) rfl (by decide) (by decide) rfl (fun ls hl => ?_)
        refine lv_goto (tgt := 66) hx hb dX4_read_113 (by decide) ?_
        refine lv_iload hx hb dX4_read_66 (lv_at hl 0 rfl) ?_
        refine lv_sipush (v := (400)) hx hb dX4_read_68 (by decide) ?_
        refine lv_icmp_gt (tgt := 116) hx hb dX4_read_71 (by decide) (fun c18 => ?_) (fun c18 => ?_)
        · exact absurd c18 (by decide)
        · have hc18 := c18
          have q18 := q_nlt hc18
          refine lv_aload_n hx hb dX4_read_74 rfl (lv_at hl 1 rfl) ?_
          refine m_geti (70) 7 hx hb hts hown hE oc4 hM (hG.1 70 (by decide)) rfl (by decide) rfl tb_325 dX4_read_75 ?_
          rw [show (u2 (u2 (u2 (u2 (u2 (u2 (u2 (u2 (u2 (u2 (u2 (u2 (u2 (u2 (cpyI I (3) (71) (0) (0) (0)) (70) 3 (0)) (70) 4 (0)) (70) 2 (0)) (70) 9 (0)) (70) 10 (0)) (70) 11 (0)) (70) 12 (0)) (70) 7 (0)) (200) 5 0) (200) 6 0) 70 6 0) 70 5 (-45)) 70 12 1) (70) 4 (0)) (70) 7 = 0 from by simp [u2_v, fillI, cpyI]]
          refine lv_iconst (v := (5)) hx hb dX4_read_78 (by decide) ?_
          refine lv_icmp_eq (tgt := 116) hx hb dX4_read_79 (by decide) (fun c19 => ?_) (fun c19 => ?_)
          · exact absurd c19 (by decide)
          · have hc19 := c19
            have q19 := q_ne hc19
            refine lv_aload_n hx hb dX4_read_82 rfl (lv_at hl 1 rfl) ?_
            refine m_geti (70) 12 hx hb hts hown hE oc4 hM (hG.1 70 (by decide)) rfl (by decide) rfl tb_330 dX4_read_83 ?_
            rw [show (u2 (u2 (u2 (u2 (u2 (u2 (u2 (u2 (u2 (u2 (u2 (u2 (u2 (u2 (cpyI I (3) (71) (0) (0) (0)) (70) 3 (0)) (70) 4 (0)) (70) 2 (0)) (70) 9 (0)) (70) 10 (0)) (70) 11 (0)) (70) 12 (0)) (70) 7 (0)) (200) 5 0) (200) 6 0) 70 6 0) 70 5 (-45)) 70 12 1) (70) 4 (0)) (70) 12 = 1 from by simp [u2_v, fillI, cpyI]]
            refine lv_if_ne (tgt := 116) hx hb dX4_read_86 (by decide) (fun c20 => ?_) (fun c20 => ?_)
            · have hc20 := c20
              have q20 := q_ne hc20
              refine lv_aload_n hx hb dX4_read_116 rfl (lv_at hl 1 rfl) ?_
              refine m_geti (70) 12 hx hb hts hown hE oc4 hM (hG.1 70 (by decide)) rfl (by decide) rfl tb_330 dX4_read_117 ?_
              rw [show (u2 (u2 (u2 (u2 (u2 (u2 (u2 (u2 (u2 (u2 (u2 (u2 (u2 (u2 (cpyI I (3) (71) (0) (0) (0)) (70) 3 (0)) (70) 4 (0)) (70) 2 (0)) (70) 9 (0)) (70) 10 (0)) (70) 11 (0)) (70) 12 (0)) (70) 7 (0)) (200) 5 0) (200) 6 0) 70 6 0) 70 5 (-45)) 70 12 1) (70) 4 (0)) (70) 12 = 1 from by simp [u2_v, fillI, cpyI]]
              exact m_iret hx hb hr hlocks hM hS (Nat.le_of_ble_eq_true rfl) (Nat.le_of_ble_eq_true rfl) ⟨_, _, rfl, rfl, fun n hn => by funext k; simp [u2_v, cpyI, show n ≠ 70 from by omega, show n ≠ 71 from by omega, show n ≠ 200 from by omega], fun n hn => u2_ne _ _ _ hn⟩ dX4_read_120
            · exact absurd c20 (by decide)
theorem dX9_law_0 : decode cX9_law 0 = .ok (.aload_n 0, 1) := by decide +kernel
theorem dX9_law_1 : decode cX9_law 1 = .ok (.getfield 179, 3) := by decide +kernel
theorem dX9_law_4 : decode cX9_law 4 = .ok (.bipush 6, 2) := by decide +kernel
theorem dX9_law_6 : decode cX9_law 6 = .ok (.if_icmp .lt 5, 3) := by decide +kernel
theorem dX9_law_11 : decode cX9_law 11 = .ok (.aload_n 0, 1) := by decide +kernel
theorem dX9_law_12 : decode cX9_law 12 = .ok (.getfield 72, 3) := by decide +kernel
theorem dX9_law_15 : decode cX9_law 15 = .ok (.aload_n 0, 1) := by decide +kernel
theorem dX9_law_16 : decode cX9_law 16 = .ok (.getfield 82, 3) := by decide +kernel
theorem dX9_law_19 : decode cX9_law 19 = .ok (.aload_n 0, 1) := by decide +kernel
theorem dX9_law_20 : decode cX9_law 20 = .ok (.getfield 172, 3) := by decide +kernel
theorem dX9_law_23 : decode cX9_law 23 = .ok (.aload_n 0, 1) := by decide +kernel
theorem dX9_law_24 : decode cX9_law 24 = .ok (.getfield 91, 3) := by decide +kernel
theorem dX9_law_27 : decode cX9_law 27 = .ok (.invokevirtual 182, 3) := by decide +kernel
theorem dX9_law_30 : decode cX9_law 30 = .ok (.istore_n 1, 1) := by decide +kernel
theorem dX9_law_31 : decode cX9_law 31 = .ok (.aload_n 0, 1) := by decide +kernel
theorem dX9_law_32 : decode cX9_law 32 = .ok (.iconst 0, 1) := by decide +kernel
theorem dX9_law_33 : decode cX9_law 33 = .ok (.putfield 172, 3) := by decide +kernel
theorem dX9_law_36 : decode cX9_law 36 = .ok (.iload_n 1, 1) := by decide +kernel
theorem dX9_law_37 : decode cX9_law 37 = .ok (.ifCond .eq 8, 3) := by decide +kernel
theorem dX9_law_40 : decode cX9_law 40 = .ok (.bipush (-2), 2) := by decide +kernel
theorem dX9_law_42 : decode cX9_law 42 = .ok (.iload_n 1, 1) := by decide +kernel
theorem dX9_law_43 : decode cX9_law 43 = .ok (.isub, 1) := by decide +kernel
theorem dX9_law_44 : decode cX9_law 44 = .ok (.ireturn, 1) := by decide +kernel
theorem ce_X9_law : CeV RX9 yX9_law cX9_law 2 (some .int) 0 := ⟨tb_559, tb_560, tb_1, tb_561, rfl, by decide, by decide, by decide +kernel⟩
set_option maxHeartbeats 4000000 in
set_option maxRecDepth 20000 in
theorem F_X9_law (l : Launch) (D : va_G) (A : Nat → Prop) (ad : Nat → Nat) (ns : List Nat) (I : MI) (L : ML) (G : MG) (hG : SGC ns G) (h200 : 200 ∈ ns) (hg : G 0 13 = 200) (hI : ∀ n k, n < 1000 → I n k = 0) : Met l yX9_law (wd yX9_law cX9_law 2 (some .int)) ({ frames := 4, cells := 0, slots := 0, locals := 85 }) (va_Pc [.ref (ad 0)] (PM D A ad ns I L G)) (va_Qi (fun z u => ∃ I2 G2, u = (ad, ns, I2, L, G2) ∧ z = -3 ∧ (∀ n, 1000 ≤ n → I2 n = I n) ∧ ∀ n, n ≠ 70 → G2 n = G n) (BM D A) A) 0 0 A := by
  refine m_ofW (by decide) (Nat.le_of_ble_eq_true rfl) ?_
  intro p e s m below meth c ls args hC hE hM hA hS hl
  obtain ⟨hx, hb, hml, hown, hts, hr, hlocks, hin⟩ := hC
  have km2 : (-2 : Int32).toInt = -2 := by decide
  have k0 : (0 : Int32).toInt = 0 := by decide
  have k6 : (6 : Int32).toInt = 6 := by decide
  have hl : lv_has ls 2 [(0, .ref (ad (0)))] := hl
  refine lv_aload_n hx hb dX9_law_0 rfl (lv_at hl 0 rfl) ?_
  refine m_geti (0) 14 hx hb hts hown hE oc9 hM (hG.1 0 (by decide)) rfl (by decide) rfl tb_412 dX9_law_1 ?_
  rw [show I (0) 14 = 0 from by simp [u2_v, fillI, cpyI, hI]]
  refine lv_bipush (v := (6)) hx hb dX9_law_4 (by decide) ?_
  refine lv_icmp_lt (tgt := 11) hx hb dX9_law_6 (by decide) (fun c1 => ?_) (fun c1 => ?_)
  · have hc1 := c1
    have q1 := q_lt hc1
    refine lv_aload_n hx hb dX9_law_11 rfl (lv_at hl 0 rfl) ?_
    refine m_getr (0) 9 (70) hx hb hts hown hE oc9 hM (hG.1 0 (by decide)) rfl (by decide) rfl (hG.2 (0, 9, 70) (by decide)) (by decide) tb_407 dX9_law_12 ?_
    refine lv_aload_n hx hb dX9_law_15 rfl (lv_at hl 0 rfl) ?_
    refine m_getr (0) 11 (3) hx hb hts hown hE oc9 hM (hG.1 0 (by decide)) rfl (by decide) rfl (hG.2 (0, 11, 3) (by decide)) (by decide) tb_409 dX9_law_16 ?_
    refine lv_aload_n hx hb dX9_law_19 rfl (lv_at hl 0 rfl) ?_
    refine m_geti (0) 15 hx hb hts hown hE oc9 hM (hG.1 0 (by decide)) rfl (by decide) rfl tb_413 dX9_law_20 ?_
    rw [show I (0) 15 = 0 from by simp [u2_v, fillI, cpyI, hI]]
    refine lv_aload_n hx hb dX9_law_23 rfl (lv_at hl 0 rfl) ?_
    refine m_getr (0) 13 (200) hx hb hts hown hE oc9 hM (hG.1 0 (by decide)) rfl (by decide) rfl hg (by decide) tb_411 dX9_law_24 ?_
    refine m_calli (m_runV (70) (As := [.ref (ad (3)), .int (0), .ref (ad (200))]) (rest := []) hx hb hml hown hts hE hM hS hA ce_X4_read tb_562 (F_X4_read l D A ad ns I L G hG h200 hI) rfl rfl ⟨Nat.le_of_ble_eq_true rfl, Nat.le_of_ble_eq_true rfl⟩ (hG.1 70 (by decide)) rfl rfl (by decide) rfl hl.1 rfl (Nat.le_of_ble_eq_true rfl) dX9_law_27 ⟨Nat.le_of_ble_eq_true rfl, Nat.le_of_ble_eq_true rfl⟩) hS (fun r2 u H locs hw hM hS => ?_)
    obtain ⟨I3, G4, rfl, rfl, fI, fG⟩ := hw
    have hM : Mem D A ad ns I3 L G4 H := hM
    refine lv_istore_n (lv' := [(1, .int (1)), (0, .ref (ad (0)))]) hx hb dX9_law_30 rfl hl (by decide) rfl (fun ls hl => ?_)
    refine lv_aload_n hx hb dX9_law_31 rfl (lv_at hl 1 rfl) ?_
    refine lv_iconst (v := (0)) hx hb dX9_law_32 (by decide) ?_
    refine m_puti (0) 15 hx hb hts hown hE oc9 hM hS (hG.1 0 (by decide)) rfl (by decide) rfl rfl rfl rfl tb_413 dX9_law_33 (fun H locs I5 eI5 hM hS => ?_)
    subst eI5
    refine lv_iload_n hx hb dX9_law_36 rfl (lv_at hl 0 rfl) ?_
    refine lv_if_eq (tgt := 45) hx hb dX9_law_37 (by decide) (fun c6 => ?_) (fun c6 => ?_)
    · exact absurd c6 (by decide)
    · have hc6 := c6
      have q6 := q_ne hc6
      refine lv_bipush (v := (-2)) hx hb dX9_law_40 (by decide) ?_
      refine lv_iload_n hx hb dX9_law_42 rfl (lv_at hl 0 rfl) ?_
      refine lv_isub hx hb dX9_law_43 ?_
      refine lv_topi (fun v7 ev7 => ?_)
      obtain rfl : v7 = (-3 : Int32) := ev7.trans (by decide)
      exact m_iret hx hb hr hlocks hM hS (Nat.le_of_ble_eq_true rfl) (Nat.le_of_ble_eq_true rfl) ⟨_, _, rfl, rfl, fun n hn => by funext k; simp [u2_v, show n ≠ 0 from by omega, fI n hn], fG⟩ dX9_law_44
  · exact absurd c1 (by decide)
