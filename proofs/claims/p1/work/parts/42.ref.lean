theorem dJ0_coder_7d493_0 : decode cJ0_coder_7d493 0 = .ok (.getstatic 38, 3) := by decide +kernel
theorem dJ0_coder_7d493_3 : decode cJ0_coder_7d493 3 = .ok (.ifCond .eq 10, 3) := by decide +kernel
theorem dJ0_coder_7d493_6 : decode cJ0_coder_7d493 6 = .ok (.aload_n 0, 1) := by decide +kernel
theorem dJ0_coder_7d493_7 : decode cJ0_coder_7d493 7 = .ok (.getfield 15, 3) := by decide +kernel
theorem dJ0_coder_7d493_10 : decode cJ0_coder_7d493 10 = .ok (.goto 4, 3) := by decide +kernel
theorem dJ0_coder_7d493_14 : decode cJ0_coder_7d493 14 = .ok (.ireturn, 1) := by decide +kernel
theorem ce_J0_coder_7d493 : CeV RJ0 yJ0_coder_7d493 cJ0_coder_7d493 1 (some .byte) 0 := ⟨tb_609, tb_610, tb_14, tb_611, rfl, by decide, by decide, by decide +kernel⟩
set_option maxHeartbeats 4000000 in
set_option maxRecDepth 20000 in
theorem C_J0_coder_7d493 (l : Launch) (D : va_G) (A : Nat → Prop) (ad : Nat → Nat) (ns : List Nat) (I : MI) (L : ML) (G : MG) (i : Nat) (q : String × Nat × String × List Int32) (hq : sq[i]? = some q) : Met l yJ0_coder_7d493 (wd yJ0_coder_7d493 cJ0_coder_7d493 1 (some .byte)) ({ frames := 0, cells := 0, slots := 0, locals := 0 }) (va_Pc [.ref (D.2 100 i)] (PM D A ad ns I L G)) (va_Qi (fun z u => u = (ad, ns, I, L, G) ∧ z = 0) (BM D A) A) 0 0 A := by
  refine m_ofW (by decide) (Nat.le_of_ble_eq_true rfl) ?_
  intro p e s m below meth c ls args hC hE hM hA hS hl
  obtain ⟨hx, hb, hml, hown, hts, hr, hlocks, hin⟩ := hC
  have k0 : (0 : Int32).toInt = 0 := by decide
  have hl : lv_has ls 1 [(0, .ref (D.2 100 i))] := hl
  refine va_gets hx hb hE.2.2.2.2.2.2.2.1 hS hown (hts _ tb_612) (fun _ h => h) dJ0_coder_7d493_0 ?_
  refine lv_if_eq (tgt := 13) hx hb dJ0_coder_7d493_3 (by decide) (fun c1 => ?_) (fun c1 => ?_)
  · exact absurd c1 (by decide)
  · have hc1 := c1
    have q1 := q_ne hc1
    refine lv_aload_n hx hb dJ0_coder_7d493_6 rfl (lv_at hl 0 rfl) ?_
    refine vk_getf hx hb (EV.str hE i hq).2.2.1 hS hown (hts _ tb_1841) (fun _ h => h) dJ0_coder_7d493_7 ?_
    refine lv_goto (tgt := 14) hx hb dJ0_coder_7d493_10 (by decide) ?_
    exact m_zret hx hb hr rfl hlocks hM hS (Nat.le_of_ble_eq_true rfl) (Nat.le_of_ble_eq_true rfl) ⟨rfl, rfl⟩ dJ0_coder_7d493_14
theorem dJ0_length_8abf5_0 : decode cJ0_length_8abf5 0 = .ok (.aload_n 0, 1) := by decide +kernel
theorem dJ0_length_8abf5_1 : decode cJ0_length_8abf5 1 = .ok (.getfield 9, 3) := by decide +kernel
theorem dJ0_length_8abf5_4 : decode cJ0_length_8abf5 4 = .ok (.arraylength, 1) := by decide +kernel
theorem dJ0_length_8abf5_5 : decode cJ0_length_8abf5 5 = .ok (.aload_n 0, 1) := by decide +kernel
theorem dJ0_length_8abf5_6 : decode cJ0_length_8abf5 6 = .ok (.invokevirtual 335, 3) := by decide +kernel
theorem dJ0_length_8abf5_9 : decode cJ0_length_8abf5 9 = .ok (.ishr, 1) := by decide +kernel
theorem dJ0_length_8abf5_10 : decode cJ0_length_8abf5 10 = .ok (.ireturn, 1) := by decide +kernel
theorem ce_J0_length_8abf5 : CeV RJ0 yJ0_length_8abf5 cJ0_length_8abf5 1 (some .int) 0 := ⟨tb_605, tb_606, tb_14, tb_607, rfl, by decide, by decide, by decide +kernel⟩
set_option maxHeartbeats 4000000 in
set_option maxRecDepth 20000 in
theorem C_J0_length_8abf5 (l : Launch) (D : va_G) (A : Nat → Prop) (ad : Nat → Nat) (ns : List Nat) (I : MI) (L : ML) (G : MG) (i : Nat) (q : String × Nat × String × List Int32) (hq : sq[i]? = some q) (hn : q.2.2.2.length < 16) : Met l yJ0_length_8abf5 (wd yJ0_length_8abf5 cJ0_length_8abf5 1 (some .int)) ({ frames := 1, cells := 0, slots := 0, locals := 20 }) (va_Pc [.ref (D.2 100 i)] (PM D A ad ns I L G)) (va_Qi (fun z u => u = (ad, ns, I, L, G) ∧ z = Int32.ofNat q.2.2.2.length) (BM D A) A) 0 0 A := by
  refine m_ofW (by decide) (Nat.le_of_ble_eq_true rfl) ?_
  intro p e s m below meth c ls args hC hE hM hA hS hl
  obtain ⟨hx, hb, hml, hown, hts, hr, hlocks, hin⟩ := hC
  have k0 : (0 : Int32).toInt = 0 := by decide
  have hl : lv_has ls 1 [(0, .ref (D.2 100 i))] := hl
  refine lv_aload_n hx hb dJ0_length_8abf5_0 rfl (lv_at hl 0 rfl) ?_
  refine vk_getf hx hb (EV.str hE i hq).2.2.2.1 hS hown (hts _ tb_1840) (fun _ h => h) dJ0_length_8abf5_1 ?_
  refine va_tlen hx hb (EV.str hE i hq).2.2.2.2 hS (v := Int32.ofNat q.2.2.2.length) rfl dJ0_length_8abf5_4 ?_
  refine lv_aload_n hx hb dJ0_length_8abf5_5 rfl (lv_at hl 0 rfl) ?_
  refine m_calli (m_runVA (D.2 100 i) (As := []) (rest := [.int (Int32.ofNat q.2.2.2.length)]) hx hb hml hown hts hE hM hS hA ce_J0_coder_7d493 tb_608 (C_J0_coder_7d493 l D A ad ns I L G i _ hq) rfl rfl ⟨Nat.le_of_ble_eq_true rfl, Nat.le_of_ble_eq_true rfl⟩ (m_strr hE hS i hq) rfl hl.1 rfl (Nat.le_of_ble_eq_true rfl) dJ0_length_8abf5_6 ⟨Nat.le_of_ble_eq_true rfl, Nat.le_of_ble_eq_true rfl⟩) hS (fun r1 u H locs hw hM hS => ?_)
  obtain ⟨rfl, rfl⟩ := hw
  have hM : Mem D A ad ns I L G H := hM
  refine lv_ishr hx hb dJ0_length_8abf5_9 ?_
  refine lv_topi (fun v2 ev2 => ?_)
  rw [shr0 _ hn] at ev2
  subst ev2
  exact m_iret hx hb hr hlocks hM hS (Nat.le_of_ble_eq_true rfl) (Nat.le_of_ble_eq_true rfl) ⟨rfl, rfl⟩ dJ0_length_8abf5_10
theorem dX10_sign_0 : decode cX10_sign 0 = .ok (.aload_n 0, 1) := by decide +kernel
theorem dX10_sign_1 : decode cX10_sign 1 = .ok (.getfield 267, 3) := by decide +kernel
theorem dX10_sign_4 : decode cX10_sign 4 = .ok (.aload_n 0, 1) := by decide +kernel
theorem dX10_sign_5 : decode cX10_sign 5 = .ok (.getfield 232, 3) := by decide +kernel
theorem dX10_sign_8 : decode cX10_sign 8 = .ok (.if_icmp .ge 19, 3) := by decide +kernel
theorem dX10_sign_27 : decode cX10_sign 27 = .ok (.iconst (-1), 1) := by decide +kernel
theorem dX10_sign_28 : decode cX10_sign 28 = .ok (.ireturn, 1) := by decide +kernel
theorem ce_X10_sign : CeV RX10 yX10_sign cX10_sign 1 (some .int) 0 := ⟨tb_1512, tp_63, tb_11, tb_1513, rfl, by decide, by decide, by decide +kernel⟩
set_option maxHeartbeats 4000000 in
set_option maxRecDepth 20000 in
theorem F_X10_sign (l : Launch) (D : va_G) (A : Nat → Prop) (ad : Nat → Nat) (ns : List Nat) (I : MI) (L : ML) (G : MG) (hJ : SGM ns G) (hp : I 1000 25 = 0) (ht : I 1000 24 = 0) : Met l yX10_sign (wd yX10_sign cX10_sign 1 (some .int)) ({ frames := 0, cells := 0, slots := 0, locals := 0 }) (va_Pc [.ref (ad 1000)] (PM D A ad ns I L G)) (va_Qi (fun z u => u = (ad, ns, I, L, G) ∧ z = -1) (BM D A) A) 0 0 A := by
  refine m_ofW (by decide) (Nat.le_of_ble_eq_true rfl) ?_
  intro p e s m below meth c ls args hC hE hM hA hS hl
  obtain ⟨hx, hb, hml, hown, hts, hr, hlocks, hin⟩ := hC
  have km1 : (-1 : Int32).toInt = -1 := by decide
  have k0 : (0 : Int32).toInt = 0 := by decide
  have hl : lv_has ls 1 [(0, .ref (ad (1000)))] := hl
  refine lv_aload_n hx hb dX10_sign_0 rfl (lv_at hl 0 rfl) ?_
  refine m_geti (1000) 25 hx hb hts hown hE oc10 hM hJ.1 rfl (by decide) rfl tb_1202 dX10_sign_1 ?_
  rw [show I (1000) 25 = 0 from by simp [u2_v, fillI, cpyI, hp]]
  refine lv_aload_n hx hb dX10_sign_4 rfl (lv_at hl 0 rfl) ?_
  refine m_geti (1000) 24 hx hb hts hown hE oc10 hM hJ.1 rfl (by decide) rfl tb_1201 dX10_sign_5 ?_
  rw [show I (1000) 24 = 0 from by simp [u2_v, fillI, cpyI, ht]]
  refine lv_icmp_ge (tgt := 27) hx hb dX10_sign_8 (by decide) (fun c1 => ?_) (fun c1 => ?_)
  · have hc1 := c1
    have q1 := q_le hc1
    refine lv_iconst (v := (-1)) hx hb dX10_sign_27 (by decide) ?_
    exact m_iret hx hb hr hlocks hM hS (Nat.le_of_ble_eq_true rfl) (Nat.le_of_ble_eq_true rfl) ⟨rfl, rfl⟩ dX10_sign_28
  · exact absurd c1 (by decide)
theorem dX10_blanks_0 : decode cX10_blanks 0 = .ok (.aload_n 0, 1) := by decide +kernel
theorem dX10_blanks_1 : decode cX10_blanks 1 = .ok (.invokevirtual 270, 3) := by decide +kernel
theorem dX10_blanks_4 : decode cX10_blanks 4 = .ok (.bipush 32, 2) := by decide +kernel
theorem dX10_blanks_6 : decode cX10_blanks 6 = .ok (.if_icmp .ne 16, 3) := by decide +kernel
theorem dX10_blanks_22 : decode cX10_blanks 22 = .ok (.return_, 1) := by decide +kernel
theorem ce_X10_blanks : CeV RX10 yX10_blanks cX10_blanks 1 none 0 := ⟨tb_1508, tp_62, tb_11, tb_1509, rfl, by decide, by decide, by decide +kernel⟩
set_option maxHeartbeats 4000000 in
set_option maxRecDepth 20000 in
theorem F_X10_blanks (l : Launch) (D : va_G) (A : Nat → Prop) (ad : Nat → Nat) (ns : List Nat) (I : MI) (L : ML) (G : MG) (hJ : SGM ns G) (hp : I 1000 25 = 0) (ht : I 1000 24 = 0) : Met l yX10_blanks (wd yX10_blanks cX10_blanks 1 none) ({ frames := 1, cells := 0, slots := 0, locals := 20 }) (va_Pc [.ref (ad 1000)] (PM D A ad ns I L G)) (va_Qv (fun u => u = (ad, ns, I, L, G)) (BM D A) A) 0 0 A := by
  refine m_ofW (by decide) (Nat.le_of_ble_eq_true rfl) ?_
  intro p e s m below meth c ls args hC hE hM hA hS hl
  obtain ⟨hx, hb, hml, hown, hts, hr, hlocks, hin⟩ := hC
  have k0 : (0 : Int32).toInt = 0 := by decide
  have k32 : (32 : Int32).toInt = 32 := by decide
  have hl : lv_has ls 1 [(0, .ref (ad (1000)))] := hl
  refine lv_aload_n hx hb dX10_blanks_0 rfl (lv_at hl 0 rfl) ?_
  refine m_calli (m_runV (1000) (As := []) (rest := []) hx hb hml hown hts hE hM hS hA ce_X10_sign tb_1510 (F_X10_sign l D A ad ns I L G hJ hp ht) rfl rfl ⟨Nat.le_of_ble_eq_true rfl, Nat.le_of_ble_eq_true rfl⟩ hJ.1 rfl rfl (by decide) rfl hl.1 rfl (Nat.le_of_ble_eq_true rfl) dX10_blanks_1 ⟨Nat.le_of_ble_eq_true rfl, Nat.le_of_ble_eq_true rfl⟩) hS (fun r1 u H locs hw hM hS => ?_)
  obtain ⟨rfl, rfl⟩ := hw
  have hM : Mem D A ad ns I L G H := hM
  refine lv_bipush (v := (32)) hx hb dX10_blanks_4 (by decide) ?_
  refine lv_icmp_ne (tgt := 22) hx hb dX10_blanks_6 (by decide) (fun c2 => ?_) (fun c2 => ?_)
  · have hc2 := c2
    have q2 := q_ne hc2
    exact m_vret hx hb hr hlocks hM hS (Nat.le_of_ble_eq_true rfl) (Nat.le_of_ble_eq_true rfl) rfl dX10_blanks_22
  · exact absurd c2 (by decide)
theorem dX10_stands_0 : decode cX10_stands 0 = .ok (.aload_n 0, 1) := by decide +kernel
theorem dX10_stands_1 : decode cX10_stands 1 = .ok (.getfield 267, 3) := by decide +kernel
theorem dX10_stands_4 : decode cX10_stands 4 = .ok (.istore_n 2, 1) := by decide +kernel
theorem dX10_stands_5 : decode cX10_stands 5 = .ok (.iload_n 2, 1) := by decide +kernel
theorem dX10_stands_6 : decode cX10_stands 6 = .ok (.aload_n 0, 1) := by decide +kernel
theorem dX10_stands_7 : decode cX10_stands 7 = .ok (.getfield 232, 3) := by decide +kernel
theorem dX10_stands_10 : decode cX10_stands 10 = .ok (.if_icmp .ge 31, 3) := by decide +kernel
theorem dX10_stands_41 : decode cX10_stands 41 = .ok (.iload_n 2, 1) := by decide +kernel
theorem dX10_stands_42 : decode cX10_stands 42 = .ok (.aload_n 0, 1) := by decide +kernel
theorem dX10_stands_43 : decode cX10_stands 43 = .ok (.getfield 267, 3) := by decide +kernel
theorem dX10_stands_46 : decode cX10_stands 46 = .ok (.isub, 1) := by decide +kernel
theorem dX10_stands_47 : decode cX10_stands 47 = .ok (.aload_n 1, 1) := by decide +kernel
theorem dX10_stands_48 : decode cX10_stands 48 = .ok (.invokevirtual 278, 3) := by decide +kernel
theorem dX10_stands_51 : decode cX10_stands 51 = .ok (.if_icmp .ne 7, 3) := by decide +kernel
theorem dX10_stands_58 : decode cX10_stands 58 = .ok (.iconst 0, 1) := by decide +kernel
theorem dX10_stands_59 : decode cX10_stands 59 = .ok (.istore_n 3, 1) := by decide +kernel
theorem dX10_stands_60 : decode cX10_stands 60 = .ok (.iconst 0, 1) := by decide +kernel
theorem dX10_stands_61 : decode cX10_stands 61 = .ok (.istore 4, 2) := by decide +kernel
theorem dX10_stands_63 : decode cX10_stands 63 = .ok (.iload 4, 2) := by decide +kernel
theorem dX10_stands_65 : decode cX10_stands 65 = .ok (.aload_n 1, 1) := by decide +kernel
theorem dX10_stands_66 : decode cX10_stands 66 = .ok (.invokevirtual 278, 3) := by decide +kernel
theorem dX10_stands_69 : decode cX10_stands 69 = .ok (.if_icmp .ge 40, 3) := by decide +kernel
theorem dX10_stands_72 : decode cX10_stands 72 = .ok (.iload_n 3, 1) := by decide +kernel
theorem dX10_stands_73 : decode cX10_stands 73 = .ok (.ifCond .eq 36, 3) := by decide +kernel
theorem dX10_stands_109 : decode cX10_stands 109 = .ok (.iload_n 3, 1) := by decide +kernel
theorem dX10_stands_110 : decode cX10_stands 110 = .ok (.ireturn, 1) := by decide +kernel
theorem ce_X10_stands : CeV RX10 yX10_stands cX10_stands 5 (some .boolean) 1 := ⟨tb_1517, tp_64, tb_11, tb_1518, rfl, by decide, by decide, by decide +kernel⟩
set_option maxHeartbeats 4000000 in
set_option maxRecDepth 20000 in
theorem F_X10_stands (l : Launch) (D : va_G) (A : Nat → Prop) (ad : Nat → Nat) (ns : List Nat) (I : MI) (L : ML) (G : MG) (hJ : SGM ns G) (hp : I 1000 25 = 0) (ht : I 1000 24 = 0) : Met l yX10_stands (wd yX10_stands cX10_stands 5 (some .boolean)) ({ frames := 2, cells := 0, slots := 0, locals := 40 }) (va_Pc [.ref (ad 1000), .ref (D.2 100 10)] (PM D A ad ns I L G)) (va_Qi (fun z u => u = (ad, ns, I, L, G) ∧ z = 0) (BM D A) A) 0 0 A := by
  refine m_ofW (by decide) (Nat.le_of_ble_eq_true rfl) ?_
  intro p e s m below meth c ls args hC hE hM hA hS hl
  obtain ⟨hx, hb, hml, hown, hts, hr, hlocks, hin⟩ := hC
  have k0 : (0 : Int32).toInt = 0 := by decide
  have hl : lv_has ls 5 [(0, .ref (ad (1000))), (1, .ref (D.2 100 10))] := hl
  refine lv_aload_n hx hb dX10_stands_0 rfl (lv_at hl 0 rfl) ?_
  refine m_geti (1000) 25 hx hb hts hown hE oc10 hM hJ.1 rfl (by decide) rfl tb_1202 dX10_stands_1 ?_
  rw [show I (1000) 25 = 0 from by simp [u2_v, fillI, cpyI, hp]]
  refine lv_istore_n (lv' := [(2, .int (0)), (0, .ref (ad (1000))), (1, .ref (D.2 100 10))]) hx hb dX10_stands_4 rfl hl (by decide) rfl (fun ls hl => ?_)
  refine lv_iload_n hx hb dX10_stands_5 rfl (lv_at hl 0 rfl) ?_
  refine lv_aload_n hx hb dX10_stands_6 rfl (lv_at hl 1 rfl) ?_
  refine m_geti (1000) 24 hx hb hts hown hE oc10 hM hJ.1 rfl (by decide) rfl tb_1201 dX10_stands_7 ?_
  rw [show I (1000) 24 = 0 from by simp [u2_v, fillI, cpyI, ht]]
  refine lv_icmp_ge (tgt := 41) hx hb dX10_stands_10 (by decide) (fun c1 => ?_) (fun c1 => ?_)
  · have hc1 := c1
    have q1 := q_le hc1
    refine lv_iload_n hx hb dX10_stands_41 rfl (lv_at hl 0 rfl) ?_
    refine lv_aload_n hx hb dX10_stands_42 rfl (lv_at hl 1 rfl) ?_
    refine m_geti (1000) 25 hx hb hts hown hE oc10 hM hJ.1 rfl (by decide) rfl tb_1202 dX10_stands_43 ?_
    rw [show I (1000) 25 = 0 from by simp [u2_v, fillI, cpyI, hp]]
    refine lv_isub hx hb dX10_stands_46 ?_
    refine lv_topi (fun v2 ev2 => ?_)
    obtain rfl : v2 = 0 := ev2.trans (by decide)
    refine lv_aload_n hx hb dX10_stands_47 rfl (lv_at hl 2 rfl) ?_
    refine m_calli (m_runVA (D.2 100 10) (As := []) (rest := [.int (0)]) hx hb hml hown hts hE hM hS hA ce_J0_length_8abf5 tb_1519 (C_J0_length_8abf5 l D A ad ns I L G 10 _ rfl (by decide)) rfl rfl ⟨Nat.le_of_ble_eq_true rfl, Nat.le_of_ble_eq_true rfl⟩ (m_strr hE hS 10 rfl) rfl hl.1 rfl (Nat.le_of_ble_eq_true rfl) dX10_stands_48 ⟨Nat.le_of_ble_eq_true rfl, Nat.le_of_ble_eq_true rfl⟩) hS (fun r3 u H locs hw hM hS => ?_)
    obtain ⟨rfl, rfl⟩ := hw
    have hM : Mem D A ad ns I L G H := hM
    refine lv_icmp_ne (tgt := 58) hx hb dX10_stands_51 (by decide) (fun c4 => ?_) (fun c4 => ?_)
    · have hc4 := c4
      have q4 := q_ne hc4
      refine lv_iconst (v := (0)) hx hb dX10_stands_58 (by decide) ?_
      refine lv_istore_n (lv' := [(3, .int (0)), (2, .int (0)), (0, .ref (ad (1000))), (1, .ref (D.2 100 10))]) hx hb dX10_stands_59 rfl hl (by decide) rfl (fun ls hl => ?_)
      refine lv_iconst (v := (0)) hx hb dX10_stands_60 (by decide) ?_
      refine lv_istore (lv' := [(4, .int (0)), (3, .int (0)), (2, .int (0)), (0, .ref (ad (1000))), (1, .ref (D.2 100 10))]) hx hb dX10_stands_61 hl (by decide) rfl (fun ls hl => ?_)
      refine lv_iload hx hb dX10_stands_63 (lv_at hl 0 rfl) ?_
      refine lv_aload_n hx hb dX10_stands_65 rfl (lv_at hl 4 rfl) ?_
      refine m_calli (m_runVA (D.2 100 10) (As := []) (rest := [.int (0)]) hx hb hml hown hts hE hM hS hA ce_J0_length_8abf5 tb_1519 (C_J0_length_8abf5 l D A ad ns I L G 10 _ rfl (by decide)) rfl rfl ⟨Nat.le_of_ble_eq_true rfl, Nat.le_of_ble_eq_true rfl⟩ (m_strr hE hS 10 rfl) rfl hl.1 rfl (Nat.le_of_ble_eq_true rfl) dX10_stands_66 ⟨Nat.le_of_ble_eq_true rfl, Nat.le_of_ble_eq_true rfl⟩) hS (fun r5 u H locs hw hM hS => ?_)
      obtain ⟨rfl, rfl⟩ := hw
      have hM : Mem D A ad ns I L G H := hM
      refine lv_icmp_ge (tgt := 109) hx hb dX10_stands_69 (by decide) (fun c6 => ?_) (fun c6 => ?_)
      · exact absurd c6 (by decide)
      · have hc6 := c6
        have q6 := q_nle hc6
        refine lv_iload_n hx hb dX10_stands_72 rfl (lv_at hl 1 rfl) ?_
        refine lv_if_eq (tgt := 109) hx hb dX10_stands_73 (by decide) (fun c7 => ?_) (fun c7 => ?_)
        · have hc7 := c7
          have q7 := q_eq hc7
          refine lv_iload_n hx hb dX10_stands_109 rfl (lv_at hl 1 rfl) ?_
          exact m_zret hx hb hr rfl hlocks hM hS (Nat.le_of_ble_eq_true rfl) (Nat.le_of_ble_eq_true rfl) ⟨rfl, rfl⟩ dX10_stands_110
        · exact absurd c7 (by decide)
    · exact absurd c4 (by decide)
  · exact absurd c1 (by decide)
theorem dX10_fails_0 : decode cX10_fails 0 = .ok (.aload_n 0, 1) := by decide +kernel
theorem dX10_fails_1 : decode cX10_fails 1 = .ok (.aload_n 0, 1) := by decide +kernel
theorem dX10_fails_2 : decode cX10_fails 2 = .ok (.getfield 264, 3) := by decide +kernel
theorem dX10_fails_5 : decode cX10_fails 5 = .ok (.ifCond .ne 14, 3) := by decide +kernel
theorem dX10_fails_8 : decode cX10_fails 8 = .ok (.iconst 1, 1) := by decide +kernel
theorem dX10_fails_9 : decode cX10_fails 9 = .ok (.bipush 8, 2) := by decide +kernel
theorem dX10_fails_11 : decode cX10_fails 11 = .ok (.iload_n 2, 1) := by decide +kernel
theorem dX10_fails_12 : decode cX10_fails 12 = .ok (.imul, 1) := by decide +kernel
theorem dX10_fails_13 : decode cX10_fails 13 = .ok (.iadd, 1) := by decide +kernel
theorem dX10_fails_14 : decode cX10_fails 14 = .ok (.iload_n 1, 1) := by decide +kernel
theorem dX10_fails_15 : decode cX10_fails 15 = .ok (.iadd, 1) := by decide +kernel
theorem dX10_fails_16 : decode cX10_fails 16 = .ok (.goto 7, 3) := by decide +kernel
theorem dX10_fails_23 : decode cX10_fails 23 = .ok (.putfield 264, 3) := by decide +kernel
theorem dX10_fails_26 : decode cX10_fails 26 = .ok (.return_, 1) := by decide +kernel
theorem ce_X10_fails : CeV RX10 yX10_fails cX10_fails 3 none 2 := ⟨tb_1523, tp_65, tb_11, tb_1524, rfl, by decide, by decide, by decide +kernel⟩
set_option maxHeartbeats 4000000 in
set_option maxRecDepth 20000 in
theorem F_X10_fails (l : Launch) (D : va_G) (A : Nat → Prop) (ad : Nat → Nat) (ns : List Nat) (I : MI) (L : ML) (G : MG) (hJ : SGM ns G) (hf : I 1000 26 = 0) : Met l yX10_fails (wd yX10_fails cX10_fails 3 none) ({ frames := 0, cells := 0, slots := 0, locals := 0 }) (va_Pc [.ref (ad 1000), .int 0, .int 0] (PM D A ad ns I L G)) (va_Qv (fun u => u = (ad, ns, u2 I 1000 26 1, L, G)) (BM D A) A) 0 0 A := by
  refine m_ofW (by decide) (Nat.le_of_ble_eq_true rfl) ?_
  intro p e s m below meth c ls args hC hE hM hA hS hl
  obtain ⟨hx, hb, hml, hown, hts, hr, hlocks, hin⟩ := hC
  have k0 : (0 : Int32).toInt = 0 := by decide
  have k1 : (1 : Int32).toInt = 1 := by decide
  have k8 : (8 : Int32).toInt = 8 := by decide
  have hl : lv_has ls 3 [(0, .ref (ad (1000))), (1, .int (0)), (2, .int (0))] := hl
  refine lv_aload_n hx hb dX10_fails_0 rfl (lv_at hl 0 rfl) ?_
  refine lv_aload_n hx hb dX10_fails_1 rfl (lv_at hl 0 rfl) ?_
  refine m_geti (1000) 26 hx hb hts hown hE oc10 hM hJ.1 rfl (by decide) rfl tb_1203 dX10_fails_2 ?_
  rw [show I (1000) 26 = 0 from by simp [u2_v, fillI, cpyI, hf]]
  refine lv_if_ne (tgt := 19) hx hb dX10_fails_5 (by decide) (fun c1 => ?_) (fun c1 => ?_)
  · exact absurd c1 (by decide)
  · have hc1 := c1
    have q1 := q_eq hc1
    refine lv_iconst (v := (1)) hx hb dX10_fails_8 (by decide) ?_
    refine lv_bipush (v := (8)) hx hb dX10_fails_9 (by decide) ?_
    refine lv_iload_n hx hb dX10_fails_11 rfl (lv_at hl 2 rfl) ?_
    refine lv_imul hx hb dX10_fails_12 ?_
    refine lv_topi (fun v2 ev2 => ?_)
    obtain rfl : v2 = 0 := ev2.trans (by decide)
    refine lv_iadd hx hb dX10_fails_13 ?_
    refine lv_topi (fun v3 ev3 => ?_)
    obtain rfl : v3 = 1 := ev3.trans (by decide)
    refine lv_iload_n hx hb dX10_fails_14 rfl (lv_at hl 1 rfl) ?_
    refine lv_iadd hx hb dX10_fails_15 ?_
    refine lv_topi (fun v4 ev4 => ?_)
    obtain rfl : v4 = 1 := ev4.trans (by decide)
    refine lv_goto (tgt := 23) hx hb dX10_fails_16 (by decide) ?_
    refine m_puti (1000) 26 hx hb hts hown hE oc10 hM hS hJ.1 rfl (by decide) rfl rfl rfl rfl tb_1203 dX10_fails_23 (fun H locs I5 eI5 hM hS => ?_)
    subst eI5
    exact m_vret hx hb hr hlocks hM hS (Nat.le_of_ble_eq_true rfl) (Nat.le_of_ble_eq_true rfl) rfl dX10_fails_26
theorem dX10_clause_0 : decode cX10_clause 0 = .ok (.aload_n 0, 1) := by decide +kernel
theorem dX10_clause_1 : decode cX10_clause 1 = .ok (.invokevirtual 287, 3) := by decide +kernel
theorem dX10_clause_4 : decode cX10_clause 4 = .ok (.aload_n 0, 1) := by decide +kernel
theorem dX10_clause_5 : decode cX10_clause 5 = .ok (.getfield 267, 3) := by decide +kernel
theorem dX10_clause_8 : decode cX10_clause 8 = .ok (.istore_n 2, 1) := by decide +kernel
theorem dX10_clause_9 : decode cX10_clause 9 = .ok (.aload_n 0, 1) := by decide +kernel
theorem dX10_clause_10 : decode cX10_clause 10 = .ok (.ldc_w 361, 3) := by decide +kernel
theorem dX10_clause_13 : decode cX10_clause 13 = .ok (.invokevirtual 290, 3) := by decide +kernel
theorem dX10_clause_16 : decode cX10_clause 16 = .ok (.ifCond .ne 10, 3) := by decide +kernel
theorem dX10_clause_19 : decode cX10_clause 19 = .ok (.aload_n 0, 1) := by decide +kernel
theorem dX10_clause_20 : decode cX10_clause 20 = .ok (.iconst 0, 1) := by decide +kernel
theorem dX10_clause_21 : decode cX10_clause 21 = .ok (.iload_n 2, 1) := by decide +kernel
theorem dX10_clause_22 : decode cX10_clause 22 = .ok (.invokevirtual 303, 3) := by decide +kernel
theorem dX10_clause_25 : decode cX10_clause 25 = .ok (.return_, 1) := by decide +kernel
theorem ce_X10_clause : CeV RX10 yX10_clause cX10_clause 4 none 1 := ⟨tb_1504, tp_61, tb_11, tb_1505, rfl, by decide, by decide, by decide +kernel⟩
set_option maxHeartbeats 4000000 in
set_option maxRecDepth 20000 in
theorem F_X10_clause (l : Launch) (D : va_G) (A : Nat → Prop) (ad : Nat → Nat) (ns : List Nat) (I : MI) (L : ML) (G : MG) (hJ : SGM ns G) (hp : I 1000 25 = 0) (ht : I 1000 24 = 0) (hf : I 1000 26 = 0) : Met l yX10_clause (wd yX10_clause cX10_clause 4 none) ({ frames := 3, cells := 0, slots := 0, locals := 64 }) (va_Pc [.ref (ad 1000), .int 0] (PM D A ad ns I L G)) (va_Qv (fun u => u = (ad, ns, u2 I 1000 26 1, L, G)) (BM D A) A) 0 0 A := by
  refine m_ofW (by decide) (Nat.le_of_ble_eq_true rfl) ?_
  intro p e s m below meth c ls args hC hE hM hA hS hl
  obtain ⟨hx, hb, hml, hown, hts, hr, hlocks, hin⟩ := hC
  have k0 : (0 : Int32).toInt = 0 := by decide
  have hl : lv_has ls 4 [(0, .ref (ad (1000))), (1, .int (0))] := hl
  refine lv_aload_n hx hb dX10_clause_0 rfl (lv_at hl 0 rfl) ?_
  refine m_callv (m_runV (1000) (As := []) (rest := []) hx hb hml hown hts hE hM hS hA ce_X10_blanks tb_1506 (F_X10_blanks l D A ad ns I L G hJ hp ht) rfl rfl ⟨Nat.le_of_ble_eq_true rfl, Nat.le_of_ble_eq_true rfl⟩ hJ.1 rfl rfl (by decide) rfl hl.1 rfl (Nat.le_of_ble_eq_true rfl) dX10_clause_1 ⟨Nat.le_of_ble_eq_true rfl, Nat.le_of_ble_eq_true rfl⟩) hS (fun u H locs hw hM hS => ?_)
  subst hw
  have hM : Mem D A ad ns I L G H := hM
  refine lv_aload_n hx hb dX10_clause_4 rfl (lv_at hl 0 rfl) ?_
  refine m_geti (1000) 25 hx hb hts hown hE oc10 hM hJ.1 rfl (by decide) rfl tb_1202 dX10_clause_5 ?_
  rw [show I (1000) 25 = 0 from by simp [u2_v, fillI, cpyI, hp]]
  refine lv_istore_n (lv' := [(2, .int (0)), (0, .ref (ad (1000))), (1, .int (0))]) hx hb dX10_clause_8 rfl hl (by decide) rfl (fun ls hl => ?_)
  refine lv_aload_n hx hb dX10_clause_9 rfl (lv_at hl 1 rfl) ?_
  refine m_ldcwS hx hb hown (EV.str hE 10 rfl).1 dX10_clause_10 ?_
  refine m_calli (m_runV (1000) (As := [.ref (D.2 100 10)]) (rest := []) hx hb hml hown hts hE hM hS hA ce_X10_stands tb_1515 (F_X10_stands l D A ad ns I L G hJ hp ht) rfl rfl ⟨Nat.le_of_ble_eq_true rfl, Nat.le_of_ble_eq_true rfl⟩ hJ.1 rfl rfl (by decide) rfl hl.1 rfl (Nat.le_of_ble_eq_true rfl) dX10_clause_13 ⟨Nat.le_of_ble_eq_true rfl, Nat.le_of_ble_eq_true rfl⟩) hS (fun r1 u H locs hw hM hS => ?_)
  obtain ⟨rfl, rfl⟩ := hw
  have hM : Mem D A ad ns I L G H := hM
  refine lv_if_ne (tgt := 26) hx hb dX10_clause_16 (by decide) (fun c2 => ?_) (fun c2 => ?_)
  · exact absurd c2 (by decide)
  · have hc2 := c2
    have q2 := q_eq hc2
    refine lv_aload_n hx hb dX10_clause_19 rfl (lv_at hl 1 rfl) ?_
    refine lv_iconst (v := (0)) hx hb dX10_clause_20 (by decide) ?_
    refine lv_iload_n hx hb dX10_clause_21 rfl (lv_at hl 0 rfl) ?_
    refine m_callv (m_runV (1000) (As := [.int (0), .int (0)]) (rest := []) hx hb hml hown hts hE hM hS hA ce_X10_fails tb_1521 (F_X10_fails l D A ad ns I L G hJ hf) rfl rfl ⟨Nat.le_of_ble_eq_true rfl, Nat.le_of_ble_eq_true rfl⟩ hJ.1 rfl rfl (by decide) rfl hl.1 rfl (Nat.le_of_ble_eq_true rfl) dX10_clause_22 ⟨Nat.le_of_ble_eq_true rfl, Nat.le_of_ble_eq_true rfl⟩) hS (fun u H locs hw hM hS => ?_)
    subst hw
    have hM : Mem D A ad ns (u2 I 1000 26 1) L G H := hM
    exact m_vret hx hb hr hlocks hM hS (Nat.le_of_ble_eq_true rfl) (Nat.le_of_ble_eq_true rfl) rfl dX10_clause_25
theorem dX10_law_0 : decode cX10_law 0 = .ok (.aload_n 0, 1) := by decide +kernel
theorem dX10_law_1 : decode cX10_law 1 = .ok (.getfield 371, 3) := by decide +kernel
theorem dX10_law_4 : decode cX10_law 4 = .ok (.bipush 6, 2) := by decide +kernel
theorem dX10_law_6 : decode cX10_law 6 = .ok (.if_icmp .ne 5, 3) := by decide +kernel
theorem dX10_law_11 : decode cX10_law 11 = .ok (.aload_n 0, 1) := by decide +kernel
theorem dX10_law_12 : decode cX10_law 12 = .ok (.aload_n 0, 1) := by decide +kernel
theorem dX10_law_13 : decode cX10_law 13 = .ok (.getfield 371, 3) := by decide +kernel
theorem dX10_law_16 : decode cX10_law 16 = .ok (.putfield 294, 3) := by decide +kernel
theorem dX10_law_19 : decode cX10_law 19 = .ok (.aload_n 0, 1) := by decide +kernel
theorem dX10_law_20 : decode cX10_law 20 = .ok (.iconst 0, 1) := by decide +kernel
theorem dX10_law_21 : decode cX10_law 21 = .ok (.putfield 267, 3) := by decide +kernel
theorem dX10_law_24 : decode cX10_law 24 = .ok (.aload_n 0, 1) := by decide +kernel
theorem dX10_law_25 : decode cX10_law 25 = .ok (.iconst 0, 1) := by decide +kernel
theorem dX10_law_26 : decode cX10_law 26 = .ok (.putfield 264, 3) := by decide +kernel
theorem dX10_law_29 : decode cX10_law 29 = .ok (.aload_n 0, 1) := by decide +kernel
theorem dX10_law_30 : decode cX10_law 30 = .ok (.iconst 0, 1) := by decide +kernel
theorem dX10_law_31 : decode cX10_law 31 = .ok (.putfield 297, 3) := by decide +kernel
theorem dX10_law_34 : decode cX10_law 34 = .ok (.aload_n 0, 1) := by decide +kernel
theorem dX10_law_35 : decode cX10_law 35 = .ok (.iconst 0, 1) := by decide +kernel
theorem dX10_law_36 : decode cX10_law 36 = .ok (.putfield 337, 3) := by decide +kernel
theorem dX10_law_39 : decode cX10_law 39 = .ok (.aload_n 0, 1) := by decide +kernel
theorem dX10_law_40 : decode cX10_law 40 = .ok (.iconst 0, 1) := by decide +kernel
theorem dX10_law_41 : decode cX10_law 41 = .ok (.putfield 300, 3) := by decide +kernel
theorem dX10_law_44 : decode cX10_law 44 = .ok (.iconst 0, 1) := by decide +kernel
theorem dX10_law_45 : decode cX10_law 45 = .ok (.istore_n 1, 1) := by decide +kernel
theorem dX10_law_46 : decode cX10_law 46 = .ok (.iconst 1, 1) := by decide +kernel
theorem dX10_law_47 : decode cX10_law 47 = .ok (.istore_n 2, 1) := by decide +kernel
theorem dX10_law_48 : decode cX10_law 48 = .ok (.iload_n 2, 1) := by decide +kernel
theorem dX10_law_49 : decode cX10_law 49 = .ok (.ifCond .eq 88, 3) := by decide +kernel
theorem dX10_law_52 : decode cX10_law 52 = .ok (.aload_n 0, 1) := by decide +kernel
theorem dX10_law_53 : decode cX10_law 53 = .ok (.iload_n 1, 1) := by decide +kernel
theorem dX10_law_54 : decode cX10_law 54 = .ok (.invokevirtual 374, 3) := by decide +kernel
theorem dX10_law_57 : decode cX10_law 57 = .ok (.iinc 1 1, 3) := by decide +kernel
theorem dX10_law_60 : decode cX10_law 60 = .ok (.aload_n 0, 1) := by decide +kernel
theorem dX10_law_61 : decode cX10_law 61 = .ok (.invokevirtual 287, 3) := by decide +kernel
theorem dX10_law_64 : decode cX10_law 64 = .ok (.aload_n 0, 1) := by decide +kernel
theorem dX10_law_65 : decode cX10_law 65 = .ok (.getfield 264, 3) := by decide +kernel
theorem dX10_law_68 : decode cX10_law 68 = .ok (.ifCond .ne 32, 3) := by decide +kernel
theorem dX10_law_100 : decode cX10_law 100 = .ok (.aload_n 0, 1) := by decide +kernel
theorem dX10_law_101 : decode cX10_law 101 = .ok (.getfield 264, 3) := by decide +kernel
theorem dX10_law_104 : decode cX10_law 104 = .ok (.ifCond .ne 18, 3) := by decide +kernel
theorem dX10_law_122 : decode cX10_law 122 = .ok (.iconst 0, 1) := by decide +kernel
theorem dX10_law_123 : decode cX10_law 123 = .ok (.istore_n 2, 1) := by decide +kernel
theorem dX10_law_124 : decode cX10_law 124 = .ok (.aload_n 0, 1) := by decide +kernel
theorem dX10_law_125 : decode cX10_law 125 = .ok (.dup, 1) := by decide +kernel
theorem dX10_law_126 : decode cX10_law 126 = .ok (.getfield 267, 3) := by decide +kernel
theorem dX10_law_129 : decode cX10_law 129 = .ok (.iconst 1, 1) := by decide +kernel
theorem dX10_law_130 : decode cX10_law 130 = .ok (.iadd, 1) := by decide +kernel
theorem dX10_law_131 : decode cX10_law 131 = .ok (.putfield 267, 3) := by decide +kernel
theorem dX10_law_134 : decode cX10_law 134 = .ok (.goto (-86), 3) := by decide +kernel
theorem dX10_law_137 : decode cX10_law 137 = .ok (.aload_n 0, 1) := by decide +kernel
theorem dX10_law_138 : decode cX10_law 138 = .ok (.iconst 0, 1) := by decide +kernel
theorem dX10_law_139 : decode cX10_law 139 = .ok (.putfield 232, 3) := by decide +kernel
theorem dX10_law_142 : decode cX10_law 142 = .ok (.aload_n 0, 1) := by decide +kernel
theorem dX10_law_143 : decode cX10_law 143 = .ok (.getfield 93, 3) := by decide +kernel
theorem dX10_law_146 : decode cX10_law 146 = .ok (.aload_n 0, 1) := by decide +kernel
theorem dX10_law_147 : decode cX10_law 147 = .ok (.getfield 294, 3) := by decide +kernel
theorem dX10_law_150 : decode cX10_law 150 = .ok (.iload_n 1, 1) := by decide +kernel
theorem dX10_law_151 : decode cX10_law 151 = .ok (.iastore, 1) := by decide +kernel
theorem dX10_law_152 : decode cX10_law 152 = .ok (.aload_n 0, 1) := by decide +kernel
theorem dX10_law_153 : decode cX10_law 153 = .ok (.dup, 1) := by decide +kernel
theorem dX10_law_154 : decode cX10_law 154 = .ok (.getfield 371, 3) := by decide +kernel
theorem dX10_law_157 : decode cX10_law 157 = .ok (.aload_n 0, 1) := by decide +kernel
theorem dX10_law_158 : decode cX10_law 158 = .ok (.getfield 264, 3) := by decide +kernel
theorem dX10_law_161 : decode cX10_law 161 = .ok (.ifCond .ne 7, 3) := by decide +kernel
theorem dX10_law_168 : decode cX10_law 168 = .ok (.iconst 0, 1) := by decide +kernel
theorem dX10_law_169 : decode cX10_law 169 = .ok (.iadd, 1) := by decide +kernel
theorem dX10_law_170 : decode cX10_law 170 = .ok (.putfield 371, 3) := by decide +kernel
theorem dX10_law_173 : decode cX10_law 173 = .ok (.aload_n 0, 1) := by decide +kernel
theorem dX10_law_174 : decode cX10_law 174 = .ok (.getfield 264, 3) := by decide +kernel
theorem dX10_law_177 : decode cX10_law 177 = .ok (.ifCond .le 13, 3) := by decide +kernel
theorem dX10_law_180 : decode cX10_law 180 = .ok (.bipush (-2), 2) := by decide +kernel
theorem dX10_law_182 : decode cX10_law 182 = .ok (.aload_n 0, 1) := by decide +kernel
theorem dX10_law_183 : decode cX10_law 183 = .ok (.getfield 264, 3) := by decide +kernel
theorem dX10_law_186 : decode cX10_law 186 = .ok (.isub, 1) := by decide +kernel
theorem dX10_law_187 : decode cX10_law 187 = .ok (.goto 9, 3) := by decide +kernel
theorem dX10_law_196 : decode cX10_law 196 = .ok (.ireturn, 1) := by decide +kernel
theorem ce_X10_law : CeV RX10 yX10_law cX10_law 3 (some .int) 0 := ⟨tb_1499, tb_1500, tb_11, tb_1501, rfl, by decide, by decide, by decide +kernel⟩
set_option maxHeartbeats 4000000 in
set_option maxRecDepth 20000 in
theorem F_X10_law (l : Launch) (D : va_G) (A : Nat → Prop) (ad : Nat → Nat) (ns : List Nat) (I : MI) (L : ML) (G : MG) (hJ : SGM ns G) (hI : ∀ n k, 1000 ≤ n → n ≠ 1000 ∨ (k ≠ 33 ∧ k ≠ 57) → I n k = 0) : Met l yX10_law (wd yX10_law cX10_law 3 (some .int)) ({ frames := 4, cells := 0, slots := 0, locals := 87 }) (va_Pc [.ref (ad 1000)] (PM D A ad ns I L G)) (va_Qi (fun z u => ∃ I2, u = (ad, ns, I2, L, G) ∧ z = -3) (BM D A) A) 0 0 A := by
  refine m_ofW (by decide) (Nat.le_of_ble_eq_true rfl) ?_
  intro p e s m below meth c ls args hC hE hM hA hS hl
  obtain ⟨hx, hb, hml, hown, hts, hr, hlocks, hin⟩ := hC
  have km2 : (-2 : Int32).toInt = -2 := by decide
  have k0 : (0 : Int32).toInt = 0 := by decide
  have k1 : (1 : Int32).toInt = 1 := by decide
  have k6 : (6 : Int32).toInt = 6 := by decide
  have hl : lv_has ls 3 [(0, .ref (ad (1000)))] := hl
  refine lv_aload_n hx hb dX10_law_0 rfl (lv_at hl 0 rfl) ?_
  refine m_geti (1000) 28 hx hb hts hown hE oc10 hM hJ.1 rfl (by decide) rfl tb_1205 dX10_law_1 ?_
  rw [show I (1000) 28 = 0 from by simp [u2_v, fillI, cpyI, hI]]
  refine lv_bipush (v := (6)) hx hb dX10_law_4 (by decide) ?_
  refine lv_icmp_ne (tgt := 11) hx hb dX10_law_6 (by decide) (fun c1 => ?_) (fun c1 => ?_)
  · have hc1 := c1
    have q1 := q_ne hc1
    refine lv_aload_n hx hb dX10_law_11 rfl (lv_at hl 0 rfl) ?_
    refine lv_aload_n hx hb dX10_law_12 rfl (lv_at hl 0 rfl) ?_
    refine m_geti (1000) 28 hx hb hts hown hE oc10 hM hJ.1 rfl (by decide) rfl tb_1205 dX10_law_13 ?_
    rw [show I (1000) 28 = 0 from by simp [u2_v, fillI, cpyI, hI]]
    refine m_puti (1000) 27 hx hb hts hown hE oc10 hM hS hJ.1 rfl (by decide) rfl rfl rfl rfl tb_1204 dX10_law_16 (fun H locs I2 eI2 hM hS => ?_)
    subst eI2
    refine lv_aload_n hx hb dX10_law_19 rfl (lv_at hl 0 rfl) ?_
    refine lv_iconst (v := (0)) hx hb dX10_law_20 (by decide) ?_
    refine m_puti (1000) 25 hx hb hts hown hE oc10 hM hS hJ.1 rfl (by decide) rfl rfl rfl rfl tb_1202 dX10_law_21 (fun H locs I3 eI3 hM hS => ?_)
    subst eI3
    refine lv_aload_n hx hb dX10_law_24 rfl (lv_at hl 0 rfl) ?_
    refine lv_iconst (v := (0)) hx hb dX10_law_25 (by decide) ?_
    refine m_puti (1000) 26 hx hb hts hown hE oc10 hM hS hJ.1 rfl (by decide) rfl rfl rfl rfl tb_1203 dX10_law_26 (fun H locs I4 eI4 hM hS => ?_)
    subst eI4
    refine lv_aload_n hx hb dX10_law_29 rfl (lv_at hl 0 rfl) ?_
    refine lv_iconst (v := (0)) hx hb dX10_law_30 (by decide) ?_
    refine m_puti (1000) 29 hx hb hts hown hE oc10 hM hS hJ.1 rfl (by decide) rfl rfl rfl rfl tb_1206 dX10_law_31 (fun H locs I5 eI5 hM hS => ?_)
    subst eI5
    refine lv_aload_n hx hb dX10_law_34 rfl (lv_at hl 0 rfl) ?_
    refine lv_iconst (v := (0)) hx hb dX10_law_35 (by decide) ?_
    refine m_puti (1000) 30 hx hb hts hown hE oc10 hM hS hJ.1 rfl (by decide) rfl rfl rfl rfl tb_1207 dX10_law_36 (fun H locs I6 eI6 hM hS => ?_)
    subst eI6
    refine lv_aload_n hx hb dX10_law_39 rfl (lv_at hl 0 rfl) ?_
    refine lv_iconst (v := (0)) hx hb dX10_law_40 (by decide) ?_
    refine m_puti (1000) 31 hx hb hts hown hE oc10 hM hS hJ.1 rfl (by decide) rfl rfl rfl rfl tb_1208 dX10_law_41 (fun H locs I7 eI7 hM hS => ?_)
    subst eI7
    refine lv_iconst (v := (0)) hx hb dX10_law_44 (by decide) ?_
    refine lv_istore_n (lv' := [(1, .int (0)), (0, .ref (ad (1000)))]) hx hb dX10_law_45 rfl hl (by decide) rfl (fun ls hl => ?_)
    refine lv_iconst (v := (1)) hx hb dX10_law_46 (by decide) ?_
    refine lv_istore_n (lv' := [(2, .int (1)), (1, .int (0)), (0, .ref (ad (1000)))]) hx hb dX10_law_47 rfl hl (by decide) rfl (fun ls hl => ?_)
    refine lv_iload_n hx hb dX10_law_48 rfl (lv_at hl 0 rfl) ?_
    refine lv_if_eq (tgt := 137) hx hb dX10_law_49 (by decide) (fun c8 => ?_) (fun c8 => ?_)
    · exact absurd c8 (by decide)
    · have hc8 := c8
      have q8 := q_ne hc8
      refine lv_aload_n hx hb dX10_law_52 rfl (lv_at hl 2 rfl) ?_
      refine lv_iload_n hx hb dX10_law_53 rfl (lv_at hl 1 rfl) ?_
      refine m_callv (m_runV (1000) (As := [.int (0)]) (rest := []) hx hb hml hown hts hE hM hS hA ce_X10_clause tb_1502 (F_X10_clause l D A ad ns (u2 (u2 (u2 (u2 (u2 (u2 I (1000) 27 (0)) (1000) 25 (0)) (1000) 26 (0)) (1000) 29 (0)) (1000) 30 (0)) (1000) 31 (0)) L G hJ (by simp [u2_v, hI]) (by simp [u2_v, hI]) (by simp [u2_v, hI])) rfl rfl ⟨Nat.le_of_ble_eq_true rfl, Nat.le_of_ble_eq_true rfl⟩ hJ.1 rfl rfl (by decide) rfl hl.1 rfl (Nat.le_of_ble_eq_true rfl) dX10_law_54 ⟨Nat.le_of_ble_eq_true rfl, Nat.le_of_ble_eq_true rfl⟩) hS (fun u H locs hw hM hS => ?_)
      subst hw
      have hM : Mem D A ad ns (u2 (u2 (u2 (u2 (u2 (u2 (u2 I (1000) 27 (0)) (1000) 25 (0)) (1000) 26 (0)) (1000) 29 (0)) (1000) 30 (0)) (1000) 31 (0)) 1000 26 1) L G H := hM
      refine lv_iinc (v := 1) (lv' := [(1, .int (1)), (2, .int (1)), (0, .ref (ad (1000)))]) hx hb dX10_law_57 hl (k := 1) rfl (by decide) (by decide) rfl (fun ls hl => ?_)
      refine lv_aload_n hx hb dX10_law_60 rfl (lv_at hl 2 rfl) ?_
      refine m_callv (m_runV (1000) (As := []) (rest := []) hx hb hml hown hts hE hM hS hA ce_X10_blanks tb_1506 (F_X10_blanks l D A ad ns (u2 (u2 (u2 (u2 (u2 (u2 (u2 I (1000) 27 (0)) (1000) 25 (0)) (1000) 26 (0)) (1000) 29 (0)) (1000) 30 (0)) (1000) 31 (0)) 1000 26 1) L G hJ (by simp [u2_v, hI]) (by simp [u2_v, hI])) rfl rfl ⟨Nat.le_of_ble_eq_true rfl, Nat.le_of_ble_eq_true rfl⟩ hJ.1 rfl rfl (by decide) rfl hl.1 rfl (Nat.le_of_ble_eq_true rfl) dX10_law_61 ⟨Nat.le_of_ble_eq_true rfl, Nat.le_of_ble_eq_true rfl⟩) hS (fun u H locs hw hM hS => ?_)
      subst hw
      have hM : Mem D A ad ns (u2 (u2 (u2 (u2 (u2 (u2 (u2 I (1000) 27 (0)) (1000) 25 (0)) (1000) 26 (0)) (1000) 29 (0)) (1000) 30 (0)) (1000) 31 (0)) 1000 26 1) L G H := hM
      refine lv_aload_n hx hb dX10_law_64 rfl (lv_at hl 2 rfl) ?_
      refine m_geti (1000) 26 hx hb hts hown hE oc10 hM hJ.1 rfl (by decide) rfl tb_1203 dX10_law_65 ?_
      rw [show (u2 (u2 (u2 (u2 (u2 (u2 (u2 I (1000) 27 (0)) (1000) 25 (0)) (1000) 26 (0)) (1000) 29 (0)) (1000) 30 (0)) (1000) 31 (0)) 1000 26 1) (1000) 26 = 1 from by simp [u2_v, fillI, cpyI]]
      refine lv_if_ne (tgt := 100) hx hb dX10_law_68 (by decide) (fun c10 => ?_) (fun c10 => ?_)
      · have hc10 := c10
        have q10 := q_ne hc10
        refine lv_aload_n hx hb dX10_law_100 rfl (lv_at hl 2 rfl) ?_
        refine m_geti (1000) 26 hx hb hts hown hE oc10 hM hJ.1 rfl (by decide) rfl tb_1203 dX10_law_101 ?_
        rw [show (u2 (u2 (u2 (u2 (u2 (u2 (u2 I (1000) 27 (0)) (1000) 25 (0)) (1000) 26 (0)) (1000) 29 (0)) (1000) 30 (0)) (1000) 31 (0)) 1000 26 1) (1000) 26 = 1 from by simp [u2_v, fillI, cpyI]]
        refine lv_if_ne (tgt := 122) hx hb dX10_law_104 (by decide) (fun c11 => ?_) (fun c11 => ?_)
        · have hc11 := c11
          have q11 := q_ne hc11
          refine lv_iconst (v := (0)) hx hb dX10_law_122 (by decide) ?_
          refine lv_istore_n (lv' := [(2, .int (0)), (1, .int (1)), (0, .ref (ad (1000)))]) hx hb dX10_law_123 rfl hl (by decide) rfl (fun ls hl => ?_)
          refine lv_aload_n hx hb dX10_law_124 rfl (lv_at hl 2 rfl) ?_
          refine lv_dup hx hb dX10_law_125 rfl ?_
          refine m_geti (1000) 25 hx hb hts hown hE oc10 hM hJ.1 rfl (by decide) rfl tb_1202 dX10_law_126 ?_
          rw [show (u2 (u2 (u2 (u2 (u2 (u2 (u2 I (1000) 27 (0)) (1000) 25 (0)) (1000) 26 (0)) (1000) 29 (0)) (1000) 30 (0)) (1000) 31 (0)) 1000 26 1) (1000) 25 = 0 from by simp [u2_v, fillI, cpyI]]
          refine lv_iconst (v := (1)) hx hb dX10_law_129 (by decide) ?_
          refine lv_iadd hx hb dX10_law_130 ?_
          refine lv_topi (fun v12 ev12 => ?_)
          obtain rfl : v12 = 1 := ev12.trans (by decide)
          refine m_puti (1000) 25 hx hb hts hown hE oc10 hM hS hJ.1 rfl (by decide) rfl rfl rfl rfl tb_1202 dX10_law_131 (fun H locs I13 eI13 hM hS => ?_)
          subst eI13
          refine lv_goto (tgt := 48) hx hb dX10_law_134 (by decide) ?_
          refine lv_iload_n hx hb dX10_law_48 rfl (lv_at hl 0 rfl) ?_
          refine lv_if_eq (tgt := 137) hx hb dX10_law_49 (by decide) (fun c14 => ?_) (fun c14 => ?_)
          · have hc14 := c14
            have q14 := q_eq hc14
            refine lv_aload_n hx hb dX10_law_137 rfl (lv_at hl 2 rfl) ?_
            refine lv_iconst (v := (0)) hx hb dX10_law_138 (by decide) ?_
            refine m_puti (1000) 24 hx hb hts hown hE oc10 hM hS hJ.1 rfl (by decide) rfl rfl rfl rfl tb_1201 dX10_law_139 (fun H locs I15 eI15 hM hS => ?_)
            subst eI15
            refine lv_aload_n hx hb dX10_law_142 rfl (lv_at hl 2 rfl) ?_
            refine m_getr (1000) 37 (1037) hx hb hts hown hE oc10 hM hJ.1 rfl (by decide) rfl (hJ.2 37 (by decide)).2 (by decide) tb_1214 dX10_law_143 ?_
            refine lv_aload_n hx hb dX10_law_146 rfl (lv_at hl 2 rfl) ?_
            refine m_geti (1000) 27 hx hb hts hown hE oc10 hM hJ.1 rfl (by decide) rfl tb_1204 dX10_law_147 ?_
            rw [show (u2 (u2 (u2 (u2 (u2 (u2 (u2 (u2 (u2 I (1000) 27 (0)) (1000) 25 (0)) (1000) 26 (0)) (1000) 29 (0)) (1000) 30 (0)) (1000) 31 (0)) 1000 26 1) (1000) 25 (1)) (1000) 24 (0)) (1000) 27 = 0 from by simp [u2_v, fillI, cpyI]]
            refine lv_iload_n hx hb dX10_law_150 rfl (lv_at hl 1 rfl) ?_
            refine m_iast (1037) hx hb hE hM hS (hJ.2 37 (by decide)).1 rfl (vp_in_iff.mpr (by decide)) dX10_law_151 (fun H locs I16 eI16 hM hS => ?_)
            rw [show (0 : Int32).toNatClampNeg = 0 from rfl] at eI16
            subst eI16
            refine lv_aload_n hx hb dX10_law_152 rfl (lv_at hl 2 rfl) ?_
            refine lv_dup hx hb dX10_law_153 rfl ?_
            refine m_geti (1000) 28 hx hb hts hown hE oc10 hM hJ.1 rfl (by decide) rfl tb_1205 dX10_law_154 ?_
            rw [show (u2 (u2 (u2 (u2 (u2 (u2 (u2 (u2 (u2 (u2 I (1000) 27 (0)) (1000) 25 (0)) (1000) 26 (0)) (1000) 29 (0)) (1000) 30 (0)) (1000) 31 (0)) 1000 26 1) (1000) 25 (1)) (1000) 24 (0)) (1037) 0 (1)) (1000) 28 = 0 from by simp [u2_v, fillI, cpyI, hI]]
            refine lv_aload_n hx hb dX10_law_157 rfl (lv_at hl 2 rfl) ?_
            refine m_geti (1000) 26 hx hb hts hown hE oc10 hM hJ.1 rfl (by decide) rfl tb_1203 dX10_law_158 ?_
            rw [show (u2 (u2 (u2 (u2 (u2 (u2 (u2 (u2 (u2 (u2 I (1000) 27 (0)) (1000) 25 (0)) (1000) 26 (0)) (1000) 29 (0)) (1000) 30 (0)) (1000) 31 (0)) 1000 26 1) (1000) 25 (1)) (1000) 24 (0)) (1037) 0 (1)) (1000) 26 = 1 from by simp [u2_v, fillI, cpyI]]
            refine lv_if_ne (tgt := 168) hx hb dX10_law_161 (by decide) (fun c17 => ?_) (fun c17 => ?_)
            · have hc17 := c17
              have q17 := q_ne hc17
              refine lv_iconst (v := (0)) hx hb dX10_law_168 (by decide) ?_
              refine lv_iadd hx hb dX10_law_169 ?_
              refine lv_topi (fun v18 ev18 => ?_)
              obtain rfl : v18 = 0 := ev18.trans (by decide)
              refine m_puti (1000) 28 hx hb hts hown hE oc10 hM hS hJ.1 rfl (by decide) rfl rfl rfl rfl tb_1205 dX10_law_170 (fun H locs I19 eI19 hM hS => ?_)
              subst eI19
              refine lv_aload_n hx hb dX10_law_173 rfl (lv_at hl 2 rfl) ?_
              refine m_geti (1000) 26 hx hb hts hown hE oc10 hM hJ.1 rfl (by decide) rfl tb_1203 dX10_law_174 ?_
              rw [show (u2 (u2 (u2 (u2 (u2 (u2 (u2 (u2 (u2 (u2 (u2 I (1000) 27 (0)) (1000) 25 (0)) (1000) 26 (0)) (1000) 29 (0)) (1000) 30 (0)) (1000) 31 (0)) 1000 26 1) (1000) 25 (1)) (1000) 24 (0)) (1037) 0 (1)) (1000) 28 (0)) (1000) 26 = 1 from by simp [u2_v, fillI, cpyI]]
              refine lv_if_le (tgt := 190) hx hb dX10_law_177 (by decide) (fun c20 => ?_) (fun c20 => ?_)
              · exact absurd c20 (by decide)
              · have hc20 := c20
                have q20 := q_nle hc20
                refine lv_bipush (v := (-2)) hx hb dX10_law_180 (by decide) ?_
                refine lv_aload_n hx hb dX10_law_182 rfl (lv_at hl 2 rfl) ?_
                refine m_geti (1000) 26 hx hb hts hown hE oc10 hM hJ.1 rfl (by decide) rfl tb_1203 dX10_law_183 ?_
                rw [show (u2 (u2 (u2 (u2 (u2 (u2 (u2 (u2 (u2 (u2 (u2 I (1000) 27 (0)) (1000) 25 (0)) (1000) 26 (0)) (1000) 29 (0)) (1000) 30 (0)) (1000) 31 (0)) 1000 26 1) (1000) 25 (1)) (1000) 24 (0)) (1037) 0 (1)) (1000) 28 (0)) (1000) 26 = 1 from by simp [u2_v, fillI, cpyI]]
                refine lv_isub hx hb dX10_law_186 ?_
                refine lv_topi (fun v21 ev21 => ?_)
                obtain rfl : v21 = (-3 : Int32) := ev21.trans (by decide)
                refine lv_goto (tgt := 196) hx hb dX10_law_187 (by decide) ?_
                exact m_iret hx hb hr hlocks hM hS (Nat.le_of_ble_eq_true rfl) (Nat.le_of_ble_eq_true rfl) ⟨_, rfl, rfl⟩ dX10_law_196
            · exact absurd c17 (by decide)
          · exact absurd c14 (by decide)
        · exact absurd c11 (by decide)
      · exact absurd c10 (by decide)
  · exact absurd c1 (by decide)
theorem dX10_count_0 : decode cX10_count 0 = .ok (.iload_n 1, 1) := by decide +kernel
theorem dX10_count_1 : decode cX10_count 1 = .ok (.tableswitch 211 0 9 #[55, 73, 91, 110, 129, 147, 166, 182, 201, 206], 55) := by decide +kernel
theorem dX10_count_56 : decode cX10_count 56 = .ok (.aload_n 0, 1) := by decide +kernel
theorem dX10_count_57 : decode cX10_count 57 = .ok (.invokevirtual 188, 3) := by decide +kernel
theorem dX10_count_60 : decode cX10_count 60 = .ok (.ifCond .eq 12, 3) := by decide +kernel
theorem dX10_count_72 : decode cX10_count 72 = .ok (.iconst (-1), 1) := by decide +kernel
theorem dX10_count_73 : decode cX10_count 73 = .ok (.ireturn, 1) := by decide +kernel
theorem dX10_count_74 : decode cX10_count 74 = .ok (.aload_n 0, 1) := by decide +kernel
theorem dX10_count_75 : decode cX10_count 75 = .ok (.invokevirtual 188, 3) := by decide +kernel
theorem dX10_count_78 : decode cX10_count 78 = .ok (.ifCond .eq 12, 3) := by decide +kernel
theorem dX10_count_90 : decode cX10_count 90 = .ok (.iconst (-1), 1) := by decide +kernel
theorem dX10_count_91 : decode cX10_count 91 = .ok (.ireturn, 1) := by decide +kernel
theorem dX10_count_92 : decode cX10_count 92 = .ok (.aload_n 0, 1) := by decide +kernel
theorem dX10_count_93 : decode cX10_count 93 = .ok (.invokevirtual 188, 3) := by decide +kernel
theorem dX10_count_96 : decode cX10_count 96 = .ok (.ifCond .eq 13, 3) := by decide +kernel
theorem dX10_count_109 : decode cX10_count 109 = .ok (.iconst (-1), 1) := by decide +kernel
theorem dX10_count_110 : decode cX10_count 110 = .ok (.ireturn, 1) := by decide +kernel
theorem dX10_count_111 : decode cX10_count 111 = .ok (.aload_n 0, 1) := by decide +kernel
theorem dX10_count_112 : decode cX10_count 112 = .ok (.invokevirtual 188, 3) := by decide +kernel
theorem dX10_count_115 : decode cX10_count 115 = .ok (.ifCond .eq 13, 3) := by decide +kernel
theorem dX10_count_128 : decode cX10_count 128 = .ok (.iconst (-1), 1) := by decide +kernel
theorem dX10_count_129 : decode cX10_count 129 = .ok (.ireturn, 1) := by decide +kernel
theorem dX10_count_130 : decode cX10_count 130 = .ok (.aload_n 0, 1) := by decide +kernel
theorem dX10_count_131 : decode cX10_count 131 = .ok (.invokevirtual 188, 3) := by decide +kernel
theorem dX10_count_134 : decode cX10_count 134 = .ok (.ifCond .eq 12, 3) := by decide +kernel
theorem dX10_count_146 : decode cX10_count 146 = .ok (.iconst (-1), 1) := by decide +kernel
theorem dX10_count_147 : decode cX10_count 147 = .ok (.ireturn, 1) := by decide +kernel
theorem dX10_count_148 : decode cX10_count 148 = .ok (.aload_n 0, 1) := by decide +kernel
theorem dX10_count_149 : decode cX10_count 149 = .ok (.invokevirtual 188, 3) := by decide +kernel
theorem dX10_count_152 : decode cX10_count 152 = .ok (.ifCond .eq 13, 3) := by decide +kernel
theorem dX10_count_165 : decode cX10_count 165 = .ok (.iconst (-1), 1) := by decide +kernel
theorem dX10_count_166 : decode cX10_count 166 = .ok (.ireturn, 1) := by decide +kernel
theorem dX10_count_167 : decode cX10_count 167 = .ok (.aload_n 0, 1) := by decide +kernel
theorem dX10_count_168 : decode cX10_count 168 = .ok (.invokevirtual 188, 3) := by decide +kernel
theorem dX10_count_171 : decode cX10_count 171 = .ok (.ifCond .eq 10, 3) := by decide +kernel
theorem dX10_count_181 : decode cX10_count 181 = .ok (.iconst (-1), 1) := by decide +kernel
theorem dX10_count_182 : decode cX10_count 182 = .ok (.ireturn, 1) := by decide +kernel
theorem dX10_count_183 : decode cX10_count 183 = .ok (.aload_n 0, 1) := by decide +kernel
theorem dX10_count_184 : decode cX10_count 184 = .ok (.invokevirtual 188, 3) := by decide +kernel
theorem dX10_count_187 : decode cX10_count 187 = .ok (.ifCond .eq 13, 3) := by decide +kernel
theorem dX10_count_200 : decode cX10_count 200 = .ok (.iconst (-1), 1) := by decide +kernel
theorem dX10_count_201 : decode cX10_count 201 = .ok (.ireturn, 1) := by decide +kernel
theorem dX10_count_202 : decode cX10_count 202 = .ok (.aload_n 0, 1) := by decide +kernel
theorem dX10_count_203 : decode cX10_count 203 = .ok (.getfield 371, 3) := by decide +kernel
theorem dX10_count_206 : decode cX10_count 206 = .ok (.ireturn, 1) := by decide +kernel
theorem dX10_count_207 : decode cX10_count 207 = .ok (.aload_n 0, 1) := by decide +kernel
theorem dX10_count_208 : decode cX10_count 208 = .ok (.getfield 232, 3) := by decide +kernel
theorem dX10_count_211 : decode cX10_count 211 = .ok (.ireturn, 1) := by decide +kernel
theorem dX10_count_212 : decode cX10_count 212 = .ok (.iconst (-1), 1) := by decide +kernel
theorem dX10_count_213 : decode cX10_count 213 = .ok (.ireturn, 1) := by decide +kernel
theorem ce_X10_count : CeV RX10 yX10_count cX10_count 2 (some .int) 1 := ⟨tb_1821, tb_1822, tb_11, tb_1823, rfl, by decide, by decide, by decide +kernel⟩
set_option maxHeartbeats 4000000 in
set_option maxRecDepth 20000 in
theorem F_X10_count (l : Launch) (D : va_G) (A : Nat → Prop) (ad : Nat → Nat) (ns : List Nat) (I : MI) (L : ML) (G : MG) (a : Int32) (hJ : SGM ns G) (hI : ∀ n k, 1000 ≤ n → n ≠ 1000 ∨ (k ≠ 33 ∧ k ≠ 57) → I n k = 0) : Met l yX10_count (wd yX10_count cX10_count 2 (some .int)) ({ frames := 1, cells := 0, slots := 0, locals := 20 }) (va_Pc [.ref (ad 1000), .int a] (PM D A ad ns I L G)) (va_Qi (fun z u => u = (ad, ns, I, L, G) ∧ (((a.toInt = 8 ∨ a.toInt = 9) ∧ z = 0) ∨ (¬ (a.toInt = 8 ∨ a.toInt = 9) ∧ z = -1))) (BM D A) A) 0 0 A := by
  refine m_ofW (by decide) (Nat.le_of_ble_eq_true rfl) ?_
  intro p e s m below meth c ls args hC hE hM hA hS hl
  obtain ⟨hx, hb, hml, hown, hts, hr, hlocks, hin⟩ := hC
  have km1 : (-1 : Int32).toInt = -1 := by decide
  have k0 : (0 : Int32).toInt = 0 := by decide
  have hl : lv_has ls 2 [(0, .ref (ad (1000))), (1, .int (a))] := hl
  refine lv_iload_n hx hb dX10_count_0 rfl (lv_at hl 1 rfl) ?_
  by_cases c1 : (a).toInt < 0 ∨ 9 < (a).toInt
  · refine lv_tableOut (tgt := 212) hx hb dX10_count_1 c1 (by decide) ?_
    refine lv_iconst (v := (-1)) hx hb dX10_count_212 (by decide) ?_
    exact m_iret hx hb hr hlocks hM hS (Nat.le_of_ble_eq_true rfl) (Nat.le_of_ble_eq_true rfl) ⟨rfl, Or.inr ⟨by omega, rfl⟩⟩ dX10_count_213
  · have qc1 : (a).toInt = 0 ∨ (a).toInt = 1 ∨ (a).toInt = 2 ∨ (a).toInt = 3 ∨ (a).toInt = 4 ∨ (a).toInt = 5 ∨ (a).toInt = 6 ∨ (a).toInt = 7 ∨ (a).toInt = 8 ∨ (a).toInt = 9 := by omega
    rcases qc1 with qc1 | qc1 | qc1 | qc1 | qc1 | qc1 | qc1 | qc1 | qc1 | qc1
    · refine lv_tableIn (off := 55) (tgt := 56) hx hb dX10_count_1 (by omega) (by omega) (by rw [qc1]; rfl) (by decide) ?_
      refine lv_aload_n hx hb dX10_count_56 rfl (lv_at hl 0 rfl) ?_
      refine m_calli (m_runV (1000) (As := []) (rest := []) hx hb hml hown hts hE hM hS hA ce_X10_isTown tb_1441 (C_X10_isTown l D A ad ns I L G hJ) rfl rfl ⟨Nat.le_of_ble_eq_true rfl, Nat.le_of_ble_eq_true rfl⟩ hJ.1 rfl rfl (by decide) rfl hl.1 rfl (Nat.le_of_ble_eq_true rfl) dX10_count_57 ⟨Nat.le_of_ble_eq_true rfl, Nat.le_of_ble_eq_true rfl⟩) hS (fun r2 u H locs hw hM hS => ?_)
      obtain ⟨rfl, b_r2⟩ := hw
      have hM : Mem D A ad ns I L G H := hM
      obtain rfl : r2 = 0 := b_r2.z (by rw [hI 1001 0 (by decide) (by decide)]; decide)
      refine lv_if_eq (tgt := 72) hx hb dX10_count_60 (by decide) (fun c3 => ?_) (fun c3 => ?_)
      · have hc3 := c3
        have q3 := q_eq hc3
        refine lv_iconst (v := (-1)) hx hb dX10_count_72 (by decide) ?_
        exact m_iret hx hb hr hlocks hM hS (Nat.le_of_ble_eq_true rfl) (Nat.le_of_ble_eq_true rfl) ⟨rfl, Or.inr ⟨by omega, rfl⟩⟩ dX10_count_73
      · exact absurd c3 (by decide)
    · refine lv_tableIn (off := 73) (tgt := 74) hx hb dX10_count_1 (by omega) (by omega) (by rw [qc1]; rfl) (by decide) ?_
      refine lv_aload_n hx hb dX10_count_74 rfl (lv_at hl 0 rfl) ?_
      refine m_calli (m_runV (1000) (As := []) (rest := []) hx hb hml hown hts hE hM hS hA ce_X10_isTown tb_1441 (C_X10_isTown l D A ad ns I L G hJ) rfl rfl ⟨Nat.le_of_ble_eq_true rfl, Nat.le_of_ble_eq_true rfl⟩ hJ.1 rfl rfl (by decide) rfl hl.1 rfl (Nat.le_of_ble_eq_true rfl) dX10_count_75 ⟨Nat.le_of_ble_eq_true rfl, Nat.le_of_ble_eq_true rfl⟩) hS (fun r4 u H locs hw hM hS => ?_)
      obtain ⟨rfl, b_r4⟩ := hw
      have hM : Mem D A ad ns I L G H := hM
      obtain rfl : r4 = 0 := b_r4.z (by rw [hI 1001 0 (by decide) (by decide)]; decide)
      refine lv_if_eq (tgt := 90) hx hb dX10_count_78 (by decide) (fun c5 => ?_) (fun c5 => ?_)
      · have hc5 := c5
        have q5 := q_eq hc5
        refine lv_iconst (v := (-1)) hx hb dX10_count_90 (by decide) ?_
        exact m_iret hx hb hr hlocks hM hS (Nat.le_of_ble_eq_true rfl) (Nat.le_of_ble_eq_true rfl) ⟨rfl, Or.inr ⟨by omega, rfl⟩⟩ dX10_count_91
      · exact absurd c5 (by decide)
    · refine lv_tableIn (off := 91) (tgt := 92) hx hb dX10_count_1 (by omega) (by omega) (by rw [qc1]; rfl) (by decide) ?_
      refine lv_aload_n hx hb dX10_count_92 rfl (lv_at hl 0 rfl) ?_
      refine m_calli (m_runV (1000) (As := []) (rest := []) hx hb hml hown hts hE hM hS hA ce_X10_isTown tb_1441 (C_X10_isTown l D A ad ns I L G hJ) rfl rfl ⟨Nat.le_of_ble_eq_true rfl, Nat.le_of_ble_eq_true rfl⟩ hJ.1 rfl rfl (by decide) rfl hl.1 rfl (Nat.le_of_ble_eq_true rfl) dX10_count_93 ⟨Nat.le_of_ble_eq_true rfl, Nat.le_of_ble_eq_true rfl⟩) hS (fun r6 u H locs hw hM hS => ?_)
      obtain ⟨rfl, b_r6⟩ := hw
      have hM : Mem D A ad ns I L G H := hM
      obtain rfl : r6 = 0 := b_r6.z (by rw [hI 1001 0 (by decide) (by decide)]; decide)
      refine lv_if_eq (tgt := 109) hx hb dX10_count_96 (by decide) (fun c7 => ?_) (fun c7 => ?_)
      · have hc7 := c7
        have q7 := q_eq hc7
        refine lv_iconst (v := (-1)) hx hb dX10_count_109 (by decide) ?_
        exact m_iret hx hb hr hlocks hM hS (Nat.le_of_ble_eq_true rfl) (Nat.le_of_ble_eq_true rfl) ⟨rfl, Or.inr ⟨by omega, rfl⟩⟩ dX10_count_110
      · exact absurd c7 (by decide)
    · refine lv_tableIn (off := 110) (tgt := 111) hx hb dX10_count_1 (by omega) (by omega) (by rw [qc1]; rfl) (by decide) ?_
      refine lv_aload_n hx hb dX10_count_111 rfl (lv_at hl 0 rfl) ?_
      refine m_calli (m_runV (1000) (As := []) (rest := []) hx hb hml hown hts hE hM hS hA ce_X10_isTown tb_1441 (C_X10_isTown l D A ad ns I L G hJ) rfl rfl ⟨Nat.le_of_ble_eq_true rfl, Nat.le_of_ble_eq_true rfl⟩ hJ.1 rfl rfl (by decide) rfl hl.1 rfl (Nat.le_of_ble_eq_true rfl) dX10_count_112 ⟨Nat.le_of_ble_eq_true rfl, Nat.le_of_ble_eq_true rfl⟩) hS (fun r8 u H locs hw hM hS => ?_)
      obtain ⟨rfl, b_r8⟩ := hw
      have hM : Mem D A ad ns I L G H := hM
      obtain rfl : r8 = 0 := b_r8.z (by rw [hI 1001 0 (by decide) (by decide)]; decide)
      refine lv_if_eq (tgt := 128) hx hb dX10_count_115 (by decide) (fun c9 => ?_) (fun c9 => ?_)
      · have hc9 := c9
        have q9 := q_eq hc9
        refine lv_iconst (v := (-1)) hx hb dX10_count_128 (by decide) ?_
        exact m_iret hx hb hr hlocks hM hS (Nat.le_of_ble_eq_true rfl) (Nat.le_of_ble_eq_true rfl) ⟨rfl, Or.inr ⟨by omega, rfl⟩⟩ dX10_count_129
      · exact absurd c9 (by decide)
    · refine lv_tableIn (off := 129) (tgt := 130) hx hb dX10_count_1 (by omega) (by omega) (by rw [qc1]; rfl) (by decide) ?_
      refine lv_aload_n hx hb dX10_count_130 rfl (lv_at hl 0 rfl) ?_
      refine m_calli (m_runV (1000) (As := []) (rest := []) hx hb hml hown hts hE hM hS hA ce_X10_isTown tb_1441 (C_X10_isTown l D A ad ns I L G hJ) rfl rfl ⟨Nat.le_of_ble_eq_true rfl, Nat.le_of_ble_eq_true rfl⟩ hJ.1 rfl rfl (by decide) rfl hl.1 rfl (Nat.le_of_ble_eq_true rfl) dX10_count_131 ⟨Nat.le_of_ble_eq_true rfl, Nat.le_of_ble_eq_true rfl⟩) hS (fun r10 u H locs hw hM hS => ?_)
      obtain ⟨rfl, b_r10⟩ := hw
      have hM : Mem D A ad ns I L G H := hM
      obtain rfl : r10 = 0 := b_r10.z (by rw [hI 1001 0 (by decide) (by decide)]; decide)
      refine lv_if_eq (tgt := 146) hx hb dX10_count_134 (by decide) (fun c11 => ?_) (fun c11 => ?_)
      · have hc11 := c11
        have q11 := q_eq hc11
        refine lv_iconst (v := (-1)) hx hb dX10_count_146 (by decide) ?_
        exact m_iret hx hb hr hlocks hM hS (Nat.le_of_ble_eq_true rfl) (Nat.le_of_ble_eq_true rfl) ⟨rfl, Or.inr ⟨by omega, rfl⟩⟩ dX10_count_147
      · exact absurd c11 (by decide)
    · refine lv_tableIn (off := 147) (tgt := 148) hx hb dX10_count_1 (by omega) (by omega) (by rw [qc1]; rfl) (by decide) ?_
      refine lv_aload_n hx hb dX10_count_148 rfl (lv_at hl 0 rfl) ?_
      refine m_calli (m_runV (1000) (As := []) (rest := []) hx hb hml hown hts hE hM hS hA ce_X10_isTown tb_1441 (C_X10_isTown l D A ad ns I L G hJ) rfl rfl ⟨Nat.le_of_ble_eq_true rfl, Nat.le_of_ble_eq_true rfl⟩ hJ.1 rfl rfl (by decide) rfl hl.1 rfl (Nat.le_of_ble_eq_true rfl) dX10_count_149 ⟨Nat.le_of_ble_eq_true rfl, Nat.le_of_ble_eq_true rfl⟩) hS (fun r12 u H locs hw hM hS => ?_)
      obtain ⟨rfl, b_r12⟩ := hw
      have hM : Mem D A ad ns I L G H := hM
      obtain rfl : r12 = 0 := b_r12.z (by rw [hI 1001 0 (by decide) (by decide)]; decide)
      refine lv_if_eq (tgt := 165) hx hb dX10_count_152 (by decide) (fun c13 => ?_) (fun c13 => ?_)
      · have hc13 := c13
        have q13 := q_eq hc13
        refine lv_iconst (v := (-1)) hx hb dX10_count_165 (by decide) ?_
        exact m_iret hx hb hr hlocks hM hS (Nat.le_of_ble_eq_true rfl) (Nat.le_of_ble_eq_true rfl) ⟨rfl, Or.inr ⟨by omega, rfl⟩⟩ dX10_count_166
      · exact absurd c13 (by decide)
    · refine lv_tableIn (off := 166) (tgt := 167) hx hb dX10_count_1 (by omega) (by omega) (by rw [qc1]; rfl) (by decide) ?_
      refine lv_aload_n hx hb dX10_count_167 rfl (lv_at hl 0 rfl) ?_
      refine m_calli (m_runV (1000) (As := []) (rest := []) hx hb hml hown hts hE hM hS hA ce_X10_isTown tb_1441 (C_X10_isTown l D A ad ns I L G hJ) rfl rfl ⟨Nat.le_of_ble_eq_true rfl, Nat.le_of_ble_eq_true rfl⟩ hJ.1 rfl rfl (by decide) rfl hl.1 rfl (Nat.le_of_ble_eq_true rfl) dX10_count_168 ⟨Nat.le_of_ble_eq_true rfl, Nat.le_of_ble_eq_true rfl⟩) hS (fun r14 u H locs hw hM hS => ?_)
      obtain ⟨rfl, b_r14⟩ := hw
      have hM : Mem D A ad ns I L G H := hM
      obtain rfl : r14 = 0 := b_r14.z (by rw [hI 1001 0 (by decide) (by decide)]; decide)
      refine lv_if_eq (tgt := 181) hx hb dX10_count_171 (by decide) (fun c15 => ?_) (fun c15 => ?_)
      · have hc15 := c15
        have q15 := q_eq hc15
        refine lv_iconst (v := (-1)) hx hb dX10_count_181 (by decide) ?_
        exact m_iret hx hb hr hlocks hM hS (Nat.le_of_ble_eq_true rfl) (Nat.le_of_ble_eq_true rfl) ⟨rfl, Or.inr ⟨by omega, rfl⟩⟩ dX10_count_182
      · exact absurd c15 (by decide)
    · refine lv_tableIn (off := 182) (tgt := 183) hx hb dX10_count_1 (by omega) (by omega) (by rw [qc1]; rfl) (by decide) ?_
      refine lv_aload_n hx hb dX10_count_183 rfl (lv_at hl 0 rfl) ?_
      refine m_calli (m_runV (1000) (As := []) (rest := []) hx hb hml hown hts hE hM hS hA ce_X10_isTown tb_1441 (C_X10_isTown l D A ad ns I L G hJ) rfl rfl ⟨Nat.le_of_ble_eq_true rfl, Nat.le_of_ble_eq_true rfl⟩ hJ.1 rfl rfl (by decide) rfl hl.1 rfl (Nat.le_of_ble_eq_true rfl) dX10_count_184 ⟨Nat.le_of_ble_eq_true rfl, Nat.le_of_ble_eq_true rfl⟩) hS (fun r16 u H locs hw hM hS => ?_)
      obtain ⟨rfl, b_r16⟩ := hw
      have hM : Mem D A ad ns I L G H := hM
      obtain rfl : r16 = 0 := b_r16.z (by rw [hI 1001 0 (by decide) (by decide)]; decide)
      refine lv_if_eq (tgt := 200) hx hb dX10_count_187 (by decide) (fun c17 => ?_) (fun c17 => ?_)
      · have hc17 := c17
        have q17 := q_eq hc17
        refine lv_iconst (v := (-1)) hx hb dX10_count_200 (by decide) ?_
        exact m_iret hx hb hr hlocks hM hS (Nat.le_of_ble_eq_true rfl) (Nat.le_of_ble_eq_true rfl) ⟨rfl, Or.inr ⟨by omega, rfl⟩⟩ dX10_count_201
      · exact absurd c17 (by decide)
    · refine lv_tableIn (off := 201) (tgt := 202) hx hb dX10_count_1 (by omega) (by omega) (by rw [qc1]; rfl) (by decide) ?_
      refine lv_aload_n hx hb dX10_count_202 rfl (lv_at hl 0 rfl) ?_
      refine m_geti (1000) 28 hx hb hts hown hE oc10 hM hJ.1 rfl (by decide) rfl tb_1205 dX10_count_203 ?_
      rw [show I (1000) 28 = 0 from by simp [u2_v, fillI, cpyI, hI]]
      exact m_iret hx hb hr hlocks hM hS (Nat.le_of_ble_eq_true rfl) (Nat.le_of_ble_eq_true rfl) ⟨rfl, Or.inl ⟨by omega, rfl⟩⟩ dX10_count_206
    · refine lv_tableIn (off := 206) (tgt := 207) hx hb dX10_count_1 (by omega) (by omega) (by rw [qc1]; rfl) (by decide) ?_
      refine lv_aload_n hx hb dX10_count_207 rfl (lv_at hl 0 rfl) ?_
      refine m_geti (1000) 24 hx hb hts hown hE oc10 hM hJ.1 rfl (by decide) rfl tb_1201 dX10_count_208 ?_
      rw [show I (1000) 24 = 0 from by simp [u2_v, fillI, cpyI, hI]]
      exact m_iret hx hb hr hlocks hM hS (Nat.le_of_ble_eq_true rfl) (Nat.le_of_ble_eq_true rfl) ⟨rfl, Or.inl ⟨by omega, rfl⟩⟩ dX10_count_211
theorem dX10_end_0 : decode cX10_end 0 = .ok (.iload_n 1, 1) := by decide +kernel
theorem dX10_end_1 : decode cX10_end 1 = .ok (.ifCond .lt 11, 3) := by decide +kernel
theorem dX10_end_4 : decode cX10_end 4 = .ok (.iload_n 1, 1) := by decide +kernel
theorem dX10_end_5 : decode cX10_end 5 = .ok (.aload_n 0, 1) := by decide +kernel
theorem dX10_end_6 : decode cX10_end 6 = .ok (.getfield 232, 3) := by decide +kernel
theorem dX10_end_9 : decode cX10_end 9 = .ok (.if_icmp .le 5, 3) := by decide +kernel
theorem dX10_end_12 : decode cX10_end 12 = .ok (.iconst (-1), 1) := by decide +kernel
theorem dX10_end_13 : decode cX10_end 13 = .ok (.ireturn, 1) := by decide +kernel
theorem dX10_end_14 : decode cX10_end 14 = .ok (.aload_n 0, 1) := by decide +kernel
theorem dX10_end_15 : decode cX10_end 15 = .ok (.iload_n 1, 1) := by decide +kernel
theorem dX10_end_16 : decode cX10_end 16 = .ok (.putfield 232, 3) := by decide +kernel
theorem dX10_end_19 : decode cX10_end 19 = .ok (.iload_n 1, 1) := by decide +kernel
theorem dX10_end_20 : decode cX10_end 20 = .ok (.ireturn, 1) := by decide +kernel
theorem ce_X10_end : CeV RX10 yX10_end cX10_end 2 (some .int) 1 := ⟨tb_1495, tb_1496, tb_11, tb_1497, rfl, by decide, by decide, by decide +kernel⟩
set_option maxHeartbeats 4000000 in
set_option maxRecDepth 20000 in
theorem C_X10_end (l : Launch) (D : va_G) (A : Nat → Prop) (ad : Nat → Nat) (ns : List Nat) (I : MI) (L : ML) (G : MG) (n : Int32) (hJ : SGM ns G) : Met l yX10_end (wd yX10_end cX10_end 2 (some .int)) ({ frames := 0, cells := 0, slots := 0, locals := 0 }) (va_Pc [.ref (ad 1000), .int n] (PM D A ad ns I L G)) (va_Qi (fun z u => ((0 ≤ n.toInt ∧ n.toInt ≤ (I 1000 24).toInt) ∧ z = n ∧ u = (ad, ns, u2 I 1000 24 n, L, G)) ∨ (¬ (0 ≤ n.toInt ∧ n.toInt ≤ (I 1000 24).toInt) ∧ z = -1 ∧ u = (ad, ns, I, L, G))) (BM D A) A) 0 0 A := by
  refine m_ofW (by decide) (Nat.le_of_ble_eq_true rfl) ?_
  intro p e s m below meth c ls args hC hE hM hA hS hl
  obtain ⟨hx, hb, hml, hown, hts, hr, hlocks, hin⟩ := hC
  have km1 : (-1 : Int32).toInt = -1 := by decide
  have k0 : (0 : Int32).toInt = 0 := by decide
  have hl : lv_has ls 2 [(0, .ref (ad (1000))), (1, .int (n))] := hl
  refine lv_iload_n hx hb dX10_end_0 rfl (lv_at hl 1 rfl) ?_
  refine lv_if_lt (tgt := 12) hx hb dX10_end_1 (by decide) (fun c1 => ?_) (fun c1 => ?_)
  · have hc1 := c1
    have q1 := q_lt hc1
    refine lv_iconst (v := (-1)) hx hb dX10_end_12 (by decide) ?_
    exact m_iret hx hb hr hlocks hM hS (Nat.le_of_ble_eq_true rfl) (Nat.le_of_ble_eq_true rfl) (Or.inr ⟨by omega, rfl, rfl⟩) dX10_end_13
  · have hc1 := c1
    have q1 := q_nlt hc1
    refine lv_iload_n hx hb dX10_end_4 rfl (lv_at hl 1 rfl) ?_
    refine lv_aload_n hx hb dX10_end_5 rfl (lv_at hl 0 rfl) ?_
    refine m_geti (1000) 24 hx hb hts hown hE oc10 hM hJ.1 rfl (by decide) rfl tb_1201 dX10_end_6 ?_
    refine lv_icmp_le (tgt := 14) hx hb dX10_end_9 (by decide) (fun c2 => ?_) (fun c2 => ?_)
    · have hc2 := c2
      have q2 := q_le hc2
      refine lv_aload_n hx hb dX10_end_14 rfl (lv_at hl 0 rfl) ?_
      refine lv_iload_n hx hb dX10_end_15 rfl (lv_at hl 1 rfl) ?_
      refine m_puti (1000) 24 hx hb hts hown hE oc10 hM hS hJ.1 rfl (by decide) rfl rfl rfl rfl tb_1201 dX10_end_16 (fun H locs I3 eI3 hM hS => ?_)
      subst eI3
      refine lv_iload_n hx hb dX10_end_19 rfl (lv_at hl 1 rfl) ?_
      exact m_iret hx hb hr hlocks hM hS (Nat.le_of_ble_eq_true rfl) (Nat.le_of_ble_eq_true rfl) (Or.inl ⟨by omega, rfl, rfl⟩) dX10_end_20
    · have hc2 := c2
      have q2 := q_nle hc2
      refine lv_iconst (v := (-1)) hx hb dX10_end_12 (by decide) ?_
      exact m_iret hx hb hr hlocks hM hS (Nat.le_of_ble_eq_true rfl) (Nat.le_of_ble_eq_true rfl) (Or.inr ⟨by omega, rfl, rfl⟩) dX10_end_13
theorem dX10_put_0 : decode cX10_put 0 = .ok (.bipush 24, 2) := by decide +kernel
theorem dX10_put_2 : decode cX10_put 2 = .ok (.istore_n 2, 1) := by decide +kernel
theorem dX10_put_3 : decode cX10_put 3 = .ok (.iload_n 2, 1) := by decide +kernel
theorem dX10_put_4 : decode cX10_put 4 = .ok (.ifCond .lt 32, 3) := by decide +kernel
theorem dX10_put_7 : decode cX10_put 7 = .ok (.aload_n 0, 1) := by decide +kernel
theorem dX10_put_8 : decode cX10_put 8 = .ok (.getfield 83, 3) := by decide +kernel
theorem dX10_put_11 : decode cX10_put 11 = .ok (.aload_n 0, 1) := by decide +kernel
theorem dX10_put_12 : decode cX10_put 12 = .ok (.getfield 232, 3) := by decide +kernel
theorem dX10_put_15 : decode cX10_put 15 = .ok (.iload_n 1, 1) := by decide +kernel
theorem dX10_put_16 : decode cX10_put 16 = .ok (.iload_n 2, 1) := by decide +kernel
theorem dX10_put_17 : decode cX10_put 17 = .ok (.ishr, 1) := by decide +kernel
theorem dX10_put_18 : decode cX10_put 18 = .ok (.i2b, 1) := by decide +kernel
theorem dX10_put_19 : decode cX10_put 19 = .ok (.bastore, 1) := by decide +kernel
theorem dX10_put_20 : decode cX10_put 20 = .ok (.aload_n 0, 1) := by decide +kernel
theorem dX10_put_21 : decode cX10_put 21 = .ok (.dup, 1) := by decide +kernel
theorem dX10_put_22 : decode cX10_put 22 = .ok (.getfield 232, 3) := by decide +kernel
theorem dX10_put_25 : decode cX10_put 25 = .ok (.iconst 1, 1) := by decide +kernel
theorem dX10_put_26 : decode cX10_put 26 = .ok (.iadd, 1) := by decide +kernel
theorem dX10_put_27 : decode cX10_put 27 = .ok (.putfield 232, 3) := by decide +kernel
theorem dX10_put_30 : decode cX10_put 30 = .ok (.iinc 2 (-8), 3) := by decide +kernel
theorem dX10_put_33 : decode cX10_put 33 = .ok (.goto (-30), 3) := by decide +kernel
theorem dX10_put_36 : decode cX10_put 36 = .ok (.return_, 1) := by decide +kernel
theorem ce_X10_put : CeV RX10 yX10_put cX10_put 3 none 1 := ⟨tb_1492, tp_60, tb_11, tb_1493, rfl, by decide, by decide, by decide +kernel⟩
set_option maxHeartbeats 4000000 in
set_option maxRecDepth 20000 in
theorem C_X10_put (l : Launch) (D : va_G) (A : Nat → Prop) (ad : Nat → Nat) (ns : List Nat) (I : MI) (L : ML) (G : MG) (x : Int32) (hJ : SGM ns G) (ht : 0 ≤ (I 1000 24).toInt ∧ (I 1000 24).toInt ≤ 396) : Met l yX10_put (wd yX10_put cX10_put 3 none) ({ frames := 0, cells := 0, slots := 0, locals := 0 }) (va_Pc [.ref (ad 1000), .int x] (PM D A ad ns I L G)) (va_Qv (fun u => ∃ I2, u = (ad, ns, I2, L, G) ∧ (I2 1000 24).toInt = (I 1000 24).toInt + 4) (BM D A) A) 0 0 A := by
  refine m_ofW (by decide) (Nat.le_of_ble_eq_true rfl) ?_
  intro p e s m below meth c ls args hC hE hM hA hS hl
  obtain ⟨hx, hb, hml, hown, hts, hr, hlocks, hin⟩ := hC
  have k0 : (0 : Int32).toInt = 0 := by decide
  have k1 : (1 : Int32).toInt = 1 := by decide
  have k24 : (24 : Int32).toInt = 24 := by decide
  have hl : lv_has ls 3 [(0, .ref (ad (1000))), (1, .int (x))] := hl
  refine lv_bipush (v := (24)) hx hb dX10_put_0 (by decide) ?_
  refine lv_istore_n (lv' := [(2, .int (24)), (0, .ref (ad (1000))), (1, .int (x))]) hx hb dX10_put_2 rfl hl (by decide) rfl (fun ls hl => ?_)
  refine lv_iload_n hx hb dX10_put_3 rfl (lv_at hl 0 rfl) ?_
  refine lv_if_lt (tgt := 36) hx hb dX10_put_4 (by decide) (fun c1 => ?_) (fun c1 => ?_)
  · exact absurd c1 (by decide)
  · have hc1 := c1
    have q1 := q_nlt hc1
    refine lv_aload_n hx hb dX10_put_7 rfl (lv_at hl 1 rfl) ?_
    refine m_getr (1000) 34 (1034) hx hb hts hown hE oc10 hM hJ.1 rfl (by decide) rfl (hJ.2 34 (by decide)).2 (by decide) tb_1211 dX10_put_8 ?_
    refine lv_aload_n hx hb dX10_put_11 rfl (lv_at hl 1 rfl) ?_
    refine m_geti (1000) 24 hx hb hts hown hE oc10 hM hJ.1 rfl (by decide) rfl tb_1201 dX10_put_12 ?_
    refine lv_iload_n hx hb dX10_put_15 rfl (lv_at hl 2 rfl) ?_
    refine lv_iload_n hx hb dX10_put_16 rfl (lv_at hl 0 rfl) ?_
    refine lv_ishr hx hb dX10_put_17 ?_
    refine lv_topi (fun v2 ev2 => ?_)
    refine lv_i2b hx hb dX10_put_18 rfl ?_
    refine lv_topi (fun v3 ev3 => ?_)
    refine m_bast (1034) hx hb hE hM hS (hJ.2 34 (by decide)).1 rfl (vp_in_iff.mpr (by omega)) dX10_put_19 (fun H locs I4 eI4 hM hS => ?_)
    subst eI4
    refine lv_aload_n hx hb dX10_put_20 rfl (lv_at hl 1 rfl) ?_
    refine lv_dup hx hb dX10_put_21 rfl ?_
    refine m_geti (1000) 24 hx hb hts hown hE oc10 hM hJ.1 rfl (by decide) rfl tb_1201 dX10_put_22 ?_
    rw [show (u2 I (1034) ((I (1000) 24).toNatClampNeg) (vp_nar .byte (v3))) (1000) 24 = I (1000) 24 from by simp [u2_v, fillI, cpyI]]
    refine lv_iconst (v := (1)) hx hb dX10_put_25 (by decide) ?_
    refine lv_iadd hx hb dX10_put_26 ?_
    refine lv_topi (fun v5 ev5 => ?_)
    have tv5 := a_add ev5 (by omega) (by omega)
    refine m_puti (1000) 24 hx hb hts hown hE oc10 hM hS hJ.1 rfl (by decide) rfl rfl rfl rfl tb_1201 dX10_put_27 (fun H locs I6 eI6 hM hS => ?_)
    subst eI6
    refine lv_iinc (v := 16) (lv' := [(2, .int (16)), (0, .ref (ad (1000))), (1, .int (x))]) hx hb dX10_put_30 hl (k := 0) rfl (by decide) (by decide) rfl (fun ls hl => ?_)
    refine lv_goto (tgt := 3) hx hb dX10_put_33 (by decide) ?_
    refine lv_iload_n hx hb dX10_put_3 rfl (lv_at hl 0 rfl) ?_
    refine lv_if_lt (tgt := 36) hx hb dX10_put_4 (by decide) (fun c8 => ?_) (fun c8 => ?_)
    · exact absurd c8 (by decide)
    · have hc8 := c8
      have q8 := q_nlt hc8
      refine lv_aload_n hx hb dX10_put_7 rfl (lv_at hl 1 rfl) ?_
      refine m_getr (1000) 34 (1034) hx hb hts hown hE oc10 hM hJ.1 rfl (by decide) rfl (hJ.2 34 (by decide)).2 (by decide) tb_1211 dX10_put_8 ?_
      refine lv_aload_n hx hb dX10_put_11 rfl (lv_at hl 1 rfl) ?_
      refine m_geti (1000) 24 hx hb hts hown hE oc10 hM hJ.1 rfl (by decide) rfl tb_1201 dX10_put_12 ?_
      rw [show (u2 (u2 I (1034) ((I (1000) 24).toNatClampNeg) (vp_nar .byte (v3))) (1000) 24 (v5)) (1000) 24 = v5 from by simp [u2_v, fillI, cpyI]]
      refine lv_iload_n hx hb dX10_put_15 rfl (lv_at hl 2 rfl) ?_
      refine lv_iload_n hx hb dX10_put_16 rfl (lv_at hl 0 rfl) ?_
      refine lv_ishr hx hb dX10_put_17 ?_
      refine lv_topi (fun v9 ev9 => ?_)
      refine lv_i2b hx hb dX10_put_18 rfl ?_
      refine lv_topi (fun v10 ev10 => ?_)
      refine m_bast (1034) hx hb hE hM hS (hJ.2 34 (by decide)).1 rfl (vp_in_iff.mpr (by omega)) dX10_put_19 (fun H locs I11 eI11 hM hS => ?_)
      subst eI11
      refine lv_aload_n hx hb dX10_put_20 rfl (lv_at hl 1 rfl) ?_
      refine lv_dup hx hb dX10_put_21 rfl ?_
      refine m_geti (1000) 24 hx hb hts hown hE oc10 hM hJ.1 rfl (by decide) rfl tb_1201 dX10_put_22 ?_
      rw [show (u2 (u2 (u2 I (1034) ((I (1000) 24).toNatClampNeg) (vp_nar .byte (v3))) (1000) 24 (v5)) (1034) ((v5).toNatClampNeg) (vp_nar .byte (v10))) (1000) 24 = v5 from by simp [u2_v, fillI, cpyI]]
      refine lv_iconst (v := (1)) hx hb dX10_put_25 (by decide) ?_
      refine lv_iadd hx hb dX10_put_26 ?_
      refine lv_topi (fun v12 ev12 => ?_)
      have tv12 := a_add ev12 (by omega) (by omega)
      refine m_puti (1000) 24 hx hb hts hown hE oc10 hM hS hJ.1 rfl (by decide) rfl rfl rfl rfl tb_1201 dX10_put_27 (fun H locs I13 eI13 hM hS => ?_)
      subst eI13
      refine lv_iinc (v := 8) (lv' := [(2, .int (8)), (0, .ref (ad (1000))), (1, .int (x))]) hx hb dX10_put_30 hl (k := 0) rfl (by decide) (by decide) rfl (fun ls hl => ?_)
      refine lv_goto (tgt := 3) hx hb dX10_put_33 (by decide) ?_
      refine lv_iload_n hx hb dX10_put_3 rfl (lv_at hl 0 rfl) ?_
      refine lv_if_lt (tgt := 36) hx hb dX10_put_4 (by decide) (fun c15 => ?_) (fun c15 => ?_)
      · exact absurd c15 (by decide)
      · have hc15 := c15
        have q15 := q_nlt hc15
        refine lv_aload_n hx hb dX10_put_7 rfl (lv_at hl 1 rfl) ?_
        refine m_getr (1000) 34 (1034) hx hb hts hown hE oc10 hM hJ.1 rfl (by decide) rfl (hJ.2 34 (by decide)).2 (by decide) tb_1211 dX10_put_8 ?_
        refine lv_aload_n hx hb dX10_put_11 rfl (lv_at hl 1 rfl) ?_
        refine m_geti (1000) 24 hx hb hts hown hE oc10 hM hJ.1 rfl (by decide) rfl tb_1201 dX10_put_12 ?_
        rw [show (u2 (u2 (u2 (u2 I (1034) ((I (1000) 24).toNatClampNeg) (vp_nar .byte (v3))) (1000) 24 (v5)) (1034) ((v5).toNatClampNeg) (vp_nar .byte (v10))) (1000) 24 (v12)) (1000) 24 = v12 from by simp [u2_v, fillI, cpyI]]
        refine lv_iload_n hx hb dX10_put_15 rfl (lv_at hl 2 rfl) ?_
        refine lv_iload_n hx hb dX10_put_16 rfl (lv_at hl 0 rfl) ?_
        refine lv_ishr hx hb dX10_put_17 ?_
        refine lv_topi (fun v16 ev16 => ?_)
        refine lv_i2b hx hb dX10_put_18 rfl ?_
        refine lv_topi (fun v17 ev17 => ?_)
        refine m_bast (1034) hx hb hE hM hS (hJ.2 34 (by decide)).1 rfl (vp_in_iff.mpr (by omega)) dX10_put_19 (fun H locs I18 eI18 hM hS => ?_)
        subst eI18
        refine lv_aload_n hx hb dX10_put_20 rfl (lv_at hl 1 rfl) ?_
        refine lv_dup hx hb dX10_put_21 rfl ?_
        refine m_geti (1000) 24 hx hb hts hown hE oc10 hM hJ.1 rfl (by decide) rfl tb_1201 dX10_put_22 ?_
        rw [show (u2 (u2 (u2 (u2 (u2 I (1034) ((I (1000) 24).toNatClampNeg) (vp_nar .byte (v3))) (1000) 24 (v5)) (1034) ((v5).toNatClampNeg) (vp_nar .byte (v10))) (1000) 24 (v12)) (1034) ((v12).toNatClampNeg) (vp_nar .byte (v17))) (1000) 24 = v12 from by simp [u2_v, fillI, cpyI]]
        refine lv_iconst (v := (1)) hx hb dX10_put_25 (by decide) ?_
        refine lv_iadd hx hb dX10_put_26 ?_
        refine lv_topi (fun v19 ev19 => ?_)
        have tv19 := a_add ev19 (by omega) (by omega)
        refine m_puti (1000) 24 hx hb hts hown hE oc10 hM hS hJ.1 rfl (by decide) rfl rfl rfl rfl tb_1201 dX10_put_27 (fun H locs I20 eI20 hM hS => ?_)
        subst eI20
        refine lv_iinc (v := 0) (lv' := [(2, .int (0)), (0, .ref (ad (1000))), (1, .int (x))]) hx hb dX10_put_30 hl (k := 0) rfl (by decide) (by decide) rfl (fun ls hl => ?_)
        refine lv_goto (tgt := 3) hx hb dX10_put_33 (by decide) ?_
        refine lv_iload_n hx hb dX10_put_3 rfl (lv_at hl 0 rfl) ?_
        refine lv_if_lt (tgt := 36) hx hb dX10_put_4 (by decide) (fun c22 => ?_) (fun c22 => ?_)
        · exact absurd c22 (by decide)
        · have hc22 := c22
          have q22 := q_nlt hc22
          refine lv_aload_n hx hb dX10_put_7 rfl (lv_at hl 1 rfl) ?_
          refine m_getr (1000) 34 (1034) hx hb hts hown hE oc10 hM hJ.1 rfl (by decide) rfl (hJ.2 34 (by decide)).2 (by decide) tb_1211 dX10_put_8 ?_
          refine lv_aload_n hx hb dX10_put_11 rfl (lv_at hl 1 rfl) ?_
          refine m_geti (1000) 24 hx hb hts hown hE oc10 hM hJ.1 rfl (by decide) rfl tb_1201 dX10_put_12 ?_
          rw [show (u2 (u2 (u2 (u2 (u2 (u2 I (1034) ((I (1000) 24).toNatClampNeg) (vp_nar .byte (v3))) (1000) 24 (v5)) (1034) ((v5).toNatClampNeg) (vp_nar .byte (v10))) (1000) 24 (v12)) (1034) ((v12).toNatClampNeg) (vp_nar .byte (v17))) (1000) 24 (v19)) (1000) 24 = v19 from by simp [u2_v, fillI, cpyI]]
          refine lv_iload_n hx hb dX10_put_15 rfl (lv_at hl 2 rfl) ?_
          refine lv_iload_n hx hb dX10_put_16 rfl (lv_at hl 0 rfl) ?_
          refine lv_ishr hx hb dX10_put_17 ?_
          refine lv_topi (fun v23 ev23 => ?_)
          refine lv_i2b hx hb dX10_put_18 rfl ?_
          refine lv_topi (fun v24 ev24 => ?_)
          refine m_bast (1034) hx hb hE hM hS (hJ.2 34 (by decide)).1 rfl (vp_in_iff.mpr (by omega)) dX10_put_19 (fun H locs I25 eI25 hM hS => ?_)
          subst eI25
          refine lv_aload_n hx hb dX10_put_20 rfl (lv_at hl 1 rfl) ?_
          refine lv_dup hx hb dX10_put_21 rfl ?_
          refine m_geti (1000) 24 hx hb hts hown hE oc10 hM hJ.1 rfl (by decide) rfl tb_1201 dX10_put_22 ?_
          rw [show (u2 (u2 (u2 (u2 (u2 (u2 (u2 I (1034) ((I (1000) 24).toNatClampNeg) (vp_nar .byte (v3))) (1000) 24 (v5)) (1034) ((v5).toNatClampNeg) (vp_nar .byte (v10))) (1000) 24 (v12)) (1034) ((v12).toNatClampNeg) (vp_nar .byte (v17))) (1000) 24 (v19)) (1034) ((v19).toNatClampNeg) (vp_nar .byte (v24))) (1000) 24 = v19 from by simp [u2_v, fillI, cpyI]]
          refine lv_iconst (v := (1)) hx hb dX10_put_25 (by decide) ?_
          refine lv_iadd hx hb dX10_put_26 ?_
          refine lv_topi (fun v26 ev26 => ?_)
          have tv26 := a_add ev26 (by omega) (by omega)
          refine m_puti (1000) 24 hx hb hts hown hE oc10 hM hS hJ.1 rfl (by decide) rfl rfl rfl rfl tb_1201 dX10_put_27 (fun H locs I27 eI27 hM hS => ?_)
          subst eI27
          refine lv_iinc (v := (-8 : Int32)) (lv' := [(2, .int ((-8 : Int32))), (0, .ref (ad (1000))), (1, .int (x))]) hx hb dX10_put_30 hl (k := 0) rfl (by decide) (by decide) rfl (fun ls hl => ?_)
          refine lv_goto (tgt := 3) hx hb dX10_put_33 (by decide) ?_
          refine lv_iload_n hx hb dX10_put_3 rfl (lv_at hl 0 rfl) ?_
          refine lv_if_lt (tgt := 36) hx hb dX10_put_4 (by decide) (fun c29 => ?_) (fun c29 => ?_)
          · have hc29 := c29
            have q29 := q_lt hc29
            exact m_vret hx hb hr hlocks hM hS (Nat.le_of_ble_eq_true rfl) (Nat.le_of_ble_eq_true rfl) ⟨_, rfl, by rw [u2_self]; omega⟩ dX10_put_36
          · exact absurd c29 (by decide)
theorem dX10_feed_0 : decode cX10_feed 0 = .ok (.aload_n 0, 1) := by decide +kernel
theorem dX10_feed_1 : decode cX10_feed 1 = .ok (.getfield 232, 3) := by decide +kernel
theorem dX10_feed_4 : decode cX10_feed 4 = .ok (.bipush 20, 2) := by decide +kernel
theorem dX10_feed_6 : decode cX10_feed 6 = .ok (.iadd, 1) := by decide +kernel
theorem dX10_feed_7 : decode cX10_feed 7 = .ok (.sipush 400, 3) := by decide +kernel
theorem dX10_feed_10 : decode cX10_feed 10 = .ok (.if_icmp .le 5, 3) := by decide +kernel
theorem dX10_feed_13 : decode cX10_feed 13 = .ok (.iconst (-1), 1) := by decide +kernel
theorem dX10_feed_14 : decode cX10_feed 14 = .ok (.ireturn, 1) := by decide +kernel
theorem dX10_feed_15 : decode cX10_feed 15 = .ok (.aload_n 0, 1) := by decide +kernel
theorem dX10_feed_16 : decode cX10_feed 16 = .ok (.iload_n 1, 1) := by decide +kernel
theorem dX10_feed_17 : decode cX10_feed 17 = .ok (.invokevirtual 235, 3) := by decide +kernel
theorem dX10_feed_20 : decode cX10_feed 20 = .ok (.aload_n 0, 1) := by decide +kernel
theorem dX10_feed_21 : decode cX10_feed 21 = .ok (.iload_n 2, 1) := by decide +kernel
theorem dX10_feed_22 : decode cX10_feed 22 = .ok (.invokevirtual 235, 3) := by decide +kernel
theorem dX10_feed_25 : decode cX10_feed 25 = .ok (.aload_n 0, 1) := by decide +kernel
theorem dX10_feed_26 : decode cX10_feed 26 = .ok (.iload_n 3, 1) := by decide +kernel
theorem dX10_feed_27 : decode cX10_feed 27 = .ok (.invokevirtual 235, 3) := by decide +kernel
theorem dX10_feed_30 : decode cX10_feed 30 = .ok (.aload_n 0, 1) := by decide +kernel
theorem dX10_feed_31 : decode cX10_feed 31 = .ok (.iload 4, 2) := by decide +kernel
theorem dX10_feed_33 : decode cX10_feed 33 = .ok (.invokevirtual 235, 3) := by decide +kernel
theorem dX10_feed_36 : decode cX10_feed 36 = .ok (.aload_n 0, 1) := by decide +kernel
theorem dX10_feed_37 : decode cX10_feed 37 = .ok (.iload 5, 2) := by decide +kernel
theorem dX10_feed_39 : decode cX10_feed 39 = .ok (.invokevirtual 235, 3) := by decide +kernel
theorem dX10_feed_42 : decode cX10_feed 42 = .ok (.aload_n 0, 1) := by decide +kernel
theorem dX10_feed_43 : decode cX10_feed 43 = .ok (.getfield 232, 3) := by decide +kernel
theorem dX10_feed_46 : decode cX10_feed 46 = .ok (.ireturn, 1) := by decide +kernel
theorem ce_X10_feed : CeV RX10 yX10_feed cX10_feed 6 (some .int) 5 := ⟨tb_1487, tb_1488, tb_11, tb_1489, rfl, by decide, by decide, by decide +kernel⟩
set_option maxHeartbeats 4000000 in
set_option maxRecDepth 20000 in
theorem C_X10_feed (l : Launch) (D : va_G) (A : Nat → Prop) (ad : Nat → Nat) (ns : List Nat) (I : MI) (L : ML) (G : MG) (a0 : Int32) (a1 : Int32) (a2 : Int32) (a3 : Int32) (a4 : Int32) (hJ : SGM ns G) (ht : 0 ≤ (I 1000 24).toInt ∧ (I 1000 24).toInt ≤ 400) : Met l yX10_feed (wd yX10_feed cX10_feed 6 (some .int)) ({ frames := 1, cells := 0, slots := 0, locals := 22 }) (va_Pc [.ref (ad 1000), .int a0, .int a1, .int a2, .int a3, .int a4] (PM D A ad ns I L G)) (va_Qi (fun z u => ∃ I2, u = (ad, ns, I2, L, G) ∧ (((I 1000 24).toInt ≤ 380 ∧ z.toInt = (I 1000 24).toInt + 20) ∨ (¬ (I 1000 24).toInt ≤ 380 ∧ z = -1))) (BM D A) A) 0 0 A := by
  refine m_ofW (by decide) (Nat.le_of_ble_eq_true rfl) ?_
  intro p e s m below meth c ls args hC hE hM hA hS hl
  obtain ⟨hx, hb, hml, hown, hts, hr, hlocks, hin⟩ := hC
  have km1 : (-1 : Int32).toInt = -1 := by decide
  have k0 : (0 : Int32).toInt = 0 := by decide
  have k20 : (20 : Int32).toInt = 20 := by decide
  have k400 : (400 : Int32).toInt = 400 := by decide
  have hl : lv_has ls 6 [(0, .ref (ad (1000))), (1, .int (a0)), (2, .int (a1)), (3, .int (a2)), (4, .int (a3)), (5, .int (a4))] := hl
  refine lv_aload_n hx hb dX10_feed_0 rfl (lv_at hl 0 rfl) ?_
  refine m_geti (1000) 24 hx hb hts hown hE oc10 hM hJ.1 rfl (by decide) rfl tb_1201 dX10_feed_1 ?_
  refine lv_bipush (v := (20)) hx hb dX10_feed_4 (by decide) ?_
  refine lv_iadd hx hb dX10_feed_6 ?_
  refine lv_topi (fun v1 ev1 => ?_)
  have tv1 := a_add ev1 (by omega) (by omega)
  refine lv_sipush (v := (400)) hx hb dX10_feed_7 (by decide) ?_
  refine lv_icmp_le (tgt := 15) hx hb dX10_feed_10 (by decide) (fun c2 => ?_) (fun c2 => ?_)
  · have hc2 := c2
    have q2 := q_le hc2
    refine lv_aload_n hx hb dX10_feed_15 rfl (lv_at hl 0 rfl) ?_
    refine lv_iload_n hx hb dX10_feed_16 rfl (lv_at hl 1 rfl) ?_
    refine m_callv (m_runV (1000) (As := [.int (a0)]) (rest := []) hx hb hml hown hts hE hM hS hA ce_X10_put tb_1490 (C_X10_put l D A ad ns I L G (a0) hJ (by omega)) rfl rfl ⟨Nat.le_of_ble_eq_true rfl, Nat.le_of_ble_eq_true rfl⟩ hJ.1 rfl rfl (by decide) rfl hl.1 rfl (Nat.le_of_ble_eq_true rfl) dX10_feed_17 ⟨Nat.le_of_ble_eq_true rfl, Nat.le_of_ble_eq_true rfl⟩) hS (fun u H locs hw hM hS => ?_)
    obtain ⟨I3, rfl, hI3⟩ := hw
    have hM : Mem D A ad ns I3 L G H := hM
    refine lv_aload_n hx hb dX10_feed_20 rfl (lv_at hl 0 rfl) ?_
    refine lv_iload_n hx hb dX10_feed_21 rfl (lv_at hl 2 rfl) ?_
    refine m_callv (m_runV (1000) (As := [.int (a1)]) (rest := []) hx hb hml hown hts hE hM hS hA ce_X10_put tb_1490 (C_X10_put l D A ad ns I3 L G (a1) hJ (by omega)) rfl rfl ⟨Nat.le_of_ble_eq_true rfl, Nat.le_of_ble_eq_true rfl⟩ hJ.1 rfl rfl (by decide) rfl hl.1 rfl (Nat.le_of_ble_eq_true rfl) dX10_feed_22 ⟨Nat.le_of_ble_eq_true rfl, Nat.le_of_ble_eq_true rfl⟩) hS (fun u H locs hw hM hS => ?_)
    obtain ⟨I4, rfl, hI4⟩ := hw
    have hM : Mem D A ad ns I4 L G H := hM
    refine lv_aload_n hx hb dX10_feed_25 rfl (lv_at hl 0 rfl) ?_
    refine lv_iload_n hx hb dX10_feed_26 rfl (lv_at hl 3 rfl) ?_
    refine m_callv (m_runV (1000) (As := [.int (a2)]) (rest := []) hx hb hml hown hts hE hM hS hA ce_X10_put tb_1490 (C_X10_put l D A ad ns I4 L G (a2) hJ (by omega)) rfl rfl ⟨Nat.le_of_ble_eq_true rfl, Nat.le_of_ble_eq_true rfl⟩ hJ.1 rfl rfl (by decide) rfl hl.1 rfl (Nat.le_of_ble_eq_true rfl) dX10_feed_27 ⟨Nat.le_of_ble_eq_true rfl, Nat.le_of_ble_eq_true rfl⟩) hS (fun u H locs hw hM hS => ?_)
    obtain ⟨I5, rfl, hI5⟩ := hw
    have hM : Mem D A ad ns I5 L G H := hM
    refine lv_aload_n hx hb dX10_feed_30 rfl (lv_at hl 0 rfl) ?_
    refine lv_iload hx hb dX10_feed_31 (lv_at hl 4 rfl) ?_
    refine m_callv (m_runV (1000) (As := [.int (a3)]) (rest := []) hx hb hml hown hts hE hM hS hA ce_X10_put tb_1490 (C_X10_put l D A ad ns I5 L G (a3) hJ (by omega)) rfl rfl ⟨Nat.le_of_ble_eq_true rfl, Nat.le_of_ble_eq_true rfl⟩ hJ.1 rfl rfl (by decide) rfl hl.1 rfl (Nat.le_of_ble_eq_true rfl) dX10_feed_33 ⟨Nat.le_of_ble_eq_true rfl, Nat.le_of_ble_eq_true rfl⟩) hS (fun u H locs hw hM hS => ?_)
    obtain ⟨I6, rfl, hI6⟩ := hw
    have hM : Mem D A ad ns I6 L G H := hM
    refine lv_aload_n hx hb dX10_feed_36 rfl (lv_at hl 0 rfl) ?_
    refine lv_iload hx hb dX10_feed_37 (lv_at hl 5 rfl) ?_
    refine m_callv (m_runV (1000) (As := [.int (a4)]) (rest := []) hx hb hml hown hts hE hM hS hA ce_X10_put tb_1490 (C_X10_put l D A ad ns I6 L G (a4) hJ (by omega)) rfl rfl ⟨Nat.le_of_ble_eq_true rfl, Nat.le_of_ble_eq_true rfl⟩ hJ.1 rfl rfl (by decide) rfl hl.1 rfl (Nat.le_of_ble_eq_true rfl) dX10_feed_39 ⟨Nat.le_of_ble_eq_true rfl, Nat.le_of_ble_eq_true rfl⟩) hS (fun u H locs hw hM hS => ?_)
    obtain ⟨I7, rfl, hI7⟩ := hw
    have hM : Mem D A ad ns I7 L G H := hM
    refine lv_aload_n hx hb dX10_feed_42 rfl (lv_at hl 0 rfl) ?_
    refine m_geti (1000) 24 hx hb hts hown hE oc10 hM hJ.1 rfl (by decide) rfl tb_1201 dX10_feed_43 ?_
    exact m_iret hx hb hr hlocks hM hS (Nat.le_of_ble_eq_true rfl) (Nat.le_of_ble_eq_true rfl) ⟨_, rfl, Or.inl ⟨by omega, by omega⟩⟩ dX10_feed_46
  · have hc2 := c2
    have q2 := q_nle hc2
    refine lv_iconst (v := (-1)) hx hb dX10_feed_13 (by decide) ?_
    exact m_iret hx hb hr hlocks hM hS (Nat.le_of_ble_eq_true rfl) (Nat.le_of_ble_eq_true rfl) ⟨_, rfl, Or.inr ⟨by omega, rfl⟩⟩ dX10_feed_14
def townM (I : MI) (w h x y a : Int32) : MI := (fillI (fillI (fillI (fillI (fillI (u2 (u2 (u2 (u2 (u2 (fillI I 1001 10 0) 1001 0 1) 1001 1 w) 1001 2 h) 1001 3 (24 * y + x)) 1001 4 a) 1002 576 0) 1003 576 (-1)) 1006 576 (-1)) 1004 288 (-1)) 1005 288 0)
theorem dX10_town_0 : decode cX10_town 0 = .ok (.iload_n 1, 1) := by decide +kernel
theorem dX10_town_1 : decode cX10_town 1 = .ok (.i2l, 1) := by decide +kernel
theorem dX10_town_2 : decode cX10_town 2 = .ok (.ldc2_w 200, 3) := by decide +kernel
theorem dX10_town_5 : decode cX10_town 5 = .ok (.ldc2_w 202, 3) := by decide +kernel
theorem dX10_town_8 : decode cX10_town 8 = .ok (.invokestatic 192, 3) := by decide +kernel
theorem dX10_town_11 : decode cX10_town 11 = .ok (.ifCond .eq 57, 3) := by decide +kernel
theorem dX10_town_14 : decode cX10_town 14 = .ok (.iload_n 2, 1) := by decide +kernel
theorem dX10_town_15 : decode cX10_town 15 = .ok (.i2l, 1) := by decide +kernel
theorem dX10_town_16 : decode cX10_town 16 = .ok (.ldc2_w 200, 3) := by decide +kernel
theorem dX10_town_19 : decode cX10_town 19 = .ok (.ldc2_w 202, 3) := by decide +kernel
theorem dX10_town_22 : decode cX10_town 22 = .ok (.invokestatic 192, 3) := by decide +kernel
theorem dX10_town_25 : decode cX10_town 25 = .ok (.ifCond .eq 43, 3) := by decide +kernel
theorem dX10_town_28 : decode cX10_town 28 = .ok (.iload_n 3, 1) := by decide +kernel
theorem dX10_town_29 : decode cX10_town 29 = .ok (.i2l, 1) := by decide +kernel
theorem dX10_town_30 : decode cX10_town 30 = .ok (.lconst 0, 1) := by decide +kernel
theorem dX10_town_31 : decode cX10_town 31 = .ok (.iload_n 1, 1) := by decide +kernel
theorem dX10_town_32 : decode cX10_town 32 = .ok (.iconst 1, 1) := by decide +kernel
theorem dX10_town_33 : decode cX10_town 33 = .ok (.isub, 1) := by decide +kernel
theorem dX10_town_34 : decode cX10_town 34 = .ok (.i2l, 1) := by decide +kernel
theorem dX10_town_35 : decode cX10_town 35 = .ok (.invokestatic 192, 3) := by decide +kernel
theorem dX10_town_38 : decode cX10_town 38 = .ok (.ifCond .eq 30, 3) := by decide +kernel
theorem dX10_town_41 : decode cX10_town 41 = .ok (.iload 4, 2) := by decide +kernel
theorem dX10_town_43 : decode cX10_town 43 = .ok (.i2l, 1) := by decide +kernel
theorem dX10_town_44 : decode cX10_town 44 = .ok (.lconst 0, 1) := by decide +kernel
theorem dX10_town_45 : decode cX10_town 45 = .ok (.iload_n 2, 1) := by decide +kernel
theorem dX10_town_46 : decode cX10_town 46 = .ok (.iconst 1, 1) := by decide +kernel
theorem dX10_town_47 : decode cX10_town 47 = .ok (.isub, 1) := by decide +kernel
theorem dX10_town_48 : decode cX10_town 48 = .ok (.i2l, 1) := by decide +kernel
theorem dX10_town_49 : decode cX10_town 49 = .ok (.invokestatic 192, 3) := by decide +kernel
theorem dX10_town_52 : decode cX10_town 52 = .ok (.ifCond .eq 16, 3) := by decide +kernel
theorem dX10_town_55 : decode cX10_town 55 = .ok (.iload 5, 2) := by decide +kernel
theorem dX10_town_57 : decode cX10_town 57 = .ok (.i2l, 1) := by decide +kernel
theorem dX10_town_58 : decode cX10_town 58 = .ok (.lconst 0, 1) := by decide +kernel
theorem dX10_town_59 : decode cX10_town 59 = .ok (.ldc2_w 204, 3) := by decide +kernel
theorem dX10_town_62 : decode cX10_town 62 = .ok (.invokestatic 192, 3) := by decide +kernel
theorem dX10_town_65 : decode cX10_town 65 = .ok (.ifCond .ne 5, 3) := by decide +kernel
theorem dX10_town_68 : decode cX10_town 68 = .ok (.iconst 0, 1) := by decide +kernel
theorem dX10_town_69 : decode cX10_town 69 = .ok (.ireturn, 1) := by decide +kernel
theorem dX10_town_70 : decode cX10_town 70 = .ok (.iconst 0, 1) := by decide +kernel
theorem dX10_town_71 : decode cX10_town 71 = .ok (.istore 6, 2) := by decide +kernel
theorem dX10_town_73 : decode cX10_town 73 = .ok (.iload 6, 2) := by decide +kernel
theorem dX10_town_75 : decode cX10_town 75 = .ok (.bipush 10, 2) := by decide +kernel
theorem dX10_town_77 : decode cX10_town 77 = .ok (.if_icmp .ge 17, 3) := by decide +kernel
theorem dX10_town_80 : decode cX10_town 80 = .ok (.aload_n 0, 1) := by decide +kernel
theorem dX10_town_81 : decode cX10_town 81 = .ok (.getfield 7, 3) := by decide +kernel
theorem dX10_town_84 : decode cX10_town 84 = .ok (.iload 6, 2) := by decide +kernel
theorem dX10_town_86 : decode cX10_town 86 = .ok (.iconst 0, 1) := by decide +kernel
theorem dX10_town_87 : decode cX10_town 87 = .ok (.iastore, 1) := by decide +kernel
theorem dX10_town_88 : decode cX10_town 88 = .ok (.iinc 6 1, 3) := by decide +kernel
theorem dX10_town_91 : decode cX10_town 91 = .ok (.goto (-18), 3) := by decide +kernel
theorem dX10_town_94 : decode cX10_town 94 = .ok (.aload_n 0, 1) := by decide +kernel
theorem dX10_town_95 : decode cX10_town 95 = .ok (.getfield 7, 3) := by decide +kernel
theorem dX10_town_98 : decode cX10_town 98 = .ok (.iconst 0, 1) := by decide +kernel
theorem dX10_town_99 : decode cX10_town 99 = .ok (.iconst 1, 1) := by decide +kernel
theorem dX10_town_100 : decode cX10_town 100 = .ok (.iastore, 1) := by decide +kernel
theorem dX10_town_101 : decode cX10_town 101 = .ok (.aload_n 0, 1) := by decide +kernel
theorem dX10_town_102 : decode cX10_town 102 = .ok (.getfield 7, 3) := by decide +kernel
theorem dX10_town_105 : decode cX10_town 105 = .ok (.iconst 1, 1) := by decide +kernel
theorem dX10_town_106 : decode cX10_town 106 = .ok (.iload_n 1, 1) := by decide +kernel
theorem dX10_town_107 : decode cX10_town 107 = .ok (.iastore, 1) := by decide +kernel
theorem dX10_town_108 : decode cX10_town 108 = .ok (.aload_n 0, 1) := by decide +kernel
theorem dX10_town_109 : decode cX10_town 109 = .ok (.getfield 7, 3) := by decide +kernel
theorem dX10_town_112 : decode cX10_town 112 = .ok (.iconst 2, 1) := by decide +kernel
theorem dX10_town_113 : decode cX10_town 113 = .ok (.iload_n 2, 1) := by decide +kernel
theorem dX10_town_114 : decode cX10_town 114 = .ok (.iastore, 1) := by decide +kernel
theorem dX10_town_115 : decode cX10_town 115 = .ok (.aload_n 0, 1) := by decide +kernel
theorem dX10_town_116 : decode cX10_town 116 = .ok (.getfield 7, 3) := by decide +kernel
theorem dX10_town_119 : decode cX10_town 119 = .ok (.iconst 3, 1) := by decide +kernel
theorem dX10_town_120 : decode cX10_town 120 = .ok (.bipush 24, 2) := by decide +kernel
theorem dX10_town_122 : decode cX10_town 122 = .ok (.iload 4, 2) := by decide +kernel
theorem dX10_town_124 : decode cX10_town 124 = .ok (.imul, 1) := by decide +kernel
theorem dX10_town_125 : decode cX10_town 125 = .ok (.iload_n 3, 1) := by decide +kernel
theorem dX10_town_126 : decode cX10_town 126 = .ok (.iadd, 1) := by decide +kernel
theorem dX10_town_127 : decode cX10_town 127 = .ok (.iastore, 1) := by decide +kernel
theorem dX10_town_128 : decode cX10_town 128 = .ok (.aload_n 0, 1) := by decide +kernel
theorem dX10_town_129 : decode cX10_town 129 = .ok (.getfield 7, 3) := by decide +kernel
theorem dX10_town_132 : decode cX10_town 132 = .ok (.iconst 4, 1) := by decide +kernel
theorem dX10_town_133 : decode cX10_town 133 = .ok (.iload 5, 2) := by decide +kernel
theorem dX10_town_135 : decode cX10_town 135 = .ok (.iastore, 1) := by decide +kernel
theorem dX10_town_136 : decode cX10_town 136 = .ok (.iconst 0, 1) := by decide +kernel
theorem dX10_town_137 : decode cX10_town 137 = .ok (.istore 6, 2) := by decide +kernel
theorem dX10_town_139 : decode cX10_town 139 = .ok (.iload 6, 2) := by decide +kernel
theorem dX10_town_141 : decode cX10_town 141 = .ok (.sipush 576, 3) := by decide +kernel
theorem dX10_town_144 : decode cX10_town 144 = .ok (.if_icmp .ge 33, 3) := by decide +kernel
theorem dX10_town_147 : decode cX10_town 147 = .ok (.aload_n 0, 1) := by decide +kernel
theorem dX10_town_148 : decode cX10_town 148 = .ok (.getfield 13, 3) := by decide +kernel
theorem dX10_town_151 : decode cX10_town 151 = .ok (.iload 6, 2) := by decide +kernel
theorem dX10_town_153 : decode cX10_town 153 = .ok (.iconst 0, 1) := by decide +kernel
theorem dX10_town_154 : decode cX10_town 154 = .ok (.iastore, 1) := by decide +kernel
theorem dX10_town_155 : decode cX10_town 155 = .ok (.aload_n 0, 1) := by decide +kernel
theorem dX10_town_156 : decode cX10_town 156 = .ok (.getfield 16, 3) := by decide +kernel
theorem dX10_town_159 : decode cX10_town 159 = .ok (.iload 6, 2) := by decide +kernel
theorem dX10_town_161 : decode cX10_town 161 = .ok (.iconst (-1), 1) := by decide +kernel
theorem dX10_town_162 : decode cX10_town 162 = .ok (.iastore, 1) := by decide +kernel
theorem dX10_town_163 : decode cX10_town 163 = .ok (.aload_n 0, 1) := by decide +kernel
theorem dX10_town_164 : decode cX10_town 164 = .ok (.getfield 25, 3) := by decide +kernel
theorem dX10_town_167 : decode cX10_town 167 = .ok (.iload 6, 2) := by decide +kernel
theorem dX10_town_169 : decode cX10_town 169 = .ok (.iconst (-1), 1) := by decide +kernel
theorem dX10_town_170 : decode cX10_town 170 = .ok (.iastore, 1) := by decide +kernel
theorem dX10_town_171 : decode cX10_town 171 = .ok (.iinc 6 1, 3) := by decide +kernel
theorem dX10_town_174 : decode cX10_town 174 = .ok (.goto (-35), 3) := by decide +kernel
theorem dX10_town_177 : decode cX10_town 177 = .ok (.iconst 0, 1) := by decide +kernel
theorem dX10_town_178 : decode cX10_town 178 = .ok (.istore 6, 2) := by decide +kernel
theorem dX10_town_180 : decode cX10_town 180 = .ok (.iload 6, 2) := by decide +kernel
theorem dX10_town_182 : decode cX10_town 182 = .ok (.sipush 288, 3) := by decide +kernel
theorem dX10_town_185 : decode cX10_town 185 = .ok (.if_icmp .ge 25, 3) := by decide +kernel
theorem dX10_town_188 : decode cX10_town 188 = .ok (.aload_n 0, 1) := by decide +kernel
theorem dX10_town_189 : decode cX10_town 189 = .ok (.getfield 19, 3) := by decide +kernel
theorem dX10_town_192 : decode cX10_town 192 = .ok (.iload 6, 2) := by decide +kernel
theorem dX10_town_194 : decode cX10_town 194 = .ok (.iconst (-1), 1) := by decide +kernel
theorem dX10_town_195 : decode cX10_town 195 = .ok (.iastore, 1) := by decide +kernel
theorem dX10_town_196 : decode cX10_town 196 = .ok (.aload_n 0, 1) := by decide +kernel
theorem dX10_town_197 : decode cX10_town 197 = .ok (.getfield 22, 3) := by decide +kernel
theorem dX10_town_200 : decode cX10_town 200 = .ok (.iload 6, 2) := by decide +kernel
theorem dX10_town_202 : decode cX10_town 202 = .ok (.iconst 0, 1) := by decide +kernel
theorem dX10_town_203 : decode cX10_town 203 = .ok (.iastore, 1) := by decide +kernel
theorem dX10_town_204 : decode cX10_town 204 = .ok (.iinc 6 1, 3) := by decide +kernel
theorem dX10_town_207 : decode cX10_town 207 = .ok (.goto (-27), 3) := by decide +kernel
theorem dX10_town_210 : decode cX10_town 210 = .ok (.iconst 1, 1) := by decide +kernel
theorem dX10_town_211 : decode cX10_town 211 = .ok (.ireturn, 1) := by decide +kernel
theorem ce_X10_town : CeV RX10 yX10_town cX10_town 7 (some .boolean) 5 := ⟨tb_1420, tb_1421, tb_11, tb_1422, rfl, by decide, by decide, by decide +kernel⟩
set_option maxHeartbeats 4000000 in
set_option maxRecDepth 20000 in
theorem C_X10_town (l : Launch) (D : va_G) (A : Nat → Prop) (ad : Nat → Nat) (ns : List Nat) (I : MI) (L : ML) (G : MG) (w : Int32) (h : Int32) (x : Int32) (y : Int32) (a : Int32) (hJ : SGM ns G) : Met l yX10_town (wd yX10_town cX10_town 7 (some .boolean)) ({ frames := 1, cells := 0, slots := 0, locals := 25 }) (va_Pc [.ref (ad 1000), .int w, .int h, .int x, .int y, .int a] (PM D A ad ns I L G)) (va_Qi (fun z u => (okT w h x y a ∧ z = 1 ∧ u = (ad, ns, townM I w h x y a, L, G)) ∨ (¬ okT w h x y a ∧ z = 0 ∧ u = (ad, ns, I, L, G))) (BM D A) A) 0 0 A := by
  refine m_ofW (by decide) (Nat.le_of_ble_eq_true rfl) ?_
  intro p e s m below meth c ls args hC hE hM hA hS hl
  obtain ⟨hx, hb, hml, hown, hts, hr, hlocks, hin⟩ := hC
  have km1 : (-1 : Int32).toInt = -1 := by decide
  have k0 : (0 : Int32).toInt = 0 := by decide
  have k1 : (1 : Int32).toInt = 1 := by decide
  have k2 : (2 : Int32).toInt = 2 := by decide
  have k3 : (3 : Int32).toInt = 3 := by decide
  have k4 : (4 : Int32).toInt = 4 := by decide
  have k10 : (10 : Int32).toInt = 10 := by decide
  have k24 : (24 : Int32).toInt = 24 := by decide
  have k288 : (288 : Int32).toInt = 288 := by decide
  have k576 : (576 : Int32).toInt = 576 := by decide
  have kl0 : (0 : Int64).toInt = 0 := by decide
  have kl4 : (4 : Int64).toInt = 4 := by decide
  have kl24 : (24 : Int64).toInt = 24 := by decide
  have kl1000 : (1000 : Int64).toInt = 1000 := by decide
  have hl : lv_has ls 7 [(0, .ref (ad (1000))), (1, .int (w)), (2, .int (h)), (3, .int (x)), (4, .int (y)), (5, .int (a))] := hl
  refine lv_iload_n hx hb dX10_town_0 rfl (lv_at hl 1 rfl) ?_
  refine lv_i2l hx hb dX10_town_1 rfl ?_
  refine lv_topl (fun v1 ev1 => ?_)
  have tv1 := q_i2l ev1
  refine lv_ldc2 (v := (4)) hx hb hown (hts _ tb_1423) dX10_town_2 ?_
  refine lv_ldc2 (v := (24)) hx hb hown (hts _ tb_1424) dX10_town_5 ?_
  refine m_calli (m_runS (As := [.long (v1), .long ((4 : Int64)), .long ((24 : Int64))]) (rest := []) hx hb hml hown hts hE hM hS hA ce_X10_in tb_1425 (C_X10_in l D A ad ns I L G (v1) ((4 : Int64)) ((24 : Int64))) rfl rfl ⟨Nat.le_of_ble_eq_true rfl, Nat.le_of_ble_eq_true rfl⟩  rfl hl.1 rfl (Nat.le_of_ble_eq_true rfl) dX10_town_8 ⟨Nat.le_of_ble_eq_true rfl, Nat.le_of_ble_eq_true rfl⟩) hS (fun r2 u H locs hw hM hS => ?_)
  obtain ⟨rfl, b_r2⟩ := hw
  have hM : Mem D A ad ns I L G H := hM
  refine lv_if_eq (tgt := 68) hx hb dX10_town_11 (by decide) (fun c3 => ?_) (fun c3 => ?_)
  · have hc3 := c3
    have q3 := b_r2.f hc3
    refine lv_iconst (v := (0)) hx hb dX10_town_68 (by decide) ?_
    exact m_zret hx hb hr rfl hlocks hM hS (Nat.le_of_ble_eq_true rfl) (Nat.le_of_ble_eq_true rfl) (Or.inr ⟨by unfold okT; omega, rfl, rfl⟩) dX10_town_69
  · have hc3 := c3
    have q3 := b_r2.t hc3
    refine lv_iload_n hx hb dX10_town_14 rfl (lv_at hl 2 rfl) ?_
    refine lv_i2l hx hb dX10_town_15 rfl ?_
    refine lv_topl (fun v4 ev4 => ?_)
    have tv4 := q_i2l ev4
    refine lv_ldc2 (v := (4)) hx hb hown (hts _ tb_1423) dX10_town_16 ?_
    refine lv_ldc2 (v := (24)) hx hb hown (hts _ tb_1424) dX10_town_19 ?_
    refine m_calli (m_runS (As := [.long (v4), .long ((4 : Int64)), .long ((24 : Int64))]) (rest := []) hx hb hml hown hts hE hM hS hA ce_X10_in tb_1425 (C_X10_in l D A ad ns I L G (v4) ((4 : Int64)) ((24 : Int64))) rfl rfl ⟨Nat.le_of_ble_eq_true rfl, Nat.le_of_ble_eq_true rfl⟩  rfl hl.1 rfl (Nat.le_of_ble_eq_true rfl) dX10_town_22 ⟨Nat.le_of_ble_eq_true rfl, Nat.le_of_ble_eq_true rfl⟩) hS (fun r5 u H locs hw hM hS => ?_)
    obtain ⟨rfl, b_r5⟩ := hw
    have hM : Mem D A ad ns I L G H := hM
    refine lv_if_eq (tgt := 68) hx hb dX10_town_25 (by decide) (fun c6 => ?_) (fun c6 => ?_)
    · have hc6 := c6
      have q6 := b_r5.f hc6
      refine lv_iconst (v := (0)) hx hb dX10_town_68 (by decide) ?_
      exact m_zret hx hb hr rfl hlocks hM hS (Nat.le_of_ble_eq_true rfl) (Nat.le_of_ble_eq_true rfl) (Or.inr ⟨by unfold okT; omega, rfl, rfl⟩) dX10_town_69
    · have hc6 := c6
      have q6 := b_r5.t hc6
      refine lv_iload_n hx hb dX10_town_28 rfl (lv_at hl 3 rfl) ?_
      refine lv_i2l hx hb dX10_town_29 rfl ?_
      refine lv_topl (fun v7 ev7 => ?_)
      have tv7 := q_i2l ev7
      refine lv_lconst (v := 0) hx hb dX10_town_30 (by decide) ?_
      refine lv_iload_n hx hb dX10_town_31 rfl (lv_at hl 1 rfl) ?_
      refine lv_iconst (v := (1)) hx hb dX10_town_32 (by decide) ?_
      refine lv_isub hx hb dX10_town_33 ?_
      refine lv_topi (fun v8 ev8 => ?_)
      have tv8 := a_sub ev8 (by omega) (by omega)
      refine lv_i2l hx hb dX10_town_34 rfl ?_
      refine lv_topl (fun v9 ev9 => ?_)
      have tv9 := q_i2l ev9
      refine m_calli (m_runS (As := [.long (v7), .long (0), .long (v9)]) (rest := []) hx hb hml hown hts hE hM hS hA ce_X10_in tb_1425 (C_X10_in l D A ad ns I L G (v7) (0) (v9)) rfl rfl ⟨Nat.le_of_ble_eq_true rfl, Nat.le_of_ble_eq_true rfl⟩  rfl hl.1 rfl (Nat.le_of_ble_eq_true rfl) dX10_town_35 ⟨Nat.le_of_ble_eq_true rfl, Nat.le_of_ble_eq_true rfl⟩) hS (fun r10 u H locs hw hM hS => ?_)
      obtain ⟨rfl, b_r10⟩ := hw
      have hM : Mem D A ad ns I L G H := hM
      refine lv_if_eq (tgt := 68) hx hb dX10_town_38 (by decide) (fun c11 => ?_) (fun c11 => ?_)
      · have hc11 := c11
        have q11 := b_r10.f hc11
        refine lv_iconst (v := (0)) hx hb dX10_town_68 (by decide) ?_
        exact m_zret hx hb hr rfl hlocks hM hS (Nat.le_of_ble_eq_true rfl) (Nat.le_of_ble_eq_true rfl) (Or.inr ⟨by unfold okT; omega, rfl, rfl⟩) dX10_town_69
      · have hc11 := c11
        have q11 := b_r10.t hc11
        refine lv_iload hx hb dX10_town_41 (lv_at hl 4 rfl) ?_
        refine lv_i2l hx hb dX10_town_43 rfl ?_
        refine lv_topl (fun v12 ev12 => ?_)
        have tv12 := q_i2l ev12
        refine lv_lconst (v := 0) hx hb dX10_town_44 (by decide) ?_
        refine lv_iload_n hx hb dX10_town_45 rfl (lv_at hl 2 rfl) ?_
        refine lv_iconst (v := (1)) hx hb dX10_town_46 (by decide) ?_
        refine lv_isub hx hb dX10_town_47 ?_
        refine lv_topi (fun v13 ev13 => ?_)
        have tv13 := a_sub ev13 (by omega) (by omega)
        refine lv_i2l hx hb dX10_town_48 rfl ?_
        refine lv_topl (fun v14 ev14 => ?_)
        have tv14 := q_i2l ev14
        refine m_calli (m_runS (As := [.long (v12), .long (0), .long (v14)]) (rest := []) hx hb hml hown hts hE hM hS hA ce_X10_in tb_1425 (C_X10_in l D A ad ns I L G (v12) (0) (v14)) rfl rfl ⟨Nat.le_of_ble_eq_true rfl, Nat.le_of_ble_eq_true rfl⟩  rfl hl.1 rfl (Nat.le_of_ble_eq_true rfl) dX10_town_49 ⟨Nat.le_of_ble_eq_true rfl, Nat.le_of_ble_eq_true rfl⟩) hS (fun r15 u H locs hw hM hS => ?_)
        obtain ⟨rfl, b_r15⟩ := hw
        have hM : Mem D A ad ns I L G H := hM
        refine lv_if_eq (tgt := 68) hx hb dX10_town_52 (by decide) (fun c16 => ?_) (fun c16 => ?_)
        · have hc16 := c16
          have q16 := b_r15.f hc16
          refine lv_iconst (v := (0)) hx hb dX10_town_68 (by decide) ?_
          exact m_zret hx hb hr rfl hlocks hM hS (Nat.le_of_ble_eq_true rfl) (Nat.le_of_ble_eq_true rfl) (Or.inr ⟨by unfold okT; omega, rfl, rfl⟩) dX10_town_69
        · have hc16 := c16
          have q16 := b_r15.t hc16
          refine lv_iload hx hb dX10_town_55 (lv_at hl 5 rfl) ?_
          refine lv_i2l hx hb dX10_town_57 rfl ?_
          refine lv_topl (fun v17 ev17 => ?_)
          have tv17 := q_i2l ev17
          refine lv_lconst (v := 0) hx hb dX10_town_58 (by decide) ?_
          refine lv_ldc2 (v := (1000)) hx hb hown (hts _ tb_1428) dX10_town_59 ?_
          refine m_calli (m_runS (As := [.long (v17), .long (0), .long ((1000 : Int64))]) (rest := []) hx hb hml hown hts hE hM hS hA ce_X10_in tb_1425 (C_X10_in l D A ad ns I L G (v17) (0) ((1000 : Int64))) rfl rfl ⟨Nat.le_of_ble_eq_true rfl, Nat.le_of_ble_eq_true rfl⟩  rfl hl.1 rfl (Nat.le_of_ble_eq_true rfl) dX10_town_62 ⟨Nat.le_of_ble_eq_true rfl, Nat.le_of_ble_eq_true rfl⟩) hS (fun r18 u H locs hw hM hS => ?_)
          obtain ⟨rfl, b_r18⟩ := hw
          have hM : Mem D A ad ns I L G H := hM
          refine lv_if_ne (tgt := 70) hx hb dX10_town_65 (by decide) (fun c19 => ?_) (fun c19 => ?_)
          · have hc19 := c19
            have q19 := b_r18.t hc19
            refine lv_iconst (v := (0)) hx hb dX10_town_70 (by decide) ?_
            refine lv_istore (lv' := [(6, .int (0)), (0, .ref (ad (1000))), (1, .int (w)), (2, .int (h)), (3, .int (x)), (4, .int (y)), (5, .int (a))]) hx hb dX10_town_71 hl (by decide) rfl (fun ls hl => ?_)
            have loop73 : ∀ (n : Nat) (i : Int32) (Ia : MI) (H : Heap) (locs : List Loc) (ls : Array Slot), (0 ≤ i.toInt ∧ i.toInt ≤ 10) → (Ia = (fillI I 1001 i.toNatClampNeg 0)) → (10 - i.toInt).toNat < n → Mem D A ad ns Ia L G H → va_S A s.heap H locs → lv_has ls 7 [(0, .ref (ad (1000))), (1, .int (w)), (2, .int (h)), (3, .int (x)), (4, .int (y)), (5, .int (a)), (6, .int (i))] → W p l e ({ frames := 1, cells := 0, slots := 0, locals := 25 } : Room) s m args below meth c H locs 0 0 (MQ below (va_Qi (fun z u => (okT w h x y a ∧ z = 1 ∧ u = (ad, ns, townM I w h x y a, L, G)) ∨ (¬ okT w h x y a ∧ z = 0 ∧ u = (ad, ns, I, L, G))) (BM D A) A) args s 0 0 A) (F0 m 73 ls []) := by
              intro n
              induction n with
              | zero =>
                intro i Ia H locs ls h1 h2 hmu
                exact absurd hmu (Nat.not_lt_zero _)
              | succ n ih73 =>
                intro i Ia H locs ls h1 h2 hmu73 hM hS hl
                refine lv_iload hx hb dX10_town_73 (lv_at hl 6 rfl) ?_
                refine lv_bipush (v := (10)) hx hb dX10_town_75 (by decide) ?_
                refine lv_icmp_ge (tgt := 94) hx hb dX10_town_77 (by decide) (fun c20 => ?_) (fun c20 => ?_)
                · have hc20 := c20
                  have q20 := q_le hc20
                  obtain rfl : Ia = (fillI I 1001 10 0) := by rw [h2, tn_n (i := i) (n := 10) (by omega)]
                  have hM : Mem D A ad ns (fillI I 1001 10 0) L G H := hM
                  refine lv_aload_n hx hb dX10_town_94 rfl (lv_at hl 0 rfl) ?_
                  refine m_getr (1000) 1 (1001) hx hb hts hown hE oc10 hM hJ.1 rfl (by decide) rfl (hJ.2 1 (by decide)).2 (by decide) tb_1178 dX10_town_95 ?_
                  refine lv_iconst (v := (0)) hx hb dX10_town_98 (by decide) ?_
                  refine lv_iconst (v := (1)) hx hb dX10_town_99 (by decide) ?_
                  refine m_iast (1001) hx hb hE hM hS (hJ.2 1 (by decide)).1 rfl (vp_in_iff.mpr (by decide)) dX10_town_100 (fun H locs I21 eI21 hM hS => ?_)
                  rw [show (0 : Int32).toNatClampNeg = 0 from rfl] at eI21
                  subst eI21
                  refine lv_aload_n hx hb dX10_town_101 rfl (lv_at hl 0 rfl) ?_
                  refine m_getr (1000) 1 (1001) hx hb hts hown hE oc10 hM hJ.1 rfl (by decide) rfl (hJ.2 1 (by decide)).2 (by decide) tb_1178 dX10_town_102 ?_
                  refine lv_iconst (v := (1)) hx hb dX10_town_105 (by decide) ?_
                  refine lv_iload_n hx hb dX10_town_106 rfl (lv_at hl 1 rfl) ?_
                  refine m_iast (1001) hx hb hE hM hS (hJ.2 1 (by decide)).1 rfl (vp_in_iff.mpr (by decide)) dX10_town_107 (fun H locs I22 eI22 hM hS => ?_)
                  rw [show (1 : Int32).toNatClampNeg = 1 from rfl] at eI22
                  subst eI22
                  refine lv_aload_n hx hb dX10_town_108 rfl (lv_at hl 0 rfl) ?_
                  refine m_getr (1000) 1 (1001) hx hb hts hown hE oc10 hM hJ.1 rfl (by decide) rfl (hJ.2 1 (by decide)).2 (by decide) tb_1178 dX10_town_109 ?_
                  refine lv_iconst (v := (2)) hx hb dX10_town_112 (by decide) ?_
                  refine lv_iload_n hx hb dX10_town_113 rfl (lv_at hl 2 rfl) ?_
                  refine m_iast (1001) hx hb hE hM hS (hJ.2 1 (by decide)).1 rfl (vp_in_iff.mpr (by decide)) dX10_town_114 (fun H locs I23 eI23 hM hS => ?_)
                  rw [show (2 : Int32).toNatClampNeg = 2 from rfl] at eI23
                  subst eI23
                  refine lv_aload_n hx hb dX10_town_115 rfl (lv_at hl 0 rfl) ?_
                  refine m_getr (1000) 1 (1001) hx hb hts hown hE oc10 hM hJ.1 rfl (by decide) rfl (hJ.2 1 (by decide)).2 (by decide) tb_1178 dX10_town_116 ?_
                  refine lv_iconst (v := (3)) hx hb dX10_town_119 (by decide) ?_
                  refine lv_bipush (v := (24)) hx hb dX10_town_120 (by decide) ?_
                  refine lv_iload hx hb dX10_town_122 (lv_at hl 4 rfl) ?_
                  refine lv_imul hx hb dX10_town_124 ?_
                  refine lv_topi (fun v24 ev24 => ?_)
                  have tv24 := a_mulL (c := 24) ev24 (by decide) (by omega) (by omega)
                  subst ev24
                  refine lv_iload_n hx hb dX10_town_125 rfl (lv_at hl 3 rfl) ?_
                  refine lv_iadd hx hb dX10_town_126 ?_
                  refine lv_topi (fun v25 ev25 => ?_)
                  have tv25 := a_add ev25 (by omega) (by omega)
                  subst ev25
                  refine m_iast (1001) hx hb hE hM hS (hJ.2 1 (by decide)).1 rfl (vp_in_iff.mpr (by decide)) dX10_town_127 (fun H locs I26 eI26 hM hS => ?_)
                  rw [show (3 : Int32).toNatClampNeg = 3 from rfl] at eI26
                  subst eI26
                  refine lv_aload_n hx hb dX10_town_128 rfl (lv_at hl 0 rfl) ?_
                  refine m_getr (1000) 1 (1001) hx hb hts hown hE oc10 hM hJ.1 rfl (by decide) rfl (hJ.2 1 (by decide)).2 (by decide) tb_1178 dX10_town_129 ?_
                  refine lv_iconst (v := (4)) hx hb dX10_town_132 (by decide) ?_
                  refine lv_iload hx hb dX10_town_133 (lv_at hl 5 rfl) ?_
                  refine m_iast (1001) hx hb hE hM hS (hJ.2 1 (by decide)).1 rfl (vp_in_iff.mpr (by decide)) dX10_town_135 (fun H locs I27 eI27 hM hS => ?_)
                  rw [show (4 : Int32).toNatClampNeg = 4 from rfl] at eI27
                  subst eI27
                  refine lv_iconst (v := (0)) hx hb dX10_town_136 (by decide) ?_
                  refine lv_istore (lv' := [(6, .int (0)), (0, .ref (ad (1000))), (1, .int (w)), (2, .int (h)), (3, .int (x)), (4, .int (y)), (5, .int (a))]) hx hb dX10_town_137 hl (by decide) rfl (fun ls hl => ?_)
                  have loop139 : ∀ (n : Nat) (i : Int32) (Ia : MI) (H : Heap) (locs : List Loc) (ls : Array Slot), (0 ≤ i.toInt ∧ i.toInt ≤ 576) → (Ia = (fillI (fillI (fillI (u2 (u2 (u2 (u2 (u2 (fillI I 1001 10 0) 1001 0 1) 1001 1 w) 1001 2 h) 1001 3 (24 * y + x)) 1001 4 a) 1002 i.toNatClampNeg 0) 1003 i.toNatClampNeg (-1)) 1006 i.toNatClampNeg (-1))) → (576 - i.toInt).toNat < n → Mem D A ad ns Ia L G H → va_S A s.heap H locs → lv_has ls 7 [(0, .ref (ad (1000))), (1, .int (w)), (2, .int (h)), (3, .int (x)), (4, .int (y)), (5, .int (a)), (6, .int (i))] → W p l e ({ frames := 1, cells := 0, slots := 0, locals := 25 } : Room) s m args below meth c H locs 0 0 (MQ below (va_Qi (fun z u => (okT w h x y a ∧ z = 1 ∧ u = (ad, ns, townM I w h x y a, L, G)) ∨ (¬ okT w h x y a ∧ z = 0 ∧ u = (ad, ns, I, L, G))) (BM D A) A) args s 0 0 A) (F0 m 139 ls []) := by
                    intro n
                    induction n with
                    | zero =>
                      intro i Ia H locs ls h1 h2 hmu
                      exact absurd hmu (Nat.not_lt_zero _)
                    | succ n ih139 =>
                      intro i Ia H locs ls h1 h2 hmu139 hM hS hl
                      refine lv_iload hx hb dX10_town_139 (lv_at hl 6 rfl) ?_
                      refine lv_sipush (v := (576)) hx hb dX10_town_141 (by decide) ?_
                      refine lv_icmp_ge (tgt := 177) hx hb dX10_town_144 (by decide) (fun c28 => ?_) (fun c28 => ?_)
                      · have hc28 := c28
                        have q28 := q_le hc28
                        obtain rfl : Ia = (fillI (fillI (fillI (u2 (u2 (u2 (u2 (u2 (fillI I 1001 10 0) 1001 0 1) 1001 1 w) 1001 2 h) 1001 3 (24 * y + x)) 1001 4 a) 1002 576 0) 1003 576 (-1)) 1006 576 (-1)) := by rw [h2, tn_n (i := i) (n := 576) (by omega)]
                        have hM : Mem D A ad ns (fillI (fillI (fillI (u2 (u2 (u2 (u2 (u2 (fillI I 1001 10 0) 1001 0 1) 1001 1 w) 1001 2 h) 1001 3 (24 * y + x)) 1001 4 a) 1002 576 0) 1003 576 (-1)) 1006 576 (-1)) L G H := hM
                        refine lv_iconst (v := (0)) hx hb dX10_town_177 (by decide) ?_
                        refine lv_istore (lv' := [(6, .int (0)), (0, .ref (ad (1000))), (1, .int (w)), (2, .int (h)), (3, .int (x)), (4, .int (y)), (5, .int (a))]) hx hb dX10_town_178 hl (by decide) rfl (fun ls hl => ?_)
                        have loop180 : ∀ (n : Nat) (i : Int32) (Ia : MI) (H : Heap) (locs : List Loc) (ls : Array Slot), (0 ≤ i.toInt ∧ i.toInt ≤ 288) → (Ia = (fillI (fillI (fillI (fillI (fillI (u2 (u2 (u2 (u2 (u2 (fillI I 1001 10 0) 1001 0 1) 1001 1 w) 1001 2 h) 1001 3 (24 * y + x)) 1001 4 a) 1002 576 0) 1003 576 (-1)) 1006 576 (-1)) 1004 i.toNatClampNeg (-1)) 1005 i.toNatClampNeg 0)) → (288 - i.toInt).toNat < n → Mem D A ad ns Ia L G H → va_S A s.heap H locs → lv_has ls 7 [(0, .ref (ad (1000))), (1, .int (w)), (2, .int (h)), (3, .int (x)), (4, .int (y)), (5, .int (a)), (6, .int (i))] → W p l e ({ frames := 1, cells := 0, slots := 0, locals := 25 } : Room) s m args below meth c H locs 0 0 (MQ below (va_Qi (fun z u => (okT w h x y a ∧ z = 1 ∧ u = (ad, ns, townM I w h x y a, L, G)) ∨ (¬ okT w h x y a ∧ z = 0 ∧ u = (ad, ns, I, L, G))) (BM D A) A) args s 0 0 A) (F0 m 180 ls []) := by
                          intro n
                          induction n with
                          | zero =>
                            intro i Ia H locs ls h1 h2 hmu
                            exact absurd hmu (Nat.not_lt_zero _)
                          | succ n ih180 =>
                            intro i Ia H locs ls h1 h2 hmu180 hM hS hl
                            refine lv_iload hx hb dX10_town_180 (lv_at hl 6 rfl) ?_
                            refine lv_sipush (v := (288)) hx hb dX10_town_182 (by decide) ?_
                            refine lv_icmp_ge (tgt := 210) hx hb dX10_town_185 (by decide) (fun c29 => ?_) (fun c29 => ?_)
                            · have hc29 := c29
                              have q29 := q_le hc29
                              obtain rfl : Ia = (fillI (fillI (fillI (fillI (fillI (u2 (u2 (u2 (u2 (u2 (fillI I 1001 10 0) 1001 0 1) 1001 1 w) 1001 2 h) 1001 3 (24 * y + x)) 1001 4 a) 1002 576 0) 1003 576 (-1)) 1006 576 (-1)) 1004 288 (-1)) 1005 288 0) := by rw [h2, tn_n (i := i) (n := 288) (by omega)]
                              have hM : Mem D A ad ns (fillI (fillI (fillI (fillI (fillI (u2 (u2 (u2 (u2 (u2 (fillI I 1001 10 0) 1001 0 1) 1001 1 w) 1001 2 h) 1001 3 (24 * y + x)) 1001 4 a) 1002 576 0) 1003 576 (-1)) 1006 576 (-1)) 1004 288 (-1)) 1005 288 0) L G H := hM
                              refine lv_iconst (v := (1)) hx hb dX10_town_210 (by decide) ?_
                              exact m_zret hx hb hr rfl hlocks hM hS (Nat.le_of_ble_eq_true rfl) (Nat.le_of_ble_eq_true rfl) (Or.inl ⟨by unfold okT; omega, rfl, rfl⟩) dX10_town_211
                            · have hc29 := c29
                              have q29 := q_nle hc29
                              refine lv_aload_n hx hb dX10_town_188 rfl (lv_at hl 0 rfl) ?_
                              refine m_getr (1000) 4 (1004) hx hb hts hown hE oc10 hM hJ.1 rfl (by decide) rfl (hJ.2 4 (by decide)).2 (by decide) tb_1181 dX10_town_189 ?_
                              refine lv_iload hx hb dX10_town_192 (lv_at hl 6 rfl) ?_
                              refine lv_iconst (v := (-1)) hx hb dX10_town_194 (by decide) ?_
                              refine m_iast (1004) hx hb hE hM hS (hJ.2 4 (by decide)).1 rfl (vp_in_iff.mpr (by omega)) dX10_town_195 (fun H locs I30 eI30 hM hS => ?_)
                              subst eI30
                              refine lv_aload_n hx hb dX10_town_196 rfl (lv_at hl 0 rfl) ?_
                              refine m_getr (1000) 5 (1005) hx hb hts hown hE oc10 hM hJ.1 rfl (by decide) rfl (hJ.2 5 (by decide)).2 (by decide) tb_1182 dX10_town_197 ?_
                              refine lv_iload hx hb dX10_town_200 (lv_at hl 6 rfl) ?_
                              refine lv_iconst (v := (0)) hx hb dX10_town_202 (by decide) ?_
                              refine m_iast (1005) hx hb hE hM hS (hJ.2 5 (by decide)).1 rfl (vp_in_iff.mpr (by omega)) dX10_town_203 (fun H locs I31 eI31 hM hS => ?_)
                              subst eI31
                              obtain ⟨v32, ev32⟩ : ∃ z : Int32, z = i + Int32.ofInt (1) := ⟨_, rfl⟩
                              have tv32 := a_inc ev32 (by decide) (by omega) (by omega)
                              refine lv_iinc (v := v32) (lv' := [(6, .int (v32)), (0, .ref (ad (1000))), (1, .int (w)), (2, .int (h)), (3, .int (x)), (4, .int (y)), (5, .int (a))]) hx hb dX10_town_204 hl (k := 6) rfl ev32.symm (by decide) rfl (fun ls hl => ?_)
                              refine lv_goto (tgt := 180) hx hb dX10_town_207 (by decide) ?_
                              exact ih180 (v32) (u2 (u2 Ia (1004) ((i).toNatClampNeg) ((-1 : Int32))) (1005) ((i).toNatClampNeg) (0)) H locs ls (by omega) (by rw [h2, tn_s h1.1 tv32]; rw [fillI_ne (by decide), fillI_s, fillI_s]) (by omega) hM hS (lv_sub hl [1, 2, 3, 4, 5, 6, 0] rfl)
                        exact loop180 (_ + 1) (0) (fillI (fillI (fillI (u2 (u2 (u2 (u2 (u2 (fillI I 1001 10 0) 1001 0 1) 1001 1 w) 1001 2 h) 1001 3 (24 * y + x)) 1001 4 a) 1002 576 0) 1003 576 (-1)) 1006 576 (-1)) _ _ ls (by decide) (by rw [show Int32.toNatClampNeg 0 = 0 from rfl, fillI_0, fillI_0]) (Nat.lt_succ_self _) hM hS (lv_sub hl [1, 2, 3, 4, 5, 6, 0] rfl)
                      · have hc28 := c28
                        have q28 := q_nle hc28
                        refine lv_aload_n hx hb dX10_town_147 rfl (lv_at hl 0 rfl) ?_
                        refine m_getr (1000) 2 (1002) hx hb hts hown hE oc10 hM hJ.1 rfl (by decide) rfl (hJ.2 2 (by decide)).2 (by decide) tb_1179 dX10_town_148 ?_
                        refine lv_iload hx hb dX10_town_151 (lv_at hl 6 rfl) ?_
                        refine lv_iconst (v := (0)) hx hb dX10_town_153 (by decide) ?_
                        refine m_iast (1002) hx hb hE hM hS (hJ.2 2 (by decide)).1 rfl (vp_in_iff.mpr (by omega)) dX10_town_154 (fun H locs I33 eI33 hM hS => ?_)
                        subst eI33
                        refine lv_aload_n hx hb dX10_town_155 rfl (lv_at hl 0 rfl) ?_
                        refine m_getr (1000) 3 (1003) hx hb hts hown hE oc10 hM hJ.1 rfl (by decide) rfl (hJ.2 3 (by decide)).2 (by decide) tb_1180 dX10_town_156 ?_
                        refine lv_iload hx hb dX10_town_159 (lv_at hl 6 rfl) ?_
                        refine lv_iconst (v := (-1)) hx hb dX10_town_161 (by decide) ?_
                        refine m_iast (1003) hx hb hE hM hS (hJ.2 3 (by decide)).1 rfl (vp_in_iff.mpr (by omega)) dX10_town_162 (fun H locs I34 eI34 hM hS => ?_)
                        subst eI34
                        refine lv_aload_n hx hb dX10_town_163 rfl (lv_at hl 0 rfl) ?_
                        refine m_getr (1000) 6 (1006) hx hb hts hown hE oc10 hM hJ.1 rfl (by decide) rfl (hJ.2 6 (by decide)).2 (by decide) tb_1183 dX10_town_164 ?_
                        refine lv_iload hx hb dX10_town_167 (lv_at hl 6 rfl) ?_
                        refine lv_iconst (v := (-1)) hx hb dX10_town_169 (by decide) ?_
                        refine m_iast (1006) hx hb hE hM hS (hJ.2 6 (by decide)).1 rfl (vp_in_iff.mpr (by omega)) dX10_town_170 (fun H locs I35 eI35 hM hS => ?_)
                        subst eI35
                        obtain ⟨v36, ev36⟩ : ∃ z : Int32, z = i + Int32.ofInt (1) := ⟨_, rfl⟩
                        have tv36 := a_inc ev36 (by decide) (by omega) (by omega)
                        refine lv_iinc (v := v36) (lv' := [(6, .int (v36)), (0, .ref (ad (1000))), (1, .int (w)), (2, .int (h)), (3, .int (x)), (4, .int (y)), (5, .int (a))]) hx hb dX10_town_171 hl (k := 6) rfl ev36.symm (by decide) rfl (fun ls hl => ?_)
                        refine lv_goto (tgt := 139) hx hb dX10_town_174 (by decide) ?_
                        exact ih139 (v36) (u2 (u2 (u2 Ia (1002) ((i).toNatClampNeg) (0)) (1003) ((i).toNatClampNeg) ((-1 : Int32))) (1006) ((i).toNatClampNeg) ((-1 : Int32))) H locs ls (by omega) (by rw [h2, tn_s h1.1 tv36]; rw [fillI_ne (by decide), fillI_ne (by decide), fillI_s, fillI_ne (by decide), fillI_s, fillI_s]) (by omega) hM hS (lv_sub hl [1, 2, 3, 4, 5, 6, 0] rfl)
                  exact loop139 (_ + 1) (0) (u2 (u2 (u2 (u2 (u2 (fillI I 1001 10 0) (1001) 0 (1)) (1001) 1 (w)) (1001) 2 (h)) (1001) 3 (24 * y + x)) (1001) 4 (a)) _ _ ls (by decide) (by rw [show Int32.toNatClampNeg 0 = 0 from rfl, fillI_0, fillI_0, fillI_0]) (Nat.lt_succ_self _) hM hS (lv_sub hl [1, 2, 3, 4, 5, 6, 0] rfl)
                · have hc20 := c20
                  have q20 := q_nle hc20
                  refine lv_aload_n hx hb dX10_town_80 rfl (lv_at hl 0 rfl) ?_
                  refine m_getr (1000) 1 (1001) hx hb hts hown hE oc10 hM hJ.1 rfl (by decide) rfl (hJ.2 1 (by decide)).2 (by decide) tb_1178 dX10_town_81 ?_
                  refine lv_iload hx hb dX10_town_84 (lv_at hl 6 rfl) ?_
                  refine lv_iconst (v := (0)) hx hb dX10_town_86 (by decide) ?_
                  refine m_iast (1001) hx hb hE hM hS (hJ.2 1 (by decide)).1 rfl (vp_in_iff.mpr (by omega)) dX10_town_87 (fun H locs I37 eI37 hM hS => ?_)
                  subst eI37
                  obtain ⟨v38, ev38⟩ : ∃ z : Int32, z = i + Int32.ofInt (1) := ⟨_, rfl⟩
                  have tv38 := a_inc ev38 (by decide) (by omega) (by omega)
                  refine lv_iinc (v := v38) (lv' := [(6, .int (v38)), (0, .ref (ad (1000))), (1, .int (w)), (2, .int (h)), (3, .int (x)), (4, .int (y)), (5, .int (a))]) hx hb dX10_town_88 hl (k := 6) rfl ev38.symm (by decide) rfl (fun ls hl => ?_)
                  refine lv_goto (tgt := 73) hx hb dX10_town_91 (by decide) ?_
                  exact ih73 (v38) (u2 Ia (1001) ((i).toNatClampNeg) (0)) H locs ls (by omega) (by rw [h2, tn_s h1.1 tv38]; rw [fillI_s]) (by omega) hM hS (lv_sub hl [1, 2, 3, 4, 5, 6, 0] rfl)
            exact loop73 (_ + 1) (0) I _ _ ls (by decide) (fillI_0 I 1001 0).symm (Nat.lt_succ_self _) hM hS (lv_sub hl [1, 2, 3, 4, 5, 6, 0] rfl)
          · have hc19 := c19
            have q19 := b_r18.f hc19
            refine lv_iconst (v := (0)) hx hb dX10_town_68 (by decide) ?_
            exact m_zret hx hb hr rfl hlocks hM hS (Nat.le_of_ble_eq_true rfl) (Nat.le_of_ble_eq_true rfl) (Or.inr ⟨by unfold okT; omega, rfl, rfl⟩) dX10_town_69
