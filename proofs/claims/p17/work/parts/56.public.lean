theorem dX4_read_0 : decode cX4_read 0 = .ok (.aload_n 1, 1) := by decide +kernel
theorem dX4_read_1 : decode cX4_read 1 = .ok (.iconst 0, 1) := by decide +kernel
theorem dX4_read_2 : decode cX4_read 2 = .ok (.aload_n 0, 1) := by decide +kernel
theorem dX4_read_3 : decode cX4_read 3 = .ok (.getfield 9, 3) := by decide +kernel
theorem dX4_read_6 : decode cX4_read 6 = .ok (.iconst 0, 1) := by decide +kernel
theorem dX4_read_7 : decode cX4_read 7 = .ok (.iload_n 2, 1) := by decide +kernel
theorem dX4_read_8 : decode cX4_read 8 = .ok (.invokestatic 19, 3) := by decide +kernel
theorem dX4_read_11 : decode cX4_read 11 = .ok (.aload_n 0, 1) := by decide +kernel
theorem dX4_read_12 : decode cX4_read 12 = .ok (.iload_n 2, 1) := by decide +kernel
theorem dX4_read_13 : decode cX4_read 13 = .ok (.putfield 25, 3) := by decide +kernel
theorem dX4_read_16 : decode cX4_read 16 = .ok (.aload_n 0, 1) := by decide +kernel
theorem dX4_read_17 : decode cX4_read 17 = .ok (.iconst 0, 1) := by decide +kernel
theorem dX4_read_18 : decode cX4_read 18 = .ok (.putfield 29, 3) := by decide +kernel
theorem dX4_read_21 : decode cX4_read 21 = .ok (.aload_n 0, 1) := by decide +kernel
theorem dX4_read_22 : decode cX4_read 22 = .ok (.iconst 0, 1) := by decide +kernel
theorem dX4_read_23 : decode cX4_read 23 = .ok (.putfield 32, 3) := by decide +kernel
theorem dX4_read_26 : decode cX4_read 26 = .ok (.aload_n 0, 1) := by decide +kernel
theorem dX4_read_27 : decode cX4_read 27 = .ok (.iconst 0, 1) := by decide +kernel
theorem dX4_read_28 : decode cX4_read 28 = .ok (.putfield 35, 3) := by decide +kernel
theorem dX4_read_31 : decode cX4_read 31 = .ok (.aload_n 0, 1) := by decide +kernel
theorem dX4_read_32 : decode cX4_read 32 = .ok (.iconst 0, 1) := by decide +kernel
theorem dX4_read_33 : decode cX4_read 33 = .ok (.putfield 38, 3) := by decide +kernel
theorem dX4_read_36 : decode cX4_read 36 = .ok (.aload_n 0, 1) := by decide +kernel
theorem dX4_read_37 : decode cX4_read 37 = .ok (.iconst 0, 1) := by decide +kernel
theorem dX4_read_38 : decode cX4_read 38 = .ok (.putfield 41, 3) := by decide +kernel
theorem dX4_read_41 : decode cX4_read 41 = .ok (.aload_n 0, 1) := by decide +kernel
theorem dX4_read_42 : decode cX4_read 42 = .ok (.iconst 0, 1) := by decide +kernel
theorem dX4_read_43 : decode cX4_read 43 = .ok (.putfield 44, 3) := by decide +kernel
theorem dX4_read_46 : decode cX4_read 46 = .ok (.aload_n 0, 1) := by decide +kernel
theorem dX4_read_47 : decode cX4_read 47 = .ok (.iconst 0, 1) := by decide +kernel
theorem dX4_read_48 : decode cX4_read 48 = .ok (.putfield 47, 3) := by decide +kernel
theorem dX4_read_51 : decode cX4_read 51 = .ok (.aload_n 0, 1) := by decide +kernel
theorem dX4_read_52 : decode cX4_read 52 = .ok (.aload_n 3, 1) := by decide +kernel
theorem dX4_read_53 : decode cX4_read 53 = .ok (.putfield 50, 3) := by decide +kernel
theorem dX4_read_56 : decode cX4_read 56 = .ok (.aload_n 0, 1) := by decide +kernel
theorem dX4_read_57 : decode cX4_read 57 = .ok (.getfield 50, 3) := by decide +kernel
theorem dX4_read_60 : decode cX4_read 60 = .ok (.invokevirtual 54, 3) := by decide +kernel
theorem dX4_read_63 : decode cX4_read 63 = .ok (.iconst 0, 1) := by decide +kernel
theorem dX4_read_64 : decode cX4_read 64 = .ok (.istore 4, 2) := by decide +kernel
theorem dX4_read_66 : decode cX4_read 66 = .ok (.iload 4, 2) := by decide +kernel
theorem dX4_read_68 : decode cX4_read 68 = .ok (.sipush 400, 3) := by decide +kernel
theorem dX4_read_71 : decode cX4_read 71 = .ok (.if_icmp .gt 45, 3) := by decide +kernel
theorem dX4_read_74 : decode cX4_read 74 = .ok (.aload_n 0, 1) := by decide +kernel
theorem dX4_read_75 : decode cX4_read 75 = .ok (.getfield 47, 3) := by decide +kernel
theorem dX4_read_78 : decode cX4_read 78 = .ok (.iconst 5, 1) := by decide +kernel
theorem dX4_read_79 : decode cX4_read 79 = .ok (.if_icmp .eq 37, 3) := by decide +kernel
theorem dX4_read_82 : decode cX4_read 82 = .ok (.aload_n 0, 1) := by decide +kernel
theorem dX4_read_83 : decode cX4_read 83 = .ok (.getfield 44, 3) := by decide +kernel
theorem dX4_read_86 : decode cX4_read 86 = .ok (.ifCond .ne 30, 3) := by decide +kernel
theorem dX4_read_89 : decode cX4_read 89 = .ok (.aload_n 0, 1) := by decide +kernel
theorem dX4_read_90 : decode cX4_read 90 = .ok (.invokevirtual 59, 3) := by decide +kernel
theorem dX4_read_93 : decode cX4_read 93 = .ok (.aload_n 0, 1) := by decide +kernel
theorem dX4_read_94 : decode cX4_read 94 = .ok (.invokevirtual 62, 3) := by decide +kernel
theorem dX4_read_97 : decode cX4_read 97 = .ok (.aload_n 0, 1) := by decide +kernel
theorem dX4_read_98 : decode cX4_read 98 = .ok (.dup, 1) := by decide +kernel
theorem dX4_read_99 : decode cX4_read 99 = .ok (.getfield 29, 3) := by decide +kernel
theorem dX4_read_102 : decode cX4_read 102 = .ok (.aload_n 0, 1) := by decide +kernel
theorem dX4_read_103 : decode cX4_read 103 = .ok (.getfield 65, 3) := by decide +kernel
theorem dX4_read_106 : decode cX4_read 106 = .ok (.iadd, 1) := by decide +kernel
theorem dX4_read_107 : decode cX4_read 107 = .ok (.putfield 29, 3) := by decide +kernel
theorem dX4_read_110 : decode cX4_read 110 = .ok (.iinc 4 1, 3) := by decide +kernel
theorem dX4_read_113 : decode cX4_read 113 = .ok (.goto (-47), 3) := by decide +kernel
theorem dX4_read_116 : decode cX4_read 116 = .ok (.aload_n 0, 1) := by decide +kernel
theorem dX4_read_117 : decode cX4_read 117 = .ok (.getfield 44, 3) := by decide +kernel
theorem dX4_read_120 : decode cX4_read 120 = .ok (.ireturn, 1) := by decide +kernel
theorem ce_X4_read : CeV RX4 yX4_read cX4_read 5 (some .int) 3 := ⟨tb_563, tb_564, tb_9, tb_565, rfl, by decide, by decide, by decide +kernel⟩
set_option maxHeartbeats 4000000 in
set_option maxRecDepth 20000 in
theorem V_X4_read (l : Launch) (D : va_G) (A : Nat → Prop) (ad : Nat → Nat) (ns : List Nat) (I : MI) (L : ML) (G : MG) (w : Nat) (a0 : Int32) (hG : SGC ns G) (hI : INV I) (hW : LOK ns G w) (ha0 : 0 ≤ a0.toInt ∧ a0.toInt ≤ 400) : Met l yX4_read (wd yX4_read cX4_read 5 (some .int)) ({ frames := 7, cells := 0, slots := 0, locals := 147 }) (va_Pc [.ref (ad (70)), .ref (ad (3)), .int a0, .ref (ad (w))] (PM D A ad ns I L G)) (va_Qi (fun r u => ∃ I2 L2, u = (ad, ns, I2, L2, u2 G 70 13 w) ∧ INV I2 ∧ Kp [(71, 73), (200, 300)] [(70, 2), (70, 3), (70, 4), (70, 5), (70, 6), (70, 7), (70, 8), (70, 9), (70, 10), (70, 11), (70, 12)] I I2) (BM D A) A) 0 0 A := by
  refine m_ofW (by decide) (Nat.le_of_ble_eq_true rfl) ?_
  intro p e s m below meth c ls args hC hE hM hA hS hl
  obtain ⟨hx, hb, hml, hown, hts, hr, hlocks, hin⟩ := hC
  have k0 : (0 : Int32).toInt = 0 := by decide
  have k5 : (5 : Int32).toInt = 5 := by decide
  have k400 : (400 : Int32).toInt = 400 := by decide
  have hK : Kp [(71, 73), (200, 300)] [(70, 2), (70, 3), (70, 4), (70, 5), (70, 6), (70, 7), (70, 8), (70, 9), (70, 10), (70, 11), (70, 12)] I I := Kp.rf
  have hl : lv_has ls 5 [(0, .ref (ad (70))), (1, .ref (ad (3))), (2, .int (a0)), (3, .ref (ad (w)))] := hl
  refine lv_aload_n hx hb dX4_read_0 rfl (lv_at hl 1 rfl) ?_
  refine lv_iconst (v := (0)) hx hb dX4_read_1 (by decide) ?_
  refine lv_aload_n hx hb dX4_read_2 rfl (lv_at hl 0 rfl) ?_
  refine m_getr (70) 0 (71) hx hb hts hown hE oc4 hM (hG.1 70 (by decide)) rfl (by decide) rfl (hG.2 (70, 0, 71) (by decide)) (by decide) tb_318 dX4_read_3 ?_
  refine lv_iconst (v := (0)) hx hb dX4_read_6 (by decide) ?_
  refine lv_iload_n hx hb dX4_read_7 rfl (lv_at hl 2 rfl) ?_
  have hn0 := tn ha0.1
  refine m_copyb (3) (71) hx hb (hml.trans hl.1.symm) hown hE hM hS (hG.1 3 (by decide)) rfl (hG.1 71 (by decide)) rfl (hts _ tb_566) (hts _ tb_568) (hts _ tb_567) (hts _ tb_13) ⟨⟨by decide, by decide, fun h => absurd (q_lt h) (by omega)⟩, (by show 0 + a0.toNatClampNeg ≤ 400; omega), (by show 0 + a0.toNatClampNeg ≤ 400; omega), fun i _ => fits_byte (hI.get 3 _ rfl)⟩ (Nat.le_of_ble_eq_true rfl) (Nat.le_of_ble_eq_true rfl) dX4_read_8 (fun H locs I1 eI1 hM hS => ?_)
  have hI : INV I1 := by rw [eI1]; exact hI.cpy (by intro i hi; left; rfl)
  have hK : Kp [(71, 73), (200, 300)] [(70, 2), (70, 3), (70, 4), (70, 5), (70, 6), (70, 7), (70, 8), (70, 9), (70, 10), (70, 11), (70, 12)] I I1 := by rw [eI1]; exact hK.cpy rfl
  refine lv_aload_n hx hb dX4_read_11 rfl (lv_at hl 0 rfl) ?_
  refine lv_iload_n hx hb dX4_read_12 rfl (lv_at hl 2 rfl) ?_
  refine m_puti (70) 3 hx hb hts hown hE oc4 hM hS (hG.1 70 (by decide)) rfl (by decide) rfl rfl rfl rfl tb_321 dX4_read_13 (fun H locs I2 eI2 hM hS => ?_)
  subst eI2
  have hI := hI.put (n := 70) (k := 3) (v := a0) (lo := 0) (hi := 400) rfl (by first | omega | decide)
  have hK := hK.put (n := 70) (k := 3) (v := a0) (by first | rfl | simp [inR])
  refine lv_aload_n hx hb dX4_read_16 rfl (lv_at hl 0 rfl) ?_
  refine lv_iconst (v := (0)) hx hb dX4_read_17 (by decide) ?_
  refine m_puti (70) 4 hx hb hts hown hE oc4 hM hS (hG.1 70 (by decide)) rfl (by decide) rfl rfl rfl rfl tb_322 dX4_read_18 (fun H locs I3 eI3 hM hS => ?_)
  subst eI3
  have hI := hI.put (n := 70) (k := 4) (v := 0) (lo := 0) (hi := 801) rfl (by first | omega | decide)
  have hK := hK.put (n := 70) (k := 4) (v := 0) (by first | rfl | simp [inR])
  refine lv_aload_n hx hb dX4_read_21 rfl (lv_at hl 0 rfl) ?_
  refine lv_iconst (v := (0)) hx hb dX4_read_22 (by decide) ?_
  refine m_puti (70) 2 hx hb hts hown hE oc4 hM hS (hG.1 70 (by decide)) rfl (by decide) rfl rfl rfl rfl tb_320 dX4_read_23 (fun H locs I4 eI4 hM hS => ?_)
  subst eI4
  have hI := hI.put (n := 70) (k := 2) (v := 0) (lo := 0) (hi := 64) rfl (by first | omega | decide)
  have hK := hK.put (n := 70) (k := 2) (v := 0) (by first | rfl | simp [inR])
  refine lv_aload_n hx hb dX4_read_26 rfl (lv_at hl 0 rfl) ?_
  refine lv_iconst (v := (0)) hx hb dX4_read_27 (by decide) ?_
  refine m_puti (70) 9 hx hb hts hown hE oc4 hM hS (hG.1 70 (by decide)) rfl (by decide) rfl rfl rfl rfl tb_327 dX4_read_28 (fun H locs I5 eI5 hM hS => ?_)
  subst eI5
  have hI := hI.putF (n := 70) (k := 9) (v := 0) rfl
  have hK := hK.put (n := 70) (k := 9) (v := 0) (by first | rfl | simp [inR])
  refine lv_aload_n hx hb dX4_read_31 rfl (lv_at hl 0 rfl) ?_
  refine lv_iconst (v := (0)) hx hb dX4_read_32 (by decide) ?_
  refine m_puti (70) 10 hx hb hts hown hE oc4 hM hS (hG.1 70 (by decide)) rfl (by decide) rfl rfl rfl rfl tb_328 dX4_read_33 (fun H locs I6 eI6 hM hS => ?_)
  subst eI6
  have hI := hI.putF (n := 70) (k := 10) (v := 0) rfl
  have hK := hK.put (n := 70) (k := 10) (v := 0) (by first | rfl | simp [inR])
  refine lv_aload_n hx hb dX4_read_36 rfl (lv_at hl 0 rfl) ?_
  refine lv_iconst (v := (0)) hx hb dX4_read_37 (by decide) ?_
  refine m_puti (70) 11 hx hb hts hown hE oc4 hM hS (hG.1 70 (by decide)) rfl (by decide) rfl rfl rfl rfl tb_329 dX4_read_38 (fun H locs I7 eI7 hM hS => ?_)
  subst eI7
  have hI := hI.putF (n := 70) (k := 11) (v := 0) rfl
  have hK := hK.put (n := 70) (k := 11) (v := 0) (by first | rfl | simp [inR])
  refine lv_aload_n hx hb dX4_read_41 rfl (lv_at hl 0 rfl) ?_
  refine lv_iconst (v := (0)) hx hb dX4_read_42 (by decide) ?_
  refine m_puti (70) 12 hx hb hts hown hE oc4 hM hS (hG.1 70 (by decide)) rfl (by decide) rfl rfl rfl rfl tb_330 dX4_read_43 (fun H locs I8 eI8 hM hS => ?_)
  subst eI8
  have hI := hI.putF (n := 70) (k := 12) (v := 0) rfl
  have hK := hK.put (n := 70) (k := 12) (v := 0) (by first | rfl | simp [inR])
  refine lv_aload_n hx hb dX4_read_46 rfl (lv_at hl 0 rfl) ?_
  refine lv_iconst (v := (0)) hx hb dX4_read_47 (by decide) ?_
  refine m_puti (70) 7 hx hb hts hown hE oc4 hM hS (hG.1 70 (by decide)) rfl (by decide) rfl rfl rfl rfl tb_325 dX4_read_48 (fun H locs I9 eI9 hM hS => ?_)
  subst eI9
  have hI := hI.put (n := 70) (k := 7) (v := 0) (lo := 0) (hi := 5) rfl (by first | omega | decide)
  have hK := hK.put (n := 70) (k := 7) (v := 0) (by first | rfl | simp [inR])
  refine lv_aload_n hx hb dX4_read_51 rfl (lv_at hl 0 rfl) ?_
  refine lv_aload_n hx hb dX4_read_52 rfl (lv_at hl 3 rfl) ?_
  refine m_putr (70) 13 (w) hx hb hts hown hE oc4 hM hS (hG.1 70 (by decide)) rfl (by decide) rfl (by have := lbw hW.1; omega) hW.l rfl rfl rfl tb_331 dX4_read_53 (fun H locs G11 eG11 hM hS => ?_)
  subst eG11
  have hG : SGC ns (u2 G 70 13 w) := sgc_put hG rfl
  have hW : LOK ns (u2 G 70 13 w) w := lok_put hW (by decide)
  have hd : u2 G 70 13 w 70 13 = w := u2_self G 70 13 w
  refine lv_aload_n hx hb dX4_read_56 rfl (lv_at hl 0 rfl) ?_
  refine m_getr (70) 13 (w) hx hb hts hown hE oc4 hM (hG.1 70 (by decide)) rfl (by decide) rfl hd (by have := lbw hW.1; omega) tb_331 dX4_read_57 ?_
  refine m_callv (m_runV (w) (As := []) (rest := []) hx hb hml hown hts hE hM hS hA ce_X3_clear tb_569 (V_X3_clear l D A ad ns (u2 (u2 (u2 (u2 (u2 (u2 (u2 (u2 I1 (70) 3 (a0)) (70) 4 (0)) (70) 2 (0)) (70) 9 (0)) (70) 10 (0)) (70) 11 (0)) (70) 12 (0)) (70) 7 (0)) L (u2 G (70) 13 (w)) (w) hG hI hW) rfl rfl ⟨Nat.le_of_ble_eq_true rfl, Nat.le_of_ble_eq_true rfl⟩ hW.l (kW _ hW.1).1 rfl (by decide) rfl hl.1 rfl (Nat.le_of_ble_eq_true rfl) dX4_read_60 ⟨Nat.le_of_ble_eq_true rfl, Nat.le_of_ble_eq_true rfl⟩) hS (fun u H locs hw hM hS => ?_)
  obtain ⟨I12, L13, rfl, hI, hkI12⟩ := hw
  have hM : Mem D A ad ns I12 L13 (u2 G (70) 13 (w)) H := hM
  have hK := hK.trans hkI12 rfl
  refine lv_iconst (v := (0)) hx hb dX4_read_63 (by decide) ?_
  refine lv_istore (lv' := [(4, .int (0)), (0, .ref (ad (70))), (1, .ref (ad (3))), (2, .int (a0)), (3, .ref (ad (w)))]) hx hb dX4_read_64 hl (by decide) rfl (fun ls hl => ?_)
  have loop66 : ∀ (n : Nat) (x4_66 : Int32) (Ia66 : MI) (La66 : ML) (H : Heap) (locs : List Loc) (ls : Array Slot), INV Ia66 → Kp [(71, 73), (200, 300)] [(70, 2), (70, 3), (70, 4), (70, 5), (70, 6), (70, 7), (70, 8), (70, 9), (70, 10), (70, 11), (70, 12)] I Ia66 → (0 ≤ x4_66.toInt ∧ x4_66.toInt ≤ 401) → (402 - x4_66.toInt).toNat < n → Mem D A ad ns Ia66 La66 (u2 G (70) 13 (w)) H → va_S A s.heap H locs → lv_has ls 5 [(4, .int (x4_66)), (0, .ref (ad (70))), (1, .ref (ad (3))), (2, .int (a0)), (3, .ref (ad (w)))] → W p l e ({ frames := 7, cells := 0, slots := 0, locals := 147 } : Room) s m args below meth c H locs 0 0 (MQ below (va_Qi (fun r u => ∃ I2 L2, u = (ad, ns, I2, L2, u2 G 70 13 w) ∧ INV I2 ∧ Kp [(71, 73), (200, 300)] [(70, 2), (70, 3), (70, 4), (70, 5), (70, 6), (70, 7), (70, 8), (70, 9), (70, 10), (70, 11), (70, 12)] I I2) (BM D A) A) args s 0 0 A) (F0 m 66 ls []) := by
    intro n
    induction n with
    | zero =>
      intro x4_66 Ia66 La66 H locs ls hI hK hr4_66 hmu
      exact absurd hmu (Nat.not_lt_zero _)
    | succ n ih66 =>
      intro x4_66 Ia66 La66 H locs ls hI hK hr4_66 hmu66 hM hS hl
      refine lv_iload hx hb dX4_read_66 (lv_at hl 0 rfl) ?_
      refine lv_sipush (v := (400)) hx hb dX4_read_68 (by decide) ?_
      refine lv_icmp_gt (tgt := 116) hx hb dX4_read_71 (by decide) (fun c14 => ?_) (fun c14 => ?_)
      · have hc14 := c14
        have q14 := q_lt hc14
        refine lv_aload_n hx hb dX4_read_116 rfl (lv_at hl 1 rfl) ?_
        refine m_geti (70) 12 hx hb hts hown hE oc4 hM (hG.1 70 (by decide)) rfl (by decide) rfl tb_330 dX4_read_117 ?_
        exact m_iret hx hb hr hlocks hM hS (Nat.le_of_ble_eq_true rfl) (Nat.le_of_ble_eq_true rfl) ⟨_, _, rfl, hI, hK⟩ dX4_read_120
      · have hc14 := c14
        have q14 := q_nlt hc14
        refine lv_aload_n hx hb dX4_read_74 rfl (lv_at hl 1 rfl) ?_
        refine m_geti (70) 7 hx hb hts hown hE oc4 hM (hG.1 70 (by decide)) rfl (by decide) rfl tb_325 dX4_read_75 ?_
        have g15 := hI.get (70) 7 (lo := 0) (hi := 5) rfl
        refine lv_iconst (v := (5)) hx hb dX4_read_78 (by decide) ?_
        refine lv_icmp_eq (tgt := 116) hx hb dX4_read_79 (by decide) (fun c16 => ?_) (fun c16 => ?_)
        · have hc16 := c16
          have q16 := q_eq hc16
          refine lv_aload_n hx hb dX4_read_116 rfl (lv_at hl 1 rfl) ?_
          refine m_geti (70) 12 hx hb hts hown hE oc4 hM (hG.1 70 (by decide)) rfl (by decide) rfl tb_330 dX4_read_117 ?_
          exact m_iret hx hb hr hlocks hM hS (Nat.le_of_ble_eq_true rfl) (Nat.le_of_ble_eq_true rfl) ⟨_, _, rfl, hI, hK⟩ dX4_read_120
        · have hc16 := c16
          have q16 := q_ne hc16
          refine lv_aload_n hx hb dX4_read_82 rfl (lv_at hl 1 rfl) ?_
          refine m_geti (70) 12 hx hb hts hown hE oc4 hM (hG.1 70 (by decide)) rfl (by decide) rfl tb_330 dX4_read_83 ?_
          refine lv_if_ne (tgt := 116) hx hb dX4_read_86 (by decide) (fun c17 => ?_) (fun c17 => ?_)
          · have hc17 := c17
            have q17 := q_ne hc17
            refine lv_aload_n hx hb dX4_read_116 rfl (lv_at hl 1 rfl) ?_
            refine m_geti (70) 12 hx hb hts hown hE oc4 hM (hG.1 70 (by decide)) rfl (by decide) rfl tb_330 dX4_read_117 ?_
            exact m_iret hx hb hr hlocks hM hS (Nat.le_of_ble_eq_true rfl) (Nat.le_of_ble_eq_true rfl) ⟨_, _, rfl, hI, hK⟩ dX4_read_120
          · have hc17 := c17
            have q17 := q_eq hc17
            refine lv_aload_n hx hb dX4_read_89 rfl (lv_at hl 1 rfl) ?_
            refine m_callv (m_runV (70) (As := []) (rest := []) hx hb hml hown hts hE hM hS hA ce_X4_readToken tb_573 (V_X4_readToken l D A ad ns Ia66 La66 (u2 G (70) 13 (w)) hG hI) rfl rfl ⟨Nat.le_of_ble_eq_true rfl, Nat.le_of_ble_eq_true rfl⟩ (hG.1 70 (by decide)) rfl rfl (by decide) rfl hl.1 rfl (Nat.le_of_ble_eq_true rfl) dX4_read_90 ⟨Nat.le_of_ble_eq_true rfl, Nat.le_of_ble_eq_true rfl⟩) hS (fun u H locs hw hM hS => ?_)
            obtain ⟨I18, L19, rfl, hI, hkI18, xI18⟩ := hw
            have hM : Mem D A ad ns I18 L19 (u2 G (70) 13 (w)) H := hM
            have hK := hK.trans hkI18 rfl
            refine lv_aload_n hx hb dX4_read_93 rfl (lv_at hl 1 rfl) ?_
            refine m_callv (m_runV (70) (As := []) (rest := []) hx hb hml hown hts hE hM hS hA ce_X4_takeToken tb_665 (V_X4_takeToken l D A ad ns I18 L19 (u2 G (70) 13 (w)) (w) hG hI hW hd) rfl rfl ⟨Nat.le_of_ble_eq_true rfl, Nat.le_of_ble_eq_true rfl⟩ (hG.1 70 (by decide)) rfl rfl (by decide) rfl hl.1 rfl (Nat.le_of_ble_eq_true rfl) dX4_read_94 ⟨Nat.le_of_ble_eq_true rfl, Nat.le_of_ble_eq_true rfl⟩) hS (fun u H locs hw hM hS => ?_)
            obtain ⟨I20, L21, rfl, hI, hkI20⟩ := hw
            have hM : Mem D A ad ns I20 L21 (u2 G (70) 13 (w)) H := hM
            have hK := hK.trans hkI20 rfl
            refine lv_aload_n hx hb dX4_read_97 rfl (lv_at hl 1 rfl) ?_
            refine lv_dup hx hb dX4_read_98 rfl ?_
            refine m_geti (70) 4 hx hb hts hown hE oc4 hM (hG.1 70 (by decide)) rfl (by decide) rfl tb_322 dX4_read_99 ?_
            have g22 := hI.get (70) 4 (lo := 0) (hi := 801) rfl
            have z23 : I20 (70) 4 = I18 (70) 4 := (hkI20.get (70) 4 rfl)
            rw [z23] at g22 ⊢
            refine lv_aload_n hx hb dX4_read_102 rfl (lv_at hl 1 rfl) ?_
            refine m_geti (70) 6 hx hb hts hown hE oc4 hM (hG.1 70 (by decide)) rfl (by decide) rfl tb_324 dX4_read_103 ?_
            have g24 := hI.get (70) 6 (lo := 0) (hi := 401) rfl
            have z25 : I20 (70) 6 = I18 (70) 6 := (hkI20.get (70) 6 rfl)
            rw [z25] at g24 ⊢
            refine lv_iadd hx hb dX4_read_106 ?_
            refine lv_topi (fun v26 ev26 => ?_)
            have tv26 := a_add ev26 (by omega) (by omega)
            refine m_puti (70) 4 hx hb hts hown hE oc4 hM hS (hG.1 70 (by decide)) rfl (by decide) rfl rfl rfl rfl tb_322 dX4_read_107 (fun H locs I27 eI27 hM hS => ?_)
            subst eI27
            have hI := hI.put (n := 70) (k := 4) (v := v26) (lo := 0) (hi := 801) rfl (by first | omega | decide)
            have hK := hK.put (n := 70) (k := 4) (v := v26) (by first | rfl | simp [inR])
            obtain ⟨v28, ev28⟩ : ∃ z : Int32, z = x4_66 + Int32.ofInt (1) := ⟨_, rfl⟩
            have tv28 := a_inc ev28 (by decide) (by omega) (by omega)
            refine lv_iinc (v := v28) (lv' := [(4, .int (v28)), (0, .ref (ad (70))), (1, .ref (ad (3))), (2, .int (a0)), (3, .ref (ad (w)))]) hx hb dX4_read_110 hl (k := 0) rfl ev28.symm (by decide) rfl (fun ls hl => ?_)
            refine lv_goto (tgt := 66) hx hb dX4_read_113 (by decide) ?_
            exact ih66 (v28) (u2 I20 (70) 4 (v26)) L21 _ _ ls hI hK (by first | omega | decide) (by omega) hM hS (lv_sub hl [0, 1, 2, 3, 4] rfl)
  exact loop66 (_ + 1) (0) I12 L13 _ _ ls hI hK (by first | omega | decide) (Nat.lt_succ_self _) hM hS (lv_sub hl [0, 1, 2, 3, 4] rfl)
theorem dJ6_bitCount_0f7a4_0 : decode cJ6_bitCount_0f7a4 0 = .ok (.iload_n 0, 1) := by decide +kernel
theorem dJ6_bitCount_0f7a4_1 : decode cJ6_bitCount_0f7a4 1 = .ok (.iload_n 0, 1) := by decide +kernel
theorem dJ6_bitCount_0f7a4_2 : decode cJ6_bitCount_0f7a4 2 = .ok (.iconst 1, 1) := by decide +kernel
theorem dJ6_bitCount_0f7a4_3 : decode cJ6_bitCount_0f7a4 3 = .ok (.iushr, 1) := by decide +kernel
theorem dJ6_bitCount_0f7a4_4 : decode cJ6_bitCount_0f7a4 4 = .ok (.ldc_w 265, 3) := by decide +kernel
theorem dJ6_bitCount_0f7a4_7 : decode cJ6_bitCount_0f7a4 7 = .ok (.iand, 1) := by decide +kernel
theorem dJ6_bitCount_0f7a4_8 : decode cJ6_bitCount_0f7a4 8 = .ok (.isub, 1) := by decide +kernel
theorem dJ6_bitCount_0f7a4_9 : decode cJ6_bitCount_0f7a4 9 = .ok (.istore_n 0, 1) := by decide +kernel
theorem dJ6_bitCount_0f7a4_10 : decode cJ6_bitCount_0f7a4 10 = .ok (.iload_n 0, 1) := by decide +kernel
theorem dJ6_bitCount_0f7a4_11 : decode cJ6_bitCount_0f7a4 11 = .ok (.ldc_w 266, 3) := by decide +kernel
theorem dJ6_bitCount_0f7a4_14 : decode cJ6_bitCount_0f7a4 14 = .ok (.iand, 1) := by decide +kernel
theorem dJ6_bitCount_0f7a4_15 : decode cJ6_bitCount_0f7a4 15 = .ok (.iload_n 0, 1) := by decide +kernel
theorem dJ6_bitCount_0f7a4_16 : decode cJ6_bitCount_0f7a4 16 = .ok (.iconst 2, 1) := by decide +kernel
theorem dJ6_bitCount_0f7a4_17 : decode cJ6_bitCount_0f7a4 17 = .ok (.iushr, 1) := by decide +kernel
theorem dJ6_bitCount_0f7a4_18 : decode cJ6_bitCount_0f7a4 18 = .ok (.ldc_w 266, 3) := by decide +kernel
theorem dJ6_bitCount_0f7a4_21 : decode cJ6_bitCount_0f7a4 21 = .ok (.iand, 1) := by decide +kernel
theorem dJ6_bitCount_0f7a4_22 : decode cJ6_bitCount_0f7a4 22 = .ok (.iadd, 1) := by decide +kernel
theorem dJ6_bitCount_0f7a4_23 : decode cJ6_bitCount_0f7a4 23 = .ok (.istore_n 0, 1) := by decide +kernel
theorem dJ6_bitCount_0f7a4_24 : decode cJ6_bitCount_0f7a4 24 = .ok (.iload_n 0, 1) := by decide +kernel
theorem dJ6_bitCount_0f7a4_25 : decode cJ6_bitCount_0f7a4 25 = .ok (.iload_n 0, 1) := by decide +kernel
theorem dJ6_bitCount_0f7a4_26 : decode cJ6_bitCount_0f7a4 26 = .ok (.iconst 4, 1) := by decide +kernel
theorem dJ6_bitCount_0f7a4_27 : decode cJ6_bitCount_0f7a4 27 = .ok (.iushr, 1) := by decide +kernel
theorem dJ6_bitCount_0f7a4_28 : decode cJ6_bitCount_0f7a4 28 = .ok (.iadd, 1) := by decide +kernel
theorem dJ6_bitCount_0f7a4_29 : decode cJ6_bitCount_0f7a4 29 = .ok (.ldc_w 267, 3) := by decide +kernel
theorem dJ6_bitCount_0f7a4_32 : decode cJ6_bitCount_0f7a4 32 = .ok (.iand, 1) := by decide +kernel
theorem dJ6_bitCount_0f7a4_33 : decode cJ6_bitCount_0f7a4 33 = .ok (.istore_n 0, 1) := by decide +kernel
theorem dJ6_bitCount_0f7a4_34 : decode cJ6_bitCount_0f7a4 34 = .ok (.iload_n 0, 1) := by decide +kernel
theorem dJ6_bitCount_0f7a4_35 : decode cJ6_bitCount_0f7a4 35 = .ok (.iload_n 0, 1) := by decide +kernel
theorem dJ6_bitCount_0f7a4_36 : decode cJ6_bitCount_0f7a4 36 = .ok (.bipush 8, 2) := by decide +kernel
theorem dJ6_bitCount_0f7a4_38 : decode cJ6_bitCount_0f7a4 38 = .ok (.iushr, 1) := by decide +kernel
theorem dJ6_bitCount_0f7a4_39 : decode cJ6_bitCount_0f7a4 39 = .ok (.iadd, 1) := by decide +kernel
theorem dJ6_bitCount_0f7a4_40 : decode cJ6_bitCount_0f7a4 40 = .ok (.istore_n 0, 1) := by decide +kernel
theorem dJ6_bitCount_0f7a4_41 : decode cJ6_bitCount_0f7a4 41 = .ok (.iload_n 0, 1) := by decide +kernel
theorem dJ6_bitCount_0f7a4_42 : decode cJ6_bitCount_0f7a4 42 = .ok (.iload_n 0, 1) := by decide +kernel
theorem dJ6_bitCount_0f7a4_43 : decode cJ6_bitCount_0f7a4 43 = .ok (.bipush 16, 2) := by decide +kernel
theorem dJ6_bitCount_0f7a4_45 : decode cJ6_bitCount_0f7a4 45 = .ok (.iushr, 1) := by decide +kernel
theorem dJ6_bitCount_0f7a4_46 : decode cJ6_bitCount_0f7a4 46 = .ok (.iadd, 1) := by decide +kernel
theorem dJ6_bitCount_0f7a4_47 : decode cJ6_bitCount_0f7a4 47 = .ok (.istore_n 0, 1) := by decide +kernel
theorem dJ6_bitCount_0f7a4_48 : decode cJ6_bitCount_0f7a4 48 = .ok (.iload_n 0, 1) := by decide +kernel
theorem dJ6_bitCount_0f7a4_49 : decode cJ6_bitCount_0f7a4 49 = .ok (.bipush 63, 2) := by decide +kernel
theorem dJ6_bitCount_0f7a4_51 : decode cJ6_bitCount_0f7a4 51 = .ok (.iand, 1) := by decide +kernel
theorem dJ6_bitCount_0f7a4_52 : decode cJ6_bitCount_0f7a4 52 = .ok (.ireturn, 1) := by decide +kernel
theorem ce_J6_bitCount_0f7a4 : CeS yJ6_bitCount_0f7a4 cJ6_bitCount_0f7a4 1 (some .int) 1 := ⟨tb_961, tb_19, tb_962, by decide, by decide, by decide +kernel⟩
set_option maxHeartbeats 4000000 in
set_option maxRecDepth 20000 in
theorem V_J6_bitCount_0f7a4 (l : Launch) (D : va_G) (A : Nat → Prop) (ad : Nat → Nat) (ns : List Nat) (I : MI) (L : ML) (G : MG) (a0 : Int32) (hI : INV I) : Met l yJ6_bitCount_0f7a4 (wd yJ6_bitCount_0f7a4 cJ6_bitCount_0f7a4 1 (some .int)) ({ frames := 0, cells := 0, slots := 0, locals := 0 }) (va_Pc [.int a0] (PM D A ad ns I L G)) (va_Qi (fun r u => u = (ad, ns, I, L, G) ∧ (True)) (BM D A) A) 0 0 A := by
  refine m_ofW (by decide) (Nat.le_of_ble_eq_true rfl) ?_
  intro p e s m below meth c ls args hC hE hM hA hS hl
  obtain ⟨hx, hb, hml, hown, hts, hr, hlocks, hin⟩ := hC
  have k0 : (0 : Int32).toInt = 0 := by decide
  have k1 : (1 : Int32).toInt = 1 := by decide
  have k2 : (2 : Int32).toInt = 2 := by decide
  have k4 : (4 : Int32).toInt = 4 := by decide
  have k8 : (8 : Int32).toInt = 8 := by decide
  have k16 : (16 : Int32).toInt = 16 := by decide
  have k63 : (63 : Int32).toInt = 63 := by decide
  have k252645135 : (252645135 : Int32).toInt = 252645135 := by decide
  have k858993459 : (858993459 : Int32).toInt = 858993459 := by decide
  have k1431655765 : (1431655765 : Int32).toInt = 1431655765 := by decide
  have hl : lv_has ls 1 [(0, .int (a0))] := hl
  refine lv_iload_n hx hb dJ6_bitCount_0f7a4_0 rfl (lv_at hl 0 rfl) ?_
  refine lv_iload_n hx hb dJ6_bitCount_0f7a4_1 rfl (lv_at hl 0 rfl) ?_
  refine lv_iconst (v := (1)) hx hb dJ6_bitCount_0f7a4_2 (by decide) ?_
  refine lv_iushr hx hb dJ6_bitCount_0f7a4_3 rfl ?_
  refine lv_topi (fun v1 ev1 => ?_)
  refine lv_ldcw (v := (1431655765)) hx hb hown (hts _ tb_963) dJ6_bitCount_0f7a4_4 ?_
  refine lv_iand hx hb dJ6_bitCount_0f7a4_7 ?_
  refine lv_topi (fun v2 ev2 => ?_)
  have tv2 := a_and (c := 1431655765) ev2 (by decide) (by decide)
  refine lv_isub hx hb dJ6_bitCount_0f7a4_8 ?_
  refine lv_topi (fun v3 ev3 => ?_)
  refine lv_istore_n (lv' := [(0, .int (v3))]) hx hb dJ6_bitCount_0f7a4_9 rfl hl (by decide) rfl (fun ls hl => ?_)
  refine lv_iload_n hx hb dJ6_bitCount_0f7a4_10 rfl (lv_at hl 0 rfl) ?_
  refine lv_ldcw (v := (858993459)) hx hb hown (hts _ tb_964) dJ6_bitCount_0f7a4_11 ?_
  refine lv_iand hx hb dJ6_bitCount_0f7a4_14 ?_
  refine lv_topi (fun v4 ev4 => ?_)
  have tv4 := a_and (c := 858993459) ev4 (by decide) (by decide)
  refine lv_iload_n hx hb dJ6_bitCount_0f7a4_15 rfl (lv_at hl 0 rfl) ?_
  refine lv_iconst (v := (2)) hx hb dJ6_bitCount_0f7a4_16 (by decide) ?_
  refine lv_iushr hx hb dJ6_bitCount_0f7a4_17 rfl ?_
  refine lv_topi (fun v5 ev5 => ?_)
  refine lv_ldcw (v := (858993459)) hx hb hown (hts _ tb_964) dJ6_bitCount_0f7a4_18 ?_
  refine lv_iand hx hb dJ6_bitCount_0f7a4_21 ?_
  refine lv_topi (fun v6 ev6 => ?_)
  have tv6 := a_and (c := 858993459) ev6 (by decide) (by decide)
  refine lv_iadd hx hb dJ6_bitCount_0f7a4_22 ?_
  refine lv_topi (fun v7 ev7 => ?_)
  have tv7 := a_add ev7 (by omega) (by omega)
  refine lv_istore_n (lv' := [(0, .int (v7))]) hx hb dJ6_bitCount_0f7a4_23 rfl hl (by decide) rfl (fun ls hl => ?_)
  refine lv_iload_n hx hb dJ6_bitCount_0f7a4_24 rfl (lv_at hl 0 rfl) ?_
  refine lv_iload_n hx hb dJ6_bitCount_0f7a4_25 rfl (lv_at hl 0 rfl) ?_
  refine lv_iconst (v := (4)) hx hb dJ6_bitCount_0f7a4_26 (by decide) ?_
  refine lv_iushr hx hb dJ6_bitCount_0f7a4_27 rfl ?_
  refine lv_topi (fun v8 ev8 => ?_)
  refine lv_iadd hx hb dJ6_bitCount_0f7a4_28 ?_
  refine lv_topi (fun v9 ev9 => ?_)
  refine lv_ldcw (v := (252645135)) hx hb hown (hts _ tb_965) dJ6_bitCount_0f7a4_29 ?_
  refine lv_iand hx hb dJ6_bitCount_0f7a4_32 ?_
  refine lv_topi (fun v10 ev10 => ?_)
  have tv10 := a_and (c := 252645135) ev10 (by decide) (by decide)
  refine lv_istore_n (lv' := [(0, .int (v10))]) hx hb dJ6_bitCount_0f7a4_33 rfl hl (by decide) rfl (fun ls hl => ?_)
  refine lv_iload_n hx hb dJ6_bitCount_0f7a4_34 rfl (lv_at hl 0 rfl) ?_
  refine lv_iload_n hx hb dJ6_bitCount_0f7a4_35 rfl (lv_at hl 0 rfl) ?_
  refine lv_bipush (v := (8)) hx hb dJ6_bitCount_0f7a4_36 (by decide) ?_
  refine lv_iushr hx hb dJ6_bitCount_0f7a4_38 rfl ?_
  refine lv_topi (fun v11 ev11 => ?_)
  refine lv_iadd hx hb dJ6_bitCount_0f7a4_39 ?_
  refine lv_topi (fun v12 ev12 => ?_)
  refine lv_istore_n (lv' := [(0, .int (v12))]) hx hb dJ6_bitCount_0f7a4_40 rfl hl (by decide) rfl (fun ls hl => ?_)
  refine lv_iload_n hx hb dJ6_bitCount_0f7a4_41 rfl (lv_at hl 0 rfl) ?_
  refine lv_iload_n hx hb dJ6_bitCount_0f7a4_42 rfl (lv_at hl 0 rfl) ?_
  refine lv_bipush (v := (16)) hx hb dJ6_bitCount_0f7a4_43 (by decide) ?_
  refine lv_iushr hx hb dJ6_bitCount_0f7a4_45 rfl ?_
  refine lv_topi (fun v13 ev13 => ?_)
  refine lv_iadd hx hb dJ6_bitCount_0f7a4_46 ?_
  refine lv_topi (fun v14 ev14 => ?_)
  refine lv_istore_n (lv' := [(0, .int (v14))]) hx hb dJ6_bitCount_0f7a4_47 rfl hl (by decide) rfl (fun ls hl => ?_)
  refine lv_iload_n hx hb dJ6_bitCount_0f7a4_48 rfl (lv_at hl 0 rfl) ?_
  refine lv_bipush (v := (63)) hx hb dJ6_bitCount_0f7a4_49 (by decide) ?_
  refine lv_iand hx hb dJ6_bitCount_0f7a4_51 ?_
  refine lv_topi (fun v15 ev15 => ?_)
  have tv15 := a_and (c := 63) ev15 (by decide) (by decide)
  exact m_iret hx hb hr hlocks hM hS (Nat.le_of_ble_eq_true rfl) (Nat.le_of_ble_eq_true rfl) ⟨rfl, trivial⟩ dJ6_bitCount_0f7a4_52
theorem dX9_changeMirror_0 : decode cX9_changeMirror 0 = .ok (.iload 4, 2) := by decide +kernel
theorem dX9_changeMirror_2 : decode cX9_changeMirror 2 = .ok (.ifCond .ne 6, 3) := by decide +kernel
theorem dX9_changeMirror_5 : decode cX9_changeMirror 5 = .ok (.bipush (-2), 2) := by decide +kernel
theorem dX9_changeMirror_7 : decode cX9_changeMirror 7 = .ok (.ireturn, 1) := by decide +kernel
theorem dX9_changeMirror_8 : decode cX9_changeMirror 8 = .ok (.aload_n 0, 1) := by decide +kernel
theorem dX9_changeMirror_9 : decode cX9_changeMirror 9 = .ok (.getfield 10, 3) := by decide +kernel
theorem dX9_changeMirror_12 : decode cX9_changeMirror 12 = .ok (.iload_n 1, 1) := by decide +kernel
theorem dX9_changeMirror_13 : decode cX9_changeMirror 13 = .ok (.iload_n 2, 1) := by decide +kernel
theorem dX9_changeMirror_14 : decode cX9_changeMirror 14 = .ok (.invokevirtual 201, 3) := by decide +kernel
theorem dX9_changeMirror_17 : decode cX9_changeMirror 17 = .ok (.istore 5, 2) := by decide +kernel
theorem dX9_changeMirror_19 : decode cX9_changeMirror 19 = .ok (.aload_n 0, 1) := by decide +kernel
theorem dX9_changeMirror_20 : decode cX9_changeMirror 20 = .ok (.getfield 10, 3) := by decide +kernel
theorem dX9_changeMirror_23 : decode cX9_changeMirror 23 = .ok (.iload_n 1, 1) := by decide +kernel
theorem dX9_changeMirror_24 : decode cX9_changeMirror 24 = .ok (.iload_n 2, 1) := by decide +kernel
theorem dX9_changeMirror_25 : decode cX9_changeMirror 25 = .ok (.iload_n 3, 1) := by decide +kernel
theorem dX9_changeMirror_26 : decode cX9_changeMirror 26 = .ok (.invokevirtual 140, 3) := by decide +kernel
theorem dX9_changeMirror_29 : decode cX9_changeMirror 29 = .ok (.iload 5, 2) := by decide +kernel
theorem dX9_changeMirror_31 : decode cX9_changeMirror 31 = .ok (.ireturn, 1) := by decide +kernel
theorem ce_X9_changeMirror : CeV RX9 yX9_changeMirror cX9_changeMirror 6 (some .int) 4 := ⟨tb_514, tp_0, tb_1, tb_515, rfl, by decide, by decide, by decide +kernel⟩
set_option maxHeartbeats 4000000 in
set_option maxRecDepth 20000 in
theorem V_X9_changeMirror (l : Launch) (D : va_G) (A : Nat → Prop) (ad : Nat → Nat) (ns : List Nat) (I : MI) (L : ML) (G : MG) (a0 : Int32) (a1 : Int32) (a2 : Int32) (a3 : Int32) (hG : SGC ns G) (hI : INV I) (ha0 : 0 ≤ a0.toInt ∧ a0.toInt ≤ 23) (ha1 : 0 ≤ a1.toInt ∧ a1.toInt ≤ 9) (ha3 : 0 ≤ a3.toInt ∧ a3.toInt ≤ 1) : Met l yX9_changeMirror (wd yX9_changeMirror cX9_changeMirror 6 (some .int)) ({ frames := 1, cells := 0, slots := 0, locals := 23 }) (va_Pc [.ref (ad (0)), .int a0, .int a1, .int a2, .int a3] (PM D A ad ns I L G)) (va_Qi (fun r u => ∃ I2 L2, u = (ad, ns, I2, L2, G) ∧ INV I2 ∧ Kp [(107, 108)] [] I I2) (BM D A) A) 0 0 A := by
  refine m_ofW (by decide) (Nat.le_of_ble_eq_true rfl) ?_
  intro p e s m below meth c ls args hC hE hM hA hS hl
  obtain ⟨hx, hb, hml, hown, hts, hr, hlocks, hin⟩ := hC
  have km2 : (-2 : Int32).toInt = -2 := by decide
  have k0 : (0 : Int32).toInt = 0 := by decide
  have hK : Kp [(107, 108)] [] I I := Kp.rf
  have hl : lv_has ls 6 [(0, .ref (ad (0))), (1, .int (a0)), (2, .int (a1)), (3, .int (a2)), (4, .int (a3))] := hl
  refine lv_iload hx hb dX9_changeMirror_0 (lv_at hl 4 rfl) ?_
  refine lv_if_ne (tgt := 8) hx hb dX9_changeMirror_2 (by decide) (fun c1 => ?_) (fun c1 => ?_)
  · have hc1 := c1
    have q1 := q_ne hc1
    refine lv_aload_n hx hb dX9_changeMirror_8 rfl (lv_at hl 0 rfl) ?_
    refine m_getr (0) 0 (100) hx hb hts hown hE oc9 hM (hG.1 0 (by decide)) rfl (by decide) rfl (hG.2 (0, 0, 100) (by decide)) (by decide) tb_398 dX9_changeMirror_9 ?_
    refine lv_iload_n hx hb dX9_changeMirror_12 rfl (lv_at hl 1 rfl) ?_
    refine lv_iload_n hx hb dX9_changeMirror_13 rfl (lv_at hl 2 rfl) ?_
    refine m_calli (m_runV (100) (As := [.int (a0), .int (a1)]) (rest := []) hx hb hml hown hts hE hM hS hA ce_X8_ofMirror tb_516 (V_X8_ofMirror_100 l D A ad ns I L G (a0) (a1) hG hI (by first | omega | decide) (by first | omega | decide)) rfl rfl ⟨Nat.le_of_ble_eq_true rfl, Nat.le_of_ble_eq_true rfl⟩ (hG.1 100 (by decide)) rfl rfl (by decide) rfl hl.1 rfl (Nat.le_of_ble_eq_true rfl) dX9_changeMirror_14 ⟨Nat.le_of_ble_eq_true rfl, Nat.le_of_ble_eq_true rfl⟩) hS (fun r2 u H locs hw hM hS => ?_)
    obtain ⟨rfl, xr2⟩ := hw
    have hM : Mem D A ad ns I L G H := hM
    refine lv_istore (lv' := [(5, .int (r2)), (0, .ref (ad (0))), (1, .int (a0)), (2, .int (a1)), (3, .int (a2)), (4, .int (a3))]) hx hb dX9_changeMirror_17 hl (by decide) rfl (fun ls hl => ?_)
    refine lv_aload_n hx hb dX9_changeMirror_19 rfl (lv_at hl 1 rfl) ?_
    refine m_getr (0) 0 (100) hx hb hts hown hE oc9 hM (hG.1 0 (by decide)) rfl (by decide) rfl (hG.2 (0, 0, 100) (by decide)) (by decide) tb_398 dX9_changeMirror_20 ?_
    refine lv_iload_n hx hb dX9_changeMirror_23 rfl (lv_at hl 2 rfl) ?_
    refine lv_iload_n hx hb dX9_changeMirror_24 rfl (lv_at hl 3 rfl) ?_
    refine lv_iload_n hx hb dX9_changeMirror_25 rfl (lv_at hl 4 rfl) ?_
    refine m_callv (m_runV (100) (As := [.int (a0), .int (a1), .int (a2)]) (rest := []) hx hb hml hown hts hE hM hS hA ce_X8_setMirror tb_503 (V_X8_setMirror_100 l D A ad ns I L G (a0) (a1) (a2) hG hI (by first | omega | decide) (by first | omega | decide)) rfl rfl ⟨Nat.le_of_ble_eq_true rfl, Nat.le_of_ble_eq_true rfl⟩ (hG.1 100 (by decide)) rfl rfl (by decide) rfl hl.1 rfl (Nat.le_of_ble_eq_true rfl) dX9_changeMirror_26 ⟨Nat.le_of_ble_eq_true rfl, Nat.le_of_ble_eq_true rfl⟩) hS (fun u H locs hw hM hS => ?_)
    obtain ⟨I3, L4, rfl, hI, hkI3⟩ := hw
    have hM : Mem D A ad ns I3 L4 G H := hM
    have hK := hK.trans hkI3 rfl
    refine lv_iload hx hb dX9_changeMirror_29 (lv_at hl 0 rfl) ?_
    exact m_iret hx hb hr hlocks hM hS (Nat.le_of_ble_eq_true rfl) (Nat.le_of_ble_eq_true rfl) ⟨_, _, rfl, hI, hK⟩ dX9_changeMirror_31
  · have hc1 := c1
    have q1 := q_eq hc1
    refine lv_bipush (v := (-2)) hx hb dX9_changeMirror_5 (by decide) ?_
    exact m_iret hx hb hr hlocks hM hS (Nat.le_of_ble_eq_true rfl) (Nat.le_of_ble_eq_true rfl) ⟨_, _, rfl, hI, hK⟩ dX9_changeMirror_7
theorem dX9_isPlaceOfSet_0 : decode cX9_isPlaceOfSet 0 = .ok (.iload_n 1, 1) := by decide +kernel
theorem dX9_isPlaceOfSet_1 : decode cX9_isPlaceOfSet 1 = .ok (.invokestatic 327, 3) := by decide +kernel
theorem dX9_isPlaceOfSet_4 : decode cX9_isPlaceOfSet 4 = .ok (.istore_n 3, 1) := by decide +kernel
theorem dX9_isPlaceOfSet_5 : decode cX9_isPlaceOfSet 5 = .ok (.iload_n 1, 1) := by decide +kernel
theorem dX9_isPlaceOfSet_6 : decode cX9_isPlaceOfSet 6 = .ok (.aload_n 0, 1) := by decide +kernel
theorem dX9_isPlaceOfSet_7 : decode cX9_isPlaceOfSet 7 = .ok (.getfield 10, 3) := by decide +kernel
theorem dX9_isPlaceOfSet_10 : decode cX9_isPlaceOfSet 10 = .ok (.getfield 133, 3) := by decide +kernel
theorem dX9_isPlaceOfSet_13 : decode cX9_isPlaceOfSet 13 = .ok (.iushr, 1) := by decide +kernel
theorem dX9_isPlaceOfSet_14 : decode cX9_isPlaceOfSet 14 = .ok (.ifCond .ne 27, 3) := by decide +kernel
theorem dX9_isPlaceOfSet_17 : decode cX9_isPlaceOfSet 17 = .ok (.iload_n 3, 1) := by decide +kernel
theorem dX9_isPlaceOfSet_18 : decode cX9_isPlaceOfSet 18 = .ok (.iconst 1, 1) := by decide +kernel
theorem dX9_isPlaceOfSet_19 : decode cX9_isPlaceOfSet 19 = .ok (.iconst 4, 1) := by decide +kernel
theorem dX9_isPlaceOfSet_20 : decode cX9_isPlaceOfSet 20 = .ok (.invokestatic 95, 3) := by decide +kernel
theorem dX9_isPlaceOfSet_23 : decode cX9_isPlaceOfSet 23 = .ok (.ifCond .eq 18, 3) := by decide +kernel
theorem dX9_isPlaceOfSet_26 : decode cX9_isPlaceOfSet 26 = .ok (.iload_n 2, 1) := by decide +kernel
theorem dX9_isPlaceOfSet_27 : decode cX9_isPlaceOfSet 27 = .ok (.iconst (-1), 1) := by decide +kernel
theorem dX9_isPlaceOfSet_28 : decode cX9_isPlaceOfSet 28 = .ok (.iload_n 3, 1) := by decide +kernel
theorem dX9_isPlaceOfSet_29 : decode cX9_isPlaceOfSet 29 = .ok (.iconst 1, 1) := by decide +kernel
theorem dX9_isPlaceOfSet_30 : decode cX9_isPlaceOfSet 30 = .ok (.isub, 1) := by decide +kernel
theorem dX9_isPlaceOfSet_31 : decode cX9_isPlaceOfSet 31 = .ok (.invokestatic 95, 3) := by decide +kernel
theorem dX9_isPlaceOfSet_34 : decode cX9_isPlaceOfSet 34 = .ok (.ifCond .eq 7, 3) := by decide +kernel
theorem dX9_isPlaceOfSet_37 : decode cX9_isPlaceOfSet 37 = .ok (.iconst 1, 1) := by decide +kernel
theorem dX9_isPlaceOfSet_38 : decode cX9_isPlaceOfSet 38 = .ok (.goto 4, 3) := by decide +kernel
theorem dX9_isPlaceOfSet_41 : decode cX9_isPlaceOfSet 41 = .ok (.iconst 0, 1) := by decide +kernel
theorem dX9_isPlaceOfSet_42 : decode cX9_isPlaceOfSet 42 = .ok (.ireturn, 1) := by decide +kernel
theorem ce_X9_isPlaceOfSet : CeV RX9 yX9_isPlaceOfSet cX9_isPlaceOfSet 4 (some .boolean) 2 := ⟨tb_958, tp_37, tb_1, tb_959, rfl, by decide, by decide, by decide +kernel⟩
set_option maxHeartbeats 4000000 in
set_option maxRecDepth 20000 in
theorem V_X9_isPlaceOfSet (l : Launch) (D : va_G) (A : Nat → Prop) (ad : Nat → Nat) (ns : List Nat) (I : MI) (L : ML) (G : MG) (a0 : Int32) (a1 : Int32) (hG : SGC ns G) (hI : INV I) : Met l yX9_isPlaceOfSet (wd yX9_isPlaceOfSet cX9_isPlaceOfSet 4 (some .boolean)) ({ frames := 1, cells := 0, slots := 0, locals := 22 }) (va_Pc [.ref (ad (0)), .int a0, .int a1] (PM D A ad ns I L G)) (va_Qi (fun r u => u = (ad, ns, I, L, G) ∧ (0 ≤ r.toInt ∧ r.toInt ≤ 1)) (BM D A) A) 0 0 A := by
  refine m_ofW (by decide) (Nat.le_of_ble_eq_true rfl) ?_
  intro p e s m below meth c ls args hC hE hM hA hS hl
  obtain ⟨hx, hb, hml, hown, hts, hr, hlocks, hin⟩ := hC
  have km1 : (-1 : Int32).toInt = -1 := by decide
  have k0 : (0 : Int32).toInt = 0 := by decide
  have k1 : (1 : Int32).toInt = 1 := by decide
  have k4 : (4 : Int32).toInt = 4 := by decide
  have hl : lv_has ls 4 [(0, .ref (ad (0))), (1, .int (a0)), (2, .int (a1))] := hl
  refine lv_iload_n hx hb dX9_isPlaceOfSet_0 rfl (lv_at hl 1 rfl) ?_
  refine m_calli (m_runS (As := [.int (a0)]) (rest := []) hx hb hml hown hts hE hM hS hA ce_J6_bitCount_0f7a4 tb_960 (V_J6_bitCount_0f7a4 l D A ad ns I L G (a0) hI) rfl rfl ⟨Nat.le_of_ble_eq_true rfl, Nat.le_of_ble_eq_true rfl⟩  rfl hl.1 rfl (Nat.le_of_ble_eq_true rfl) dX9_isPlaceOfSet_1 ⟨Nat.le_of_ble_eq_true rfl, Nat.le_of_ble_eq_true rfl⟩) hS (fun r1 u H locs hw hM hS => ?_)
  obtain ⟨rfl, xr1⟩ := hw
  have hM : Mem D A ad ns I L G H := hM
  refine lv_istore_n (lv' := [(3, .int (r1)), (0, .ref (ad (0))), (1, .int (a0)), (2, .int (a1))]) hx hb dX9_isPlaceOfSet_4 rfl hl (by decide) rfl (fun ls hl => ?_)
  refine lv_iload_n hx hb dX9_isPlaceOfSet_5 rfl (lv_at hl 2 rfl) ?_
  refine lv_aload_n hx hb dX9_isPlaceOfSet_6 rfl (lv_at hl 1 rfl) ?_
  refine m_getr (0) 0 (100) hx hb hts hown hE oc9 hM (hG.1 0 (by decide)) rfl (by decide) rfl (hG.2 (0, 0, 100) (by decide)) (by decide) tb_398 dX9_isPlaceOfSet_7 ?_
  refine m_geti (100) 8 hx hb hts hown hE oc8 hM (hG.1 100 (by decide)) rfl (by decide) rfl tb_62 dX9_isPlaceOfSet_10 ?_
  have g2 := hI.get (100) 8 (lo := 0) (hi := 24) rfl
  refine lv_iushr hx hb dX9_isPlaceOfSet_13 rfl ?_
  refine lv_topi (fun v3 ev3 => ?_)
  refine lv_if_ne (tgt := 41) hx hb dX9_isPlaceOfSet_14 (by decide) (fun c4 => ?_) (fun c4 => ?_)
  · have hc4 := c4
    have q4 := q_ne hc4
    refine lv_iconst (v := (0)) hx hb dX9_isPlaceOfSet_41 (by decide) ?_
    exact m_zret hx hb hr rfl hlocks hM hS (Nat.le_of_ble_eq_true rfl) (Nat.le_of_ble_eq_true rfl) ⟨rfl, (by first | omega | decide)⟩ dX9_isPlaceOfSet_42
  · have hc4 := c4
    have q4 := q_eq hc4
    refine lv_iload_n hx hb dX9_isPlaceOfSet_17 rfl (lv_at hl 0 rfl) ?_
    refine lv_iconst (v := (1)) hx hb dX9_isPlaceOfSet_18 (by decide) ?_
    refine lv_iconst (v := (4)) hx hb dX9_isPlaceOfSet_19 (by decide) ?_
    refine m_calli (m_runS (As := [.int (r1), .int (1), .int (4)]) (rest := []) hx hb hml hown hts hE hM hS hA ce_X9_isWithin tb_451 (V_X9_isWithin l D A ad ns I L G (r1) (1) (4) hI) rfl rfl ⟨Nat.le_of_ble_eq_true rfl, Nat.le_of_ble_eq_true rfl⟩  rfl hl.1 rfl (Nat.le_of_ble_eq_true rfl) dX9_isPlaceOfSet_20 ⟨Nat.le_of_ble_eq_true rfl, Nat.le_of_ble_eq_true rfl⟩) hS (fun r5 u H locs hw hM hS => ?_)
    obtain ⟨rfl, xr5⟩ := hw
    have hM : Mem D A ad ns I L G H := hM
    have yr5 := bo01 xr5
    refine lv_if_eq (tgt := 41) hx hb dX9_isPlaceOfSet_23 (by decide) (fun c6 => ?_) (fun c6 => ?_)
    · have hc6 := c6
      have q6 := xr5.f hc6
      refine lv_iconst (v := (0)) hx hb dX9_isPlaceOfSet_41 (by decide) ?_
      exact m_zret hx hb hr rfl hlocks hM hS (Nat.le_of_ble_eq_true rfl) (Nat.le_of_ble_eq_true rfl) ⟨rfl, (by first | omega | decide)⟩ dX9_isPlaceOfSet_42
    · have hc6 := c6
      have q6 := xr5.t hc6
      refine lv_iload_n hx hb dX9_isPlaceOfSet_26 rfl (lv_at hl 3 rfl) ?_
      refine lv_iconst (v := (-1)) hx hb dX9_isPlaceOfSet_27 (by decide) ?_
      refine lv_iload_n hx hb dX9_isPlaceOfSet_28 rfl (lv_at hl 0 rfl) ?_
      refine lv_iconst (v := (1)) hx hb dX9_isPlaceOfSet_29 (by decide) ?_
      refine lv_isub hx hb dX9_isPlaceOfSet_30 ?_
      refine lv_topi (fun v7 ev7 => ?_)
      have tv7 := a_sub ev7 (by omega) (by omega)
      refine m_calli (m_runS (As := [.int (a1), .int ((-1 : Int32)), .int (v7)]) (rest := []) hx hb hml hown hts hE hM hS hA ce_X9_isWithin tb_451 (V_X9_isWithin l D A ad ns I L G (a1) ((-1 : Int32)) (v7) hI) rfl rfl ⟨Nat.le_of_ble_eq_true rfl, Nat.le_of_ble_eq_true rfl⟩  rfl hl.1 rfl (Nat.le_of_ble_eq_true rfl) dX9_isPlaceOfSet_31 ⟨Nat.le_of_ble_eq_true rfl, Nat.le_of_ble_eq_true rfl⟩) hS (fun r8 u H locs hw hM hS => ?_)
      obtain ⟨rfl, xr8⟩ := hw
      have hM : Mem D A ad ns I L G H := hM
      have yr8 := bo01 xr8
      refine lv_if_eq (tgt := 41) hx hb dX9_isPlaceOfSet_34 (by decide) (fun c9 => ?_) (fun c9 => ?_)
      · have hc9 := c9
        have q9 := xr8.f hc9
        refine lv_iconst (v := (0)) hx hb dX9_isPlaceOfSet_41 (by decide) ?_
        exact m_zret hx hb hr rfl hlocks hM hS (Nat.le_of_ble_eq_true rfl) (Nat.le_of_ble_eq_true rfl) ⟨rfl, (by first | omega | decide)⟩ dX9_isPlaceOfSet_42
      · have hc9 := c9
        have q9 := xr8.t hc9
        refine lv_iconst (v := (1)) hx hb dX9_isPlaceOfSet_37 (by decide) ?_
        refine lv_goto (tgt := 42) hx hb dX9_isPlaceOfSet_38 (by decide) ?_
        exact m_zret hx hb hr rfl hlocks hM hS (Nat.le_of_ble_eq_true rfl) (Nat.le_of_ble_eq_true rfl) ⟨rfl, (by first | omega | decide)⟩ dX9_isPlaceOfSet_42
theorem dX9_worthOfSet_0 : decode cX9_worthOfSet 0 = .ok (.aload_n 0, 1) := by decide +kernel
theorem dX9_worthOfSet_1 : decode cX9_worthOfSet 1 = .ok (.getfield 26, 3) := by decide +kernel
theorem dX9_worthOfSet_4 : decode cX9_worthOfSet 4 = .ok (.aload_n 0, 1) := by decide +kernel
theorem dX9_worthOfSet_5 : decode cX9_worthOfSet 5 = .ok (.getfield 10, 3) := by decide +kernel
theorem dX9_worthOfSet_8 : decode cX9_worthOfSet 8 = .ok (.iload_n 1, 1) := by decide +kernel
theorem dX9_worthOfSet_9 : decode cX9_worthOfSet 9 = .ok (.invokevirtual 219, 3) := by decide +kernel
theorem dX9_worthOfSet_12 : decode cX9_worthOfSet 12 = .ok (.aload_n 0, 1) := by decide +kernel
theorem dX9_worthOfSet_13 : decode cX9_worthOfSet 13 = .ok (.getfield 26, 3) := by decide +kernel
theorem dX9_worthOfSet_16 : decode cX9_worthOfSet 16 = .ok (.invokevirtual 229, 3) := by decide +kernel
theorem dX9_worthOfSet_19 : decode cX9_worthOfSet 19 = .ok (.istore_n 3, 1) := by decide +kernel
theorem dX9_worthOfSet_20 : decode cX9_worthOfSet 20 = .ok (.iload_n 2, 1) := by decide +kernel
theorem dX9_worthOfSet_21 : decode cX9_worthOfSet 21 = .ok (.aload_n 0, 1) := by decide +kernel
theorem dX9_worthOfSet_22 : decode cX9_worthOfSet 22 = .ok (.getfield 10, 3) := by decide +kernel
theorem dX9_worthOfSet_25 : decode cX9_worthOfSet 25 = .ok (.bipush 8, 2) := by decide +kernel
theorem dX9_worthOfSet_27 : decode cX9_worthOfSet 27 = .ok (.iconst 0, 1) := by decide +kernel
theorem dX9_worthOfSet_28 : decode cX9_worthOfSet 28 = .ok (.invokevirtual 264, 3) := by decide +kernel
theorem dX9_worthOfSet_31 : decode cX9_worthOfSet 31 = .ok (.iand, 1) := by decide +kernel
theorem dX9_worthOfSet_32 : decode cX9_worthOfSet 32 = .ok (.istore 4, 2) := by decide +kernel
theorem dX9_worthOfSet_34 : decode cX9_worthOfSet 34 = .ok (.aload_n 0, 1) := by decide +kernel
theorem dX9_worthOfSet_35 : decode cX9_worthOfSet 35 = .ok (.getfield 10, 3) := by decide +kernel
theorem dX9_worthOfSet_38 : decode cX9_worthOfSet 38 = .ok (.iload 4, 2) := by decide +kernel
theorem dX9_worthOfSet_40 : decode cX9_worthOfSet 40 = .ok (.iconst 1, 1) := by decide +kernel
theorem dX9_worthOfSet_41 : decode cX9_worthOfSet 41 = .ok (.invokevirtual 332, 3) := by decide +kernel
theorem dX9_worthOfSet_44 : decode cX9_worthOfSet 44 = .ok (.aload_n 0, 1) := by decide +kernel
theorem dX9_worthOfSet_45 : decode cX9_worthOfSet 45 = .ok (.getfield 26, 3) := by decide +kernel
theorem dX9_worthOfSet_48 : decode cX9_worthOfSet 48 = .ok (.aload_n 0, 1) := by decide +kernel
theorem dX9_worthOfSet_49 : decode cX9_worthOfSet 49 = .ok (.getfield 10, 3) := by decide +kernel
theorem dX9_worthOfSet_52 : decode cX9_worthOfSet 52 = .ok (.iload_n 1, 1) := by decide +kernel
theorem dX9_worthOfSet_53 : decode cX9_worthOfSet 53 = .ok (.invokevirtual 219, 3) := by decide +kernel
theorem dX9_worthOfSet_56 : decode cX9_worthOfSet 56 = .ok (.aload_n 0, 1) := by decide +kernel
theorem dX9_worthOfSet_57 : decode cX9_worthOfSet 57 = .ok (.getfield 10, 3) := by decide +kernel
theorem dX9_worthOfSet_60 : decode cX9_worthOfSet 60 = .ok (.iload 4, 2) := by decide +kernel
theorem dX9_worthOfSet_62 : decode cX9_worthOfSet 62 = .ok (.iconst 0, 1) := by decide +kernel
theorem dX9_worthOfSet_63 : decode cX9_worthOfSet 63 = .ok (.invokevirtual 332, 3) := by decide +kernel
theorem dX9_worthOfSet_66 : decode cX9_worthOfSet 66 = .ok (.iload_n 3, 1) := by decide +kernel
theorem dX9_worthOfSet_67 : decode cX9_worthOfSet 67 = .ok (.aload_n 0, 1) := by decide +kernel
theorem dX9_worthOfSet_68 : decode cX9_worthOfSet 68 = .ok (.getfield 26, 3) := by decide +kernel
theorem dX9_worthOfSet_71 : decode cX9_worthOfSet 71 = .ok (.invokevirtual 229, 3) := by decide +kernel
theorem dX9_worthOfSet_74 : decode cX9_worthOfSet 74 = .ok (.isub, 1) := by decide +kernel
theorem dX9_worthOfSet_75 : decode cX9_worthOfSet 75 = .ok (.ireturn, 1) := by decide +kernel
theorem ce_X9_worthOfSet : CeV RX9 yX9_worthOfSet cX9_worthOfSet 5 (some .int) 2 := ⟨tb_938, tp_36, tb_1, tb_939, rfl, by decide, by decide, by decide +kernel⟩
set_option maxHeartbeats 4000000 in
set_option maxRecDepth 20000 in
theorem V_X9_worthOfSet (l : Launch) (D : va_G) (A : Nat → Prop) (ad : Nat → Nat) (ns : List Nat) (I : MI) (L : ML) (G : MG) (a0 : Int32) (a1 : Int32) (hG : SGC ns G) (hI : INV I) (hlit : Lit 100 I a0) (ha0 : 0 ≤ a0.toInt ∧ a0.toInt ≤ 23) : Met l yX9_worthOfSet (wd yX9_worthOfSet cX9_worthOfSet 5 (some .int)) ({ frames := 4, cells := 0, slots := 0, locals := 107 }) (va_Pc [.ref (ad (0)), .int a0, .int a1] (PM D A ad ns I L G)) (va_Qi (fun r u => ∃ I2 L2, u = (ad, ns, I2, L2, G) ∧ INV I2 ∧ Kp [(11, 15), (107, 108)] [(10, 2), (10, 3), (10, 4), (10, 5), (10, 6), (10, 7), (10, 11), (10, 12)] I I2) (BM D A) A) 0 0 A := by
  refine m_ofW (by decide) (Nat.le_of_ble_eq_true rfl) ?_
  intro p e s m below meth c ls args hC hE hM hA hS hl
  obtain ⟨hx, hb, hml, hown, hts, hr, hlocks, hin⟩ := hC
  have k0 : (0 : Int32).toInt = 0 := by decide
  have k1 : (1 : Int32).toInt = 1 := by decide
  have k8 : (8 : Int32).toInt = 8 := by decide
  have hK : Kp [(11, 15), (107, 108)] [(10, 2), (10, 3), (10, 4), (10, 5), (10, 6), (10, 7), (10, 11), (10, 12)] I I := Kp.rf
  have hl : lv_has ls 5 [(0, .ref (ad (0))), (1, .int (a0)), (2, .int (a1))] := hl
  refine lv_aload_n hx hb dX9_worthOfSet_0 rfl (lv_at hl 0 rfl) ?_
  refine m_getr (0) 3 (10) hx hb hts hown hE oc9 hM (hG.1 0 (by decide)) rfl (by decide) rfl (hG.2 (0, 3, 10) (by decide)) (by decide) tb_401 dX9_worthOfSet_1 ?_
  refine lv_aload_n hx hb dX9_worthOfSet_4 rfl (lv_at hl 0 rfl) ?_
  refine m_getr (0) 0 (100) hx hb hts hown hE oc9 hM (hG.1 0 (by decide)) rfl (by decide) rfl (hG.2 (0, 0, 100) (by decide)) (by decide) tb_398 dX9_worthOfSet_5 ?_
  refine lv_iload_n hx hb dX9_worthOfSet_8 rfl (lv_at hl 1 rfl) ?_
  refine m_callv (m_runV (10) (As := [.ref (ad (100)), .int (a0)]) (rest := []) hx hb hml hown hts hE hM hS hA ce_X1_shine tb_907 (V_X1_shine_100 l D A ad ns I L G (a0) hG hI (hlit.kp hK rfl) (by first | omega | decide)) rfl rfl ⟨Nat.le_of_ble_eq_true rfl, Nat.le_of_ble_eq_true rfl⟩ (hG.1 10 (by decide)) rfl rfl (by decide) rfl hl.1 rfl (Nat.le_of_ble_eq_true rfl) dX9_worthOfSet_9 ⟨Nat.le_of_ble_eq_true rfl, Nat.le_of_ble_eq_true rfl⟩) hS (fun u H locs hw hM hS => ?_)
  obtain ⟨I1, L2, rfl, hI, hkI1⟩ := hw
  have hM : Mem D A ad ns I1 L2 G H := hM
  have hK := hK.trans hkI1 rfl
  refine lv_aload_n hx hb dX9_worthOfSet_12 rfl (lv_at hl 0 rfl) ?_
  refine m_getr (0) 3 (10) hx hb hts hown hE oc9 hM (hG.1 0 (by decide)) rfl (by decide) rfl (hG.2 (0, 3, 10) (by decide)) (by decide) tb_401 dX9_worthOfSet_13 ?_
  refine m_calli (m_runV (10) (As := []) (rest := []) hx hb hml hown hts hE hM hS hA ce_X1_total tb_913 (V_X1_total l D A ad ns I1 L2 G hG hI) rfl rfl ⟨Nat.le_of_ble_eq_true rfl, Nat.le_of_ble_eq_true rfl⟩ (hG.1 10 (by decide)) rfl rfl (by decide) rfl hl.1 rfl (Nat.le_of_ble_eq_true rfl) dX9_worthOfSet_16 ⟨Nat.le_of_ble_eq_true rfl, Nat.le_of_ble_eq_true rfl⟩) hS (fun r3 u H locs hw hM hS => ?_)
  obtain ⟨rfl, xr3⟩ := hw
  have hM : Mem D A ad ns I1 L2 G H := hM
  refine lv_istore_n (lv' := [(3, .int (r3)), (0, .ref (ad (0))), (1, .int (a0)), (2, .int (a1))]) hx hb dX9_worthOfSet_19 rfl hl (by decide) rfl (fun ls hl => ?_)
  refine lv_iload_n hx hb dX9_worthOfSet_20 rfl (lv_at hl 3 rfl) ?_
  refine lv_aload_n hx hb dX9_worthOfSet_21 rfl (lv_at hl 1 rfl) ?_
  refine m_getr (0) 0 (100) hx hb hts hown hE oc9 hM (hG.1 0 (by decide)) rfl (by decide) rfl (hG.2 (0, 0, 100) (by decide)) (by decide) tb_398 dX9_worthOfSet_22 ?_
  refine lv_bipush (v := (8)) hx hb dX9_worthOfSet_25 (by decide) ?_
  refine lv_iconst (v := (0)) hx hb dX9_worthOfSet_27 (by decide) ?_
  refine m_calli (m_runV (100) (As := [.int (8), .int (0)]) (rest := [.int (a1)]) hx hb hml hown hts hE hM hS hA ce_X8_mirrorsWith tb_940 (V_X8_mirrorsWith_100 l D A ad ns I1 L2 G (8) (0) hG hI (by first | omega | decide)) rfl rfl ⟨Nat.le_of_ble_eq_true rfl, Nat.le_of_ble_eq_true rfl⟩ (hG.1 100 (by decide)) rfl rfl (by decide) rfl hl.1 rfl (Nat.le_of_ble_eq_true rfl) dX9_worthOfSet_28 ⟨Nat.le_of_ble_eq_true rfl, Nat.le_of_ble_eq_true rfl⟩) hS (fun r4 u H locs hw hM hS => ?_)
  obtain ⟨rfl, xr4⟩ := hw
  have hM : Mem D A ad ns I1 L2 G H := hM
  refine lv_iand hx hb dX9_worthOfSet_31 ?_
  refine lv_topi (fun v5 ev5 => ?_)
  refine lv_istore (lv' := [(4, .int (v5)), (3, .int (r3)), (0, .ref (ad (0))), (1, .int (a0)), (2, .int (a1))]) hx hb dX9_worthOfSet_32 hl (by decide) rfl (fun ls hl => ?_)
  refine lv_aload_n hx hb dX9_worthOfSet_34 rfl (lv_at hl 2 rfl) ?_
  refine m_getr (0) 0 (100) hx hb hts hown hE oc9 hM (hG.1 0 (by decide)) rfl (by decide) rfl (hG.2 (0, 0, 100) (by decide)) (by decide) tb_398 dX9_worthOfSet_35 ?_
  refine lv_iload hx hb dX9_worthOfSet_38 (lv_at hl 0 rfl) ?_
  refine lv_iconst (v := (1)) hx hb dX9_worthOfSet_40 (by decide) ?_
  refine m_callv (m_runV (100) (As := [.int (v5), .int (1)]) (rest := []) hx hb hml hown hts hE hM hS hA ce_X8_setBroken tb_944 (V_X8_setBroken_100 l D A ad ns I1 L2 G (v5) (1) hG hI) rfl rfl ⟨Nat.le_of_ble_eq_true rfl, Nat.le_of_ble_eq_true rfl⟩ (hG.1 100 (by decide)) rfl rfl (by decide) rfl hl.1 rfl (Nat.le_of_ble_eq_true rfl) dX9_worthOfSet_41 ⟨Nat.le_of_ble_eq_true rfl, Nat.le_of_ble_eq_true rfl⟩) hS (fun u H locs hw hM hS => ?_)
  obtain ⟨I6, L7, rfl, hI, hkI6⟩ := hw
  have hM : Mem D A ad ns I6 L7 G H := hM
  have hK := hK.trans hkI6 rfl
  refine lv_aload_n hx hb dX9_worthOfSet_44 rfl (lv_at hl 2 rfl) ?_
  refine m_getr (0) 3 (10) hx hb hts hown hE oc9 hM (hG.1 0 (by decide)) rfl (by decide) rfl (hG.2 (0, 3, 10) (by decide)) (by decide) tb_401 dX9_worthOfSet_45 ?_
  refine lv_aload_n hx hb dX9_worthOfSet_48 rfl (lv_at hl 2 rfl) ?_
  refine m_getr (0) 0 (100) hx hb hts hown hE oc9 hM (hG.1 0 (by decide)) rfl (by decide) rfl (hG.2 (0, 0, 100) (by decide)) (by decide) tb_398 dX9_worthOfSet_49 ?_
  refine lv_iload_n hx hb dX9_worthOfSet_52 rfl (lv_at hl 3 rfl) ?_
  refine m_callv (m_runV (10) (As := [.ref (ad (100)), .int (a0)]) (rest := []) hx hb hml hown hts hE hM hS hA ce_X1_shine tb_907 (V_X1_shine_100 l D A ad ns I6 L7 G (a0) hG hI (hlit.kp hK rfl) (by first | omega | decide)) rfl rfl ⟨Nat.le_of_ble_eq_true rfl, Nat.le_of_ble_eq_true rfl⟩ (hG.1 10 (by decide)) rfl rfl (by decide) rfl hl.1 rfl (Nat.le_of_ble_eq_true rfl) dX9_worthOfSet_53 ⟨Nat.le_of_ble_eq_true rfl, Nat.le_of_ble_eq_true rfl⟩) hS (fun u H locs hw hM hS => ?_)
  obtain ⟨I8, L9, rfl, hI, hkI8⟩ := hw
  have hM : Mem D A ad ns I8 L9 G H := hM
  have hK := hK.trans hkI8 rfl
  refine lv_aload_n hx hb dX9_worthOfSet_56 rfl (lv_at hl 2 rfl) ?_
  refine m_getr (0) 0 (100) hx hb hts hown hE oc9 hM (hG.1 0 (by decide)) rfl (by decide) rfl (hG.2 (0, 0, 100) (by decide)) (by decide) tb_398 dX9_worthOfSet_57 ?_
  refine lv_iload hx hb dX9_worthOfSet_60 (lv_at hl 0 rfl) ?_
  refine lv_iconst (v := (0)) hx hb dX9_worthOfSet_62 (by decide) ?_
  refine m_callv (m_runV (100) (As := [.int (v5), .int (0)]) (rest := []) hx hb hml hown hts hE hM hS hA ce_X8_setBroken tb_944 (V_X8_setBroken_100 l D A ad ns I8 L9 G (v5) (0) hG hI) rfl rfl ⟨Nat.le_of_ble_eq_true rfl, Nat.le_of_ble_eq_true rfl⟩ (hG.1 100 (by decide)) rfl rfl (by decide) rfl hl.1 rfl (Nat.le_of_ble_eq_true rfl) dX9_worthOfSet_63 ⟨Nat.le_of_ble_eq_true rfl, Nat.le_of_ble_eq_true rfl⟩) hS (fun u H locs hw hM hS => ?_)
  obtain ⟨I10, L11, rfl, hI, hkI10⟩ := hw
  have hM : Mem D A ad ns I10 L11 G H := hM
  have hK := hK.trans hkI10 rfl
  refine lv_iload_n hx hb dX9_worthOfSet_66 rfl (lv_at hl 1 rfl) ?_
  refine lv_aload_n hx hb dX9_worthOfSet_67 rfl (lv_at hl 2 rfl) ?_
  refine m_getr (0) 3 (10) hx hb hts hown hE oc9 hM (hG.1 0 (by decide)) rfl (by decide) rfl (hG.2 (0, 3, 10) (by decide)) (by decide) tb_401 dX9_worthOfSet_68 ?_
  refine m_calli (m_runV (10) (As := []) (rest := [.int (r3)]) hx hb hml hown hts hE hM hS hA ce_X1_total tb_913 (V_X1_total l D A ad ns I10 L11 G hG hI) rfl rfl ⟨Nat.le_of_ble_eq_true rfl, Nat.le_of_ble_eq_true rfl⟩ (hG.1 10 (by decide)) rfl rfl (by decide) rfl hl.1 rfl (Nat.le_of_ble_eq_true rfl) dX9_worthOfSet_71 ⟨Nat.le_of_ble_eq_true rfl, Nat.le_of_ble_eq_true rfl⟩) hS (fun r12 u H locs hw hM hS => ?_)
  obtain ⟨rfl, xr12⟩ := hw
  have hM : Mem D A ad ns I10 L11 G H := hM
  refine lv_isub hx hb dX9_worthOfSet_74 ?_
  refine lv_topi (fun v13 ev13 => ?_)
  exact m_iret hx hb hr hlocks hM hS (Nat.le_of_ble_eq_true rfl) (Nat.le_of_ble_eq_true rfl) ⟨_, _, rfl, hI, hK⟩ dX9_worthOfSet_75
theorem dX9_getWithDust_0 : decode cX9_getWithDust 0 = .ok (.aload_n 0, 1) := by decide +kernel
theorem dX9_getWithDust_1 : decode cX9_getWithDust 1 = .ok (.getfield 10, 3) := by decide +kernel
theorem dX9_getWithDust_4 : decode cX9_getWithDust 4 = .ok (.iload_n 2, 1) := by decide +kernel
theorem dX9_getWithDust_5 : decode cX9_getWithDust 5 = .ok (.bipush 7, 2) := by decide +kernel
theorem dX9_getWithDust_7 : decode cX9_getWithDust 7 = .ok (.iload 4, 2) := by decide +kernel
theorem dX9_getWithDust_9 : decode cX9_getWithDust 9 = .ok (.invokevirtual 140, 3) := by decide +kernel
theorem dX9_getWithDust_12 : decode cX9_getWithDust 12 = .ok (.aload_n 0, 1) := by decide +kernel
theorem dX9_getWithDust_13 : decode cX9_getWithDust 13 = .ok (.getfield 26, 3) := by decide +kernel
theorem dX9_getWithDust_16 : decode cX9_getWithDust 16 = .ok (.aload_n 0, 1) := by decide +kernel
theorem dX9_getWithDust_17 : decode cX9_getWithDust 17 = .ok (.getfield 10, 3) := by decide +kernel
theorem dX9_getWithDust_20 : decode cX9_getWithDust 20 = .ok (.iload_n 1, 1) := by decide +kernel
theorem dX9_getWithDust_21 : decode cX9_getWithDust 21 = .ok (.invokevirtual 219, 3) := by decide +kernel
theorem dX9_getWithDust_24 : decode cX9_getWithDust 24 = .ok (.aload_n 0, 1) := by decide +kernel
theorem dX9_getWithDust_25 : decode cX9_getWithDust 25 = .ok (.getfield 26, 3) := by decide +kernel
theorem dX9_getWithDust_28 : decode cX9_getWithDust 28 = .ok (.getfield 223, 3) := by decide +kernel
theorem dX9_getWithDust_31 : decode cX9_getWithDust 31 = .ok (.iload_n 3, 1) := by decide +kernel
theorem dX9_getWithDust_32 : decode cX9_getWithDust 32 = .ok (.iaload, 1) := by decide +kernel
theorem dX9_getWithDust_33 : decode cX9_getWithDust 33 = .ok (.ireturn, 1) := by decide +kernel
theorem ce_X9_getWithDust : CeV RX9 yX9_getWithDust cX9_getWithDust 5 (some .int) 4 := ⟨tb_1132, tp_52, tb_1, tb_1133, rfl, by decide, by decide, by decide +kernel⟩
set_option maxHeartbeats 4000000 in
set_option maxRecDepth 20000 in
theorem V_X9_getWithDust (l : Launch) (D : va_G) (A : Nat → Prop) (ad : Nat → Nat) (ns : List Nat) (I : MI) (L : ML) (G : MG) (a0 : Int32) (a1 : Int32) (a2 : Int32) (a3 : Int32) (hG : SGC ns G) (hI : INV I) (hlit : Lit 100 I a0) (ha0 : 0 ≤ a0.toInt ∧ a0.toInt ≤ 23) (ha1 : 0 ≤ a1.toInt ∧ a1.toInt ≤ 23) (ha2 : 0 ≤ a2.toInt ∧ a2.toInt ≤ 7) : Met l yX9_getWithDust (wd yX9_getWithDust cX9_getWithDust 5 (some .int)) ({ frames := 4, cells := 0, slots := 0, locals := 107 }) (va_Pc [.ref (ad (0)), .int a0, .int a1, .int a2, .int a3] (PM D A ad ns I L G)) (va_Qi (fun r u => ∃ I2 L2, u = (ad, ns, I2, L2, G) ∧ INV I2 ∧ Kp [(11, 15), (107, 108)] [(10, 2), (10, 3), (10, 4), (10, 5), (10, 6), (10, 7), (10, 11), (10, 12)] I I2) (BM D A) A) 0 0 A := by
  refine m_ofW (by decide) (Nat.le_of_ble_eq_true rfl) ?_
  intro p e s m below meth c ls args hC hE hM hA hS hl
  obtain ⟨hx, hb, hml, hown, hts, hr, hlocks, hin⟩ := hC
  have k0 : (0 : Int32).toInt = 0 := by decide
  have k7 : (7 : Int32).toInt = 7 := by decide
  have hK : Kp [(11, 15), (107, 108)] [(10, 2), (10, 3), (10, 4), (10, 5), (10, 6), (10, 7), (10, 11), (10, 12)] I I := Kp.rf
  have hl : lv_has ls 5 [(0, .ref (ad (0))), (1, .int (a0)), (2, .int (a1)), (3, .int (a2)), (4, .int (a3))] := hl
  refine lv_aload_n hx hb dX9_getWithDust_0 rfl (lv_at hl 0 rfl) ?_
  refine m_getr (0) 0 (100) hx hb hts hown hE oc9 hM (hG.1 0 (by decide)) rfl (by decide) rfl (hG.2 (0, 0, 100) (by decide)) (by decide) tb_398 dX9_getWithDust_1 ?_
  refine lv_iload_n hx hb dX9_getWithDust_4 rfl (lv_at hl 2 rfl) ?_
  refine lv_bipush (v := (7)) hx hb dX9_getWithDust_5 (by decide) ?_
  refine lv_iload hx hb dX9_getWithDust_7 (lv_at hl 4 rfl) ?_
  refine m_callv (m_runV (100) (As := [.int (a1), .int (7), .int (a3)]) (rest := []) hx hb hml hown hts hE hM hS hA ce_X8_setMirror tb_503 (V_X8_setMirror_100 l D A ad ns I L G (a1) (7) (a3) hG hI (by first | omega | decide) (by first | omega | decide)) rfl rfl ⟨Nat.le_of_ble_eq_true rfl, Nat.le_of_ble_eq_true rfl⟩ (hG.1 100 (by decide)) rfl rfl (by decide) rfl hl.1 rfl (Nat.le_of_ble_eq_true rfl) dX9_getWithDust_9 ⟨Nat.le_of_ble_eq_true rfl, Nat.le_of_ble_eq_true rfl⟩) hS (fun u H locs hw hM hS => ?_)
  obtain ⟨I1, L2, rfl, hI, hkI1⟩ := hw
  have hM : Mem D A ad ns I1 L2 G H := hM
  have hK := hK.trans hkI1 rfl
  refine lv_aload_n hx hb dX9_getWithDust_12 rfl (lv_at hl 0 rfl) ?_
  refine m_getr (0) 3 (10) hx hb hts hown hE oc9 hM (hG.1 0 (by decide)) rfl (by decide) rfl (hG.2 (0, 3, 10) (by decide)) (by decide) tb_401 dX9_getWithDust_13 ?_
  refine lv_aload_n hx hb dX9_getWithDust_16 rfl (lv_at hl 0 rfl) ?_
  refine m_getr (0) 0 (100) hx hb hts hown hE oc9 hM (hG.1 0 (by decide)) rfl (by decide) rfl (hG.2 (0, 0, 100) (by decide)) (by decide) tb_398 dX9_getWithDust_17 ?_
  refine lv_iload_n hx hb dX9_getWithDust_20 rfl (lv_at hl 1 rfl) ?_
  refine m_callv (m_runV (10) (As := [.ref (ad (100)), .int (a0)]) (rest := []) hx hb hml hown hts hE hM hS hA ce_X1_shine tb_907 (V_X1_shine_100 l D A ad ns I1 L2 G (a0) hG hI (hlit.kp hK rfl) (by first | omega | decide)) rfl rfl ⟨Nat.le_of_ble_eq_true rfl, Nat.le_of_ble_eq_true rfl⟩ (hG.1 10 (by decide)) rfl rfl (by decide) rfl hl.1 rfl (Nat.le_of_ble_eq_true rfl) dX9_getWithDust_21 ⟨Nat.le_of_ble_eq_true rfl, Nat.le_of_ble_eq_true rfl⟩) hS (fun u H locs hw hM hS => ?_)
  obtain ⟨I3, L4, rfl, hI, hkI3⟩ := hw
  have hM : Mem D A ad ns I3 L4 G H := hM
  have hK := hK.trans hkI3 rfl
  refine lv_aload_n hx hb dX9_getWithDust_24 rfl (lv_at hl 0 rfl) ?_
  refine m_getr (0) 3 (10) hx hb hts hown hE oc9 hM (hG.1 0 (by decide)) rfl (by decide) rfl (hG.2 (0, 3, 10) (by decide)) (by decide) tb_401 dX9_getWithDust_25 ?_
  refine m_getr (10) 0 (11) hx hb hts hown hE oc1 hM (hG.1 10 (by decide)) rfl (by decide) rfl (hG.2 (10, 0, 11) (by decide)) (by decide) tb_133 dX9_getWithDust_28 ?_
  refine lv_iload_n hx hb dX9_getWithDust_31 rfl (lv_at hl 3 rfl) ?_
  refine m_iald (11) hx hb hE hM (hG.1 11 (by decide)) rfl (vp_in_iff.mpr (by omega)) dX9_getWithDust_32 ?_
  exact m_iret hx hb hr hlocks hM hS (Nat.le_of_ble_eq_true rfl) (Nat.le_of_ble_eq_true rfl) ⟨_, _, rfl, hI, hK⟩ dX9_getWithDust_33
theorem dX9_leastDustOneByOne_0 : decode cX9_leastDustOneByOne 0 = .ok (.iconst 1, 1) := by decide +kernel
theorem dX9_leastDustOneByOne_1 : decode cX9_leastDustOneByOne 1 = .ok (.istore 5, 2) := by decide +kernel
theorem dX9_leastDustOneByOne_3 : decode cX9_leastDustOneByOne 3 = .ok (.iload 5, 2) := by decide +kernel
theorem dX9_leastDustOneByOne_5 : decode cX9_leastDustOneByOne 5 = .ok (.sipush 1000, 3) := by decide +kernel
theorem dX9_leastDustOneByOne_8 : decode cX9_leastDustOneByOne 8 = .ok (.if_icmp .gt 26, 3) := by decide +kernel
theorem dX9_leastDustOneByOne_11 : decode cX9_leastDustOneByOne 11 = .ok (.aload_n 0, 1) := by decide +kernel
theorem dX9_leastDustOneByOne_12 : decode cX9_leastDustOneByOne 12 = .ok (.iload_n 1, 1) := by decide +kernel
theorem dX9_leastDustOneByOne_13 : decode cX9_leastDustOneByOne 13 = .ok (.iload_n 2, 1) := by decide +kernel
theorem dX9_leastDustOneByOne_14 : decode cX9_leastDustOneByOne 14 = .ok (.iload_n 3, 1) := by decide +kernel
theorem dX9_leastDustOneByOne_15 : decode cX9_leastDustOneByOne 15 = .ok (.iload 5, 2) := by decide +kernel
theorem dX9_leastDustOneByOne_17 : decode cX9_leastDustOneByOne 17 = .ok (.invokevirtual 335, 3) := by decide +kernel
theorem dX9_leastDustOneByOne_20 : decode cX9_leastDustOneByOne 20 = .ok (.iload 4, 2) := by decide +kernel
theorem dX9_leastDustOneByOne_22 : decode cX9_leastDustOneByOne 22 = .ok (.if_icmp .gt 6, 3) := by decide +kernel
theorem dX9_leastDustOneByOne_25 : decode cX9_leastDustOneByOne 25 = .ok (.iload 5, 2) := by decide +kernel
theorem dX9_leastDustOneByOne_27 : decode cX9_leastDustOneByOne 27 = .ok (.ireturn, 1) := by decide +kernel
theorem dX9_leastDustOneByOne_28 : decode cX9_leastDustOneByOne 28 = .ok (.iinc 5 1, 3) := by decide +kernel
theorem dX9_leastDustOneByOne_31 : decode cX9_leastDustOneByOne 31 = .ok (.goto (-28), 3) := by decide +kernel
theorem dX9_leastDustOneByOne_34 : decode cX9_leastDustOneByOne 34 = .ok (.bipush (-2), 2) := by decide +kernel
theorem dX9_leastDustOneByOne_36 : decode cX9_leastDustOneByOne 36 = .ok (.ireturn, 1) := by decide +kernel
theorem ce_X9_leastDustOneByOne : CeV RX9 yX9_leastDustOneByOne cX9_leastDustOneByOne 6 (some .int) 4 := ⟨tb_1137, tp_53, tb_1, tb_1138, rfl, by decide, by decide, by decide +kernel⟩
set_option maxHeartbeats 4000000 in
set_option maxRecDepth 20000 in
theorem V_X9_leastDustOneByOne (l : Launch) (D : va_G) (A : Nat → Prop) (ad : Nat → Nat) (ns : List Nat) (I : MI) (L : ML) (G : MG) (a0 : Int32) (a1 : Int32) (a2 : Int32) (a3 : Int32) (hG : SGC ns G) (hI : INV I) (hlit : Lit 100 I a0) (ha0 : 0 ≤ a0.toInt ∧ a0.toInt ≤ 23) (ha1 : 0 ≤ a1.toInt ∧ a1.toInt ≤ 23) (ha2 : 0 ≤ a2.toInt ∧ a2.toInt ≤ 7) : Met l yX9_leastDustOneByOne (wd yX9_leastDustOneByOne cX9_leastDustOneByOne 6 (some .int)) ({ frames := 5, cells := 0, slots := 0, locals := 131 }) (va_Pc [.ref (ad (0)), .int a0, .int a1, .int a2, .int a3] (PM D A ad ns I L G)) (va_Qi (fun r u => ∃ I2 L2, u = (ad, ns, I2, L2, G) ∧ INV I2 ∧ Kp [(11, 15), (107, 108)] [(10, 2), (10, 3), (10, 4), (10, 5), (10, 6), (10, 7), (10, 11), (10, 12)] I I2) (BM D A) A) 0 0 A := by
  refine m_ofW (by decide) (Nat.le_of_ble_eq_true rfl) ?_
  intro p e s m below meth c ls args hC hE hM hA hS hl
  obtain ⟨hx, hb, hml, hown, hts, hr, hlocks, hin⟩ := hC
  have km2 : (-2 : Int32).toInt = -2 := by decide
  have k0 : (0 : Int32).toInt = 0 := by decide
  have k1 : (1 : Int32).toInt = 1 := by decide
  have k1000 : (1000 : Int32).toInt = 1000 := by decide
  have hK : Kp [(11, 15), (107, 108)] [(10, 2), (10, 3), (10, 4), (10, 5), (10, 6), (10, 7), (10, 11), (10, 12)] I I := Kp.rf
  have hl : lv_has ls 6 [(0, .ref (ad (0))), (1, .int (a0)), (2, .int (a1)), (3, .int (a2)), (4, .int (a3))] := hl
  refine lv_iconst (v := (1)) hx hb dX9_leastDustOneByOne_0 (by decide) ?_
  refine lv_istore (lv' := [(5, .int (1)), (0, .ref (ad (0))), (1, .int (a0)), (2, .int (a1)), (3, .int (a2)), (4, .int (a3))]) hx hb dX9_leastDustOneByOne_1 hl (by decide) rfl (fun ls hl => ?_)
  have loop3 : ∀ (n : Nat) (x5_3 : Int32) (Ia3 : MI) (La3 : ML) (H : Heap) (locs : List Loc) (ls : Array Slot), INV Ia3 → Kp [(11, 15), (107, 108)] [(10, 2), (10, 3), (10, 4), (10, 5), (10, 6), (10, 7), (10, 11), (10, 12)] I Ia3 → (1 ≤ x5_3.toInt ∧ x5_3.toInt ≤ 1001) → (1001 - x5_3.toInt).toNat < n → Mem D A ad ns Ia3 La3 G H → va_S A s.heap H locs → lv_has ls 6 [(5, .int (x5_3)), (0, .ref (ad (0))), (1, .int (a0)), (2, .int (a1)), (3, .int (a2)), (4, .int (a3))] → W p l e ({ frames := 5, cells := 0, slots := 0, locals := 131 } : Room) s m args below meth c H locs 0 0 (MQ below (va_Qi (fun r u => ∃ I2 L2, u = (ad, ns, I2, L2, G) ∧ INV I2 ∧ Kp [(11, 15), (107, 108)] [(10, 2), (10, 3), (10, 4), (10, 5), (10, 6), (10, 7), (10, 11), (10, 12)] I I2) (BM D A) A) args s 0 0 A) (F0 m 3 ls []) := by
    intro n
    induction n with
    | zero =>
      intro x5_3 Ia3 La3 H locs ls hI hK hr5_3 hmu
      exact absurd hmu (Nat.not_lt_zero _)
    | succ n ih3 =>
      intro x5_3 Ia3 La3 H locs ls hI hK hr5_3 hmu3 hM hS hl
      refine lv_iload hx hb dX9_leastDustOneByOne_3 (lv_at hl 0 rfl) ?_
      refine lv_sipush (v := (1000)) hx hb dX9_leastDustOneByOne_5 (by decide) ?_
      refine lv_icmp_gt (tgt := 34) hx hb dX9_leastDustOneByOne_8 (by decide) (fun c1 => ?_) (fun c1 => ?_)
      · have hc1 := c1
        have q1 := q_lt hc1
        refine lv_bipush (v := (-2)) hx hb dX9_leastDustOneByOne_34 (by decide) ?_
        exact m_iret hx hb hr hlocks hM hS (Nat.le_of_ble_eq_true rfl) (Nat.le_of_ble_eq_true rfl) ⟨_, _, rfl, hI, hK⟩ dX9_leastDustOneByOne_36
      · have hc1 := c1
        have q1 := q_nlt hc1
        refine lv_aload_n hx hb dX9_leastDustOneByOne_11 rfl (lv_at hl 1 rfl) ?_
        refine lv_iload_n hx hb dX9_leastDustOneByOne_12 rfl (lv_at hl 2 rfl) ?_
        refine lv_iload_n hx hb dX9_leastDustOneByOne_13 rfl (lv_at hl 3 rfl) ?_
        refine lv_iload_n hx hb dX9_leastDustOneByOne_14 rfl (lv_at hl 4 rfl) ?_
        refine lv_iload hx hb dX9_leastDustOneByOne_15 (lv_at hl 0 rfl) ?_
        refine m_calli (m_runV (0) (As := [.int (a0), .int (a1), .int (a2), .int (x5_3)]) (rest := []) hx hb hml hown hts hE hM hS hA ce_X9_getWithDust tb_1130 (V_X9_getWithDust l D A ad ns Ia3 La3 G (a0) (a1) (a2) (x5_3) hG hI (hlit.kp hK rfl) (by first | omega | decide) (by first | omega | decide) (by first | omega | decide)) rfl rfl ⟨Nat.le_of_ble_eq_true rfl, Nat.le_of_ble_eq_true rfl⟩ (hG.1 0 (by decide)) rfl rfl (by decide) rfl hl.1 rfl (Nat.le_of_ble_eq_true rfl) dX9_leastDustOneByOne_17 ⟨Nat.le_of_ble_eq_true rfl, Nat.le_of_ble_eq_true rfl⟩) hS (fun r2 u H locs hw hM hS => ?_)
        obtain ⟨I3, L4, rfl, hI, hkI3⟩ := hw
        have hM : Mem D A ad ns I3 L4 G H := hM
        have hK := hK.trans hkI3 rfl
        refine lv_iload hx hb dX9_leastDustOneByOne_20 (lv_at hl 5 rfl) ?_
        refine lv_icmp_gt (tgt := 28) hx hb dX9_leastDustOneByOne_22 (by decide) (fun c5 => ?_) (fun c5 => ?_)
        · have hc5 := c5
          have q5 := q_lt hc5
          obtain ⟨v6, ev6⟩ : ∃ z : Int32, z = x5_3 + Int32.ofInt (1) := ⟨_, rfl⟩
          have tv6 := a_inc ev6 (by decide) (by omega) (by omega)
          refine lv_iinc (v := v6) (lv' := [(5, .int (v6)), (0, .ref (ad (0))), (1, .int (a0)), (2, .int (a1)), (3, .int (a2)), (4, .int (a3))]) hx hb dX9_leastDustOneByOne_28 hl (k := 0) rfl ev6.symm (by decide) rfl (fun ls hl => ?_)
          refine lv_goto (tgt := 3) hx hb dX9_leastDustOneByOne_31 (by decide) ?_
          exact ih3 (v6) I3 L4 _ _ ls hI hK (by first | omega | decide) (by omega) hM hS (lv_sub hl [0, 1, 2, 3, 4, 5] rfl)
        · have hc5 := c5
          have q5 := q_nlt hc5
          refine lv_iload hx hb dX9_leastDustOneByOne_25 (lv_at hl 0 rfl) ?_
          exact m_iret hx hb hr hlocks hM hS (Nat.le_of_ble_eq_true rfl) (Nat.le_of_ble_eq_true rfl) ⟨_, _, rfl, hI, hK⟩ dX9_leastDustOneByOne_27
  exact loop3 (_ + 1) (1) I L _ _ ls hI hK (by first | omega | decide) (Nat.lt_succ_self _) hM hS (lv_sub hl [0, 1, 2, 3, 4, 5] rfl)
theorem dX9_leastDustByHalves_0 : decode cX9_leastDustByHalves 0 = .ok (.aload_n 0, 1) := by decide +kernel
theorem dX9_leastDustByHalves_1 : decode cX9_leastDustByHalves 1 = .ok (.iload_n 1, 1) := by decide +kernel
theorem dX9_leastDustByHalves_2 : decode cX9_leastDustByHalves 2 = .ok (.iload_n 2, 1) := by decide +kernel
theorem dX9_leastDustByHalves_3 : decode cX9_leastDustByHalves 3 = .ok (.iload_n 3, 1) := by decide +kernel
theorem dX9_leastDustByHalves_4 : decode cX9_leastDustByHalves 4 = .ok (.sipush 1000, 3) := by decide +kernel
theorem dX9_leastDustByHalves_7 : decode cX9_leastDustByHalves 7 = .ok (.invokevirtual 335, 3) := by decide +kernel
theorem dX9_leastDustByHalves_10 : decode cX9_leastDustByHalves 10 = .ok (.iload 4, 2) := by decide +kernel
theorem dX9_leastDustByHalves_12 : decode cX9_leastDustByHalves 12 = .ok (.if_icmp .le 6, 3) := by decide +kernel
theorem dX9_leastDustByHalves_15 : decode cX9_leastDustByHalves 15 = .ok (.bipush (-2), 2) := by decide +kernel
theorem dX9_leastDustByHalves_17 : decode cX9_leastDustByHalves 17 = .ok (.ireturn, 1) := by decide +kernel
theorem dX9_leastDustByHalves_18 : decode cX9_leastDustByHalves 18 = .ok (.iconst 0, 1) := by decide +kernel
theorem dX9_leastDustByHalves_19 : decode cX9_leastDustByHalves 19 = .ok (.istore 5, 2) := by decide +kernel
theorem dX9_leastDustByHalves_21 : decode cX9_leastDustByHalves 21 = .ok (.sipush 1000, 3) := by decide +kernel
theorem dX9_leastDustByHalves_24 : decode cX9_leastDustByHalves 24 = .ok (.istore 6, 2) := by decide +kernel
theorem dX9_leastDustByHalves_26 : decode cX9_leastDustByHalves 26 = .ok (.iconst 0, 1) := by decide +kernel
theorem dX9_leastDustByHalves_27 : decode cX9_leastDustByHalves 27 = .ok (.istore 7, 2) := by decide +kernel
theorem dX9_leastDustByHalves_29 : decode cX9_leastDustByHalves 29 = .ok (.iload 6, 2) := by decide +kernel
theorem dX9_leastDustByHalves_31 : decode cX9_leastDustByHalves 31 = .ok (.iload 5, 2) := by decide +kernel
theorem dX9_leastDustByHalves_33 : decode cX9_leastDustByHalves 33 = .ok (.isub, 1) := by decide +kernel
theorem dX9_leastDustByHalves_34 : decode cX9_leastDustByHalves 34 = .ok (.iconst 1, 1) := by decide +kernel
theorem dX9_leastDustByHalves_35 : decode cX9_leastDustByHalves 35 = .ok (.if_icmp .le 51, 3) := by decide +kernel
theorem dX9_leastDustByHalves_38 : decode cX9_leastDustByHalves 38 = .ok (.iload 7, 2) := by decide +kernel
theorem dX9_leastDustByHalves_40 : decode cX9_leastDustByHalves 40 = .ok (.sipush 1000, 3) := by decide +kernel
theorem dX9_leastDustByHalves_43 : decode cX9_leastDustByHalves 43 = .ok (.if_icmp .ge 43, 3) := by decide +kernel
theorem dX9_leastDustByHalves_46 : decode cX9_leastDustByHalves 46 = .ok (.iload 5, 2) := by decide +kernel
theorem dX9_leastDustByHalves_48 : decode cX9_leastDustByHalves 48 = .ok (.iload 6, 2) := by decide +kernel
theorem dX9_leastDustByHalves_50 : decode cX9_leastDustByHalves 50 = .ok (.iadd, 1) := by decide +kernel
theorem dX9_leastDustByHalves_51 : decode cX9_leastDustByHalves 51 = .ok (.iconst 2, 1) := by decide +kernel
theorem dX9_leastDustByHalves_52 : decode cX9_leastDustByHalves 52 = .ok (.idiv, 1) := by decide +kernel
theorem dX9_leastDustByHalves_53 : decode cX9_leastDustByHalves 53 = .ok (.istore 8, 2) := by decide +kernel
theorem dX9_leastDustByHalves_55 : decode cX9_leastDustByHalves 55 = .ok (.aload_n 0, 1) := by decide +kernel
theorem dX9_leastDustByHalves_56 : decode cX9_leastDustByHalves 56 = .ok (.iload_n 1, 1) := by decide +kernel
theorem dX9_leastDustByHalves_57 : decode cX9_leastDustByHalves 57 = .ok (.iload_n 2, 1) := by decide +kernel
theorem dX9_leastDustByHalves_58 : decode cX9_leastDustByHalves 58 = .ok (.iload_n 3, 1) := by decide +kernel
theorem dX9_leastDustByHalves_59 : decode cX9_leastDustByHalves 59 = .ok (.iload 8, 2) := by decide +kernel
theorem dX9_leastDustByHalves_61 : decode cX9_leastDustByHalves 61 = .ok (.invokevirtual 335, 3) := by decide +kernel
theorem dX9_leastDustByHalves_64 : decode cX9_leastDustByHalves 64 = .ok (.iload 4, 2) := by decide +kernel
theorem dX9_leastDustByHalves_66 : decode cX9_leastDustByHalves 66 = .ok (.if_icmp .gt 10, 3) := by decide +kernel
theorem dX9_leastDustByHalves_69 : decode cX9_leastDustByHalves 69 = .ok (.iload 8, 2) := by decide +kernel
theorem dX9_leastDustByHalves_71 : decode cX9_leastDustByHalves 71 = .ok (.istore 6, 2) := by decide +kernel
theorem dX9_leastDustByHalves_73 : decode cX9_leastDustByHalves 73 = .ok (.goto 7, 3) := by decide +kernel
theorem dX9_leastDustByHalves_76 : decode cX9_leastDustByHalves 76 = .ok (.iload 8, 2) := by decide +kernel
theorem dX9_leastDustByHalves_78 : decode cX9_leastDustByHalves 78 = .ok (.istore 5, 2) := by decide +kernel
theorem dX9_leastDustByHalves_80 : decode cX9_leastDustByHalves 80 = .ok (.iinc 7 1, 3) := by decide +kernel
theorem dX9_leastDustByHalves_83 : decode cX9_leastDustByHalves 83 = .ok (.goto (-54), 3) := by decide +kernel
theorem dX9_leastDustByHalves_86 : decode cX9_leastDustByHalves 86 = .ok (.iload 6, 2) := by decide +kernel
theorem dX9_leastDustByHalves_88 : decode cX9_leastDustByHalves 88 = .ok (.ireturn, 1) := by decide +kernel
theorem ce_X9_leastDustByHalves : CeV RX9 yX9_leastDustByHalves cX9_leastDustByHalves 9 (some .int) 4 := ⟨tb_1141, tp_54, tb_1, tb_1142, rfl, by decide, by decide, by decide +kernel⟩
set_option maxHeartbeats 4000000 in
set_option maxRecDepth 20000 in
theorem V_X9_leastDustByHalves (l : Launch) (D : va_G) (A : Nat → Prop) (ad : Nat → Nat) (ns : List Nat) (I : MI) (L : ML) (G : MG) (a0 : Int32) (a1 : Int32) (a2 : Int32) (a3 : Int32) (hG : SGC ns G) (hI : INV I) (hlit : Lit 100 I a0) (ha0 : 0 ≤ a0.toInt ∧ a0.toInt ≤ 23) (ha1 : 0 ≤ a1.toInt ∧ a1.toInt ≤ 23) (ha2 : 0 ≤ a2.toInt ∧ a2.toInt ≤ 7) : Met l yX9_leastDustByHalves (wd yX9_leastDustByHalves cX9_leastDustByHalves 9 (some .int)) ({ frames := 5, cells := 0, slots := 0, locals := 131 }) (va_Pc [.ref (ad (0)), .int a0, .int a1, .int a2, .int a3] (PM D A ad ns I L G)) (va_Qi (fun r u => ∃ I2 L2, u = (ad, ns, I2, L2, G) ∧ INV I2 ∧ Kp [(11, 15), (107, 108)] [(10, 2), (10, 3), (10, 4), (10, 5), (10, 6), (10, 7), (10, 11), (10, 12)] I I2) (BM D A) A) 0 0 A := by
  refine m_ofW (by decide) (Nat.le_of_ble_eq_true rfl) ?_
  intro p e s m below meth c ls args hC hE hM hA hS hl
  obtain ⟨hx, hb, hml, hown, hts, hr, hlocks, hin⟩ := hC
  have km2 : (-2 : Int32).toInt = -2 := by decide
  have k0 : (0 : Int32).toInt = 0 := by decide
  have k1 : (1 : Int32).toInt = 1 := by decide
  have k2 : (2 : Int32).toInt = 2 := by decide
  have k1000 : (1000 : Int32).toInt = 1000 := by decide
  have hK : Kp [(11, 15), (107, 108)] [(10, 2), (10, 3), (10, 4), (10, 5), (10, 6), (10, 7), (10, 11), (10, 12)] I I := Kp.rf
  have hl : lv_has ls 9 [(0, .ref (ad (0))), (1, .int (a0)), (2, .int (a1)), (3, .int (a2)), (4, .int (a3))] := hl
  refine lv_aload_n hx hb dX9_leastDustByHalves_0 rfl (lv_at hl 0 rfl) ?_
  refine lv_iload_n hx hb dX9_leastDustByHalves_1 rfl (lv_at hl 1 rfl) ?_
  refine lv_iload_n hx hb dX9_leastDustByHalves_2 rfl (lv_at hl 2 rfl) ?_
  refine lv_iload_n hx hb dX9_leastDustByHalves_3 rfl (lv_at hl 3 rfl) ?_
  refine lv_sipush (v := (1000)) hx hb dX9_leastDustByHalves_4 (by decide) ?_
  refine m_calli (m_runV (0) (As := [.int (a0), .int (a1), .int (a2), .int (1000)]) (rest := []) hx hb hml hown hts hE hM hS hA ce_X9_getWithDust tb_1130 (V_X9_getWithDust l D A ad ns I L G (a0) (a1) (a2) (1000) hG hI (hlit.kp hK rfl) (by first | omega | decide) (by first | omega | decide) (by first | omega | decide)) rfl rfl ⟨Nat.le_of_ble_eq_true rfl, Nat.le_of_ble_eq_true rfl⟩ (hG.1 0 (by decide)) rfl rfl (by decide) rfl hl.1 rfl (Nat.le_of_ble_eq_true rfl) dX9_leastDustByHalves_7 ⟨Nat.le_of_ble_eq_true rfl, Nat.le_of_ble_eq_true rfl⟩) hS (fun r1 u H locs hw hM hS => ?_)
  obtain ⟨I2, L3, rfl, hI, hkI2⟩ := hw
  have hM : Mem D A ad ns I2 L3 G H := hM
  have hK := hK.trans hkI2 rfl
  refine lv_iload hx hb dX9_leastDustByHalves_10 (lv_at hl 4 rfl) ?_
  refine lv_icmp_le (tgt := 18) hx hb dX9_leastDustByHalves_12 (by decide) (fun c4 => ?_) (fun c4 => ?_)
  · have hc4 := c4
    have q4 := q_le hc4
    refine lv_iconst (v := (0)) hx hb dX9_leastDustByHalves_18 (by decide) ?_
    refine lv_istore (lv' := [(5, .int (0)), (0, .ref (ad (0))), (1, .int (a0)), (2, .int (a1)), (3, .int (a2)), (4, .int (a3))]) hx hb dX9_leastDustByHalves_19 hl (by decide) rfl (fun ls hl => ?_)
    refine lv_sipush (v := (1000)) hx hb dX9_leastDustByHalves_21 (by decide) ?_
    refine lv_istore (lv' := [(6, .int (1000)), (5, .int (0)), (0, .ref (ad (0))), (1, .int (a0)), (2, .int (a1)), (3, .int (a2)), (4, .int (a3))]) hx hb dX9_leastDustByHalves_24 hl (by decide) rfl (fun ls hl => ?_)
    refine lv_iconst (v := (0)) hx hb dX9_leastDustByHalves_26 (by decide) ?_
    refine lv_istore (lv' := [(7, .int (0)), (6, .int (1000)), (5, .int (0)), (0, .ref (ad (0))), (1, .int (a0)), (2, .int (a1)), (3, .int (a2)), (4, .int (a3))]) hx hb dX9_leastDustByHalves_27 hl (by decide) rfl (fun ls hl => ?_)
    have loop29 : ∀ (n : Nat) (x7_29 : Int32) (x6_29 : Int32) (x5_29 : Int32) (Ia29 : MI) (La29 : ML) (H : Heap) (locs : List Loc) (ls : Array Slot), INV Ia29 → Kp [(11, 15), (107, 108)] [(10, 2), (10, 3), (10, 4), (10, 5), (10, 6), (10, 7), (10, 11), (10, 12)] I Ia29 → (0 ≤ x7_29.toInt ∧ x7_29.toInt ≤ 1000) → (0 ≤ x6_29.toInt ∧ x6_29.toInt ≤ 1000) → (0 ≤ x5_29.toInt ∧ x5_29.toInt ≤ 1000) → (1000 - x7_29.toInt).toNat < n → Mem D A ad ns Ia29 La29 G H → va_S A s.heap H locs → lv_has ls 9 [(7, .int (x7_29)), (6, .int (x6_29)), (5, .int (x5_29)), (0, .ref (ad (0))), (1, .int (a0)), (2, .int (a1)), (3, .int (a2)), (4, .int (a3))] → W p l e ({ frames := 5, cells := 0, slots := 0, locals := 131 } : Room) s m args below meth c H locs 0 0 (MQ below (va_Qi (fun r u => ∃ I2 L2, u = (ad, ns, I2, L2, G) ∧ INV I2 ∧ Kp [(11, 15), (107, 108)] [(10, 2), (10, 3), (10, 4), (10, 5), (10, 6), (10, 7), (10, 11), (10, 12)] I I2) (BM D A) A) args s 0 0 A) (F0 m 29 ls []) := by
      intro n
      induction n with
      | zero =>
        intro x7_29 x6_29 x5_29 Ia29 La29 H locs ls hI hK hr7_29 hr6_29 hr5_29 hmu
        exact absurd hmu (Nat.not_lt_zero _)
      | succ n ih29 =>
        intro x7_29 x6_29 x5_29 Ia29 La29 H locs ls hI hK hr7_29 hr6_29 hr5_29 hmu29 hM hS hl
        refine lv_iload hx hb dX9_leastDustByHalves_29 (lv_at hl 1 rfl) ?_
        refine lv_iload hx hb dX9_leastDustByHalves_31 (lv_at hl 2 rfl) ?_
        refine lv_isub hx hb dX9_leastDustByHalves_33 ?_
        refine lv_topi (fun v5 ev5 => ?_)
        have tv5 := a_sub ev5 (by omega) (by omega)
        refine lv_iconst (v := (1)) hx hb dX9_leastDustByHalves_34 (by decide) ?_
        refine lv_icmp_le (tgt := 86) hx hb dX9_leastDustByHalves_35 (by decide) (fun c6 => ?_) (fun c6 => ?_)
        · have hc6 := c6
          have q6 := q_le hc6
          refine lv_iload hx hb dX9_leastDustByHalves_86 (lv_at hl 1 rfl) ?_
          exact m_iret hx hb hr hlocks hM hS (Nat.le_of_ble_eq_true rfl) (Nat.le_of_ble_eq_true rfl) ⟨_, _, rfl, hI, hK⟩ dX9_leastDustByHalves_88
        · have hc6 := c6
          have q6 := q_nle hc6
          refine lv_iload hx hb dX9_leastDustByHalves_38 (lv_at hl 0 rfl) ?_
          refine lv_sipush (v := (1000)) hx hb dX9_leastDustByHalves_40 (by decide) ?_
          refine lv_icmp_ge (tgt := 86) hx hb dX9_leastDustByHalves_43 (by decide) (fun c7 => ?_) (fun c7 => ?_)
          · have hc7 := c7
            have q7 := q_le hc7
            refine lv_iload hx hb dX9_leastDustByHalves_86 (lv_at hl 1 rfl) ?_
            exact m_iret hx hb hr hlocks hM hS (Nat.le_of_ble_eq_true rfl) (Nat.le_of_ble_eq_true rfl) ⟨_, _, rfl, hI, hK⟩ dX9_leastDustByHalves_88
          · have hc7 := c7
            have q7 := q_nle hc7
            refine lv_iload hx hb dX9_leastDustByHalves_46 (lv_at hl 2 rfl) ?_
            refine lv_iload hx hb dX9_leastDustByHalves_48 (lv_at hl 1 rfl) ?_
            refine lv_iadd hx hb dX9_leastDustByHalves_50 ?_
            refine lv_topi (fun v8 ev8 => ?_)
            have tv8 := a_add ev8 (by omega) (by omega)
            refine lv_iconst (v := (2)) hx hb dX9_leastDustByHalves_51 (by decide) ?_
            refine lv_idiv hx hb dX9_leastDustByHalves_52 (by decide) ?_
            refine lv_topi (fun v9 ev9 => ?_)
            have tv9 := a_div (c := 2) ev9 (by decide) (by decide) (by omega)
            refine lv_istore (lv' := [(8, .int (v9)), (7, .int (x7_29)), (6, .int (x6_29)), (5, .int (x5_29)), (0, .ref (ad (0))), (1, .int (a0)), (2, .int (a1)), (3, .int (a2)), (4, .int (a3))]) hx hb dX9_leastDustByHalves_53 hl (by decide) rfl (fun ls hl => ?_)
            refine lv_aload_n hx hb dX9_leastDustByHalves_55 rfl (lv_at hl 4 rfl) ?_
            refine lv_iload_n hx hb dX9_leastDustByHalves_56 rfl (lv_at hl 5 rfl) ?_
            refine lv_iload_n hx hb dX9_leastDustByHalves_57 rfl (lv_at hl 6 rfl) ?_
            refine lv_iload_n hx hb dX9_leastDustByHalves_58 rfl (lv_at hl 7 rfl) ?_
            refine lv_iload hx hb dX9_leastDustByHalves_59 (lv_at hl 0 rfl) ?_
            refine m_calli (m_runV (0) (As := [.int (a0), .int (a1), .int (a2), .int (v9)]) (rest := []) hx hb hml hown hts hE hM hS hA ce_X9_getWithDust tb_1130 (V_X9_getWithDust l D A ad ns Ia29 La29 G (a0) (a1) (a2) (v9) hG hI (hlit.kp hK rfl) (by first | omega | decide) (by first | omega | decide) (by first | omega | decide)) rfl rfl ⟨Nat.le_of_ble_eq_true rfl, Nat.le_of_ble_eq_true rfl⟩ (hG.1 0 (by decide)) rfl rfl (by decide) rfl hl.1 rfl (Nat.le_of_ble_eq_true rfl) dX9_leastDustByHalves_61 ⟨Nat.le_of_ble_eq_true rfl, Nat.le_of_ble_eq_true rfl⟩) hS (fun r10 u H locs hw hM hS => ?_)
            obtain ⟨I11, L12, rfl, hI, hkI11⟩ := hw
            have hM : Mem D A ad ns I11 L12 G H := hM
            have hK := hK.trans hkI11 rfl
            refine lv_iload hx hb dX9_leastDustByHalves_64 (lv_at hl 8 rfl) ?_
            refine lv_icmp_gt (tgt := 76) hx hb dX9_leastDustByHalves_66 (by decide) (fun c13 => ?_) (fun c13 => ?_)
            · have hc13 := c13
              have q13 := q_lt hc13
              refine lv_iload hx hb dX9_leastDustByHalves_76 (lv_at hl 0 rfl) ?_
              refine lv_istore (lv' := [(5, .int (v9)), (8, .int (v9)), (7, .int (x7_29)), (6, .int (x6_29)), (0, .ref (ad (0))), (1, .int (a0)), (2, .int (a1)), (3, .int (a2)), (4, .int (a3))]) hx hb dX9_leastDustByHalves_78 hl (by decide) rfl (fun ls hl => ?_)
              obtain ⟨v14, ev14⟩ : ∃ z : Int32, z = x7_29 + Int32.ofInt (1) := ⟨_, rfl⟩
              have tv14 := a_inc ev14 (by decide) (by omega) (by omega)
              refine lv_iinc (v := v14) (lv' := [(7, .int (v14)), (5, .int (v9)), (8, .int (v9)), (6, .int (x6_29)), (0, .ref (ad (0))), (1, .int (a0)), (2, .int (a1)), (3, .int (a2)), (4, .int (a3))]) hx hb dX9_leastDustByHalves_80 hl (k := 2) rfl ev14.symm (by decide) rfl (fun ls hl => ?_)
              refine lv_goto (tgt := 29) hx hb dX9_leastDustByHalves_83 (by decide) ?_
              exact ih29 (v14) (x6_29) (v9) I11 L12 _ _ ls hI hK (by first | omega | decide) (by first | omega | decide) (by first | omega | decide) (by omega) hM hS (lv_sub hl [0, 3, 1, 4, 5, 6, 7, 8] rfl)
            · have hc13 := c13
              have q13 := q_nlt hc13
              refine lv_iload hx hb dX9_leastDustByHalves_69 (lv_at hl 0 rfl) ?_
              refine lv_istore (lv' := [(6, .int (v9)), (8, .int (v9)), (7, .int (x7_29)), (5, .int (x5_29)), (0, .ref (ad (0))), (1, .int (a0)), (2, .int (a1)), (3, .int (a2)), (4, .int (a3))]) hx hb dX9_leastDustByHalves_71 hl (by decide) rfl (fun ls hl => ?_)
              refine lv_goto (tgt := 80) hx hb dX9_leastDustByHalves_73 (by decide) ?_
              obtain ⟨v15, ev15⟩ : ∃ z : Int32, z = x7_29 + Int32.ofInt (1) := ⟨_, rfl⟩
              have tv15 := a_inc ev15 (by decide) (by omega) (by omega)
              refine lv_iinc (v := v15) (lv' := [(7, .int (v15)), (6, .int (v9)), (8, .int (v9)), (5, .int (x5_29)), (0, .ref (ad (0))), (1, .int (a0)), (2, .int (a1)), (3, .int (a2)), (4, .int (a3))]) hx hb dX9_leastDustByHalves_80 hl (k := 2) rfl ev15.symm (by decide) rfl (fun ls hl => ?_)
              refine lv_goto (tgt := 29) hx hb dX9_leastDustByHalves_83 (by decide) ?_
              exact ih29 (v15) (v9) (x5_29) I11 L12 _ _ ls hI hK (by first | omega | decide) (by first | omega | decide) (by first | omega | decide) (by omega) hM hS (lv_sub hl [0, 1, 3, 4, 5, 6, 7, 8] rfl)
    exact loop29 (_ + 1) (0) (1000) (0) I2 L3 _ _ ls hI hK (by first | omega | decide) (by first | omega | decide) (by first | omega | decide) (Nat.lt_succ_self _) hM hS (lv_sub hl [0, 1, 2, 3, 4, 5, 6, 7] rfl)
  · have hc4 := c4
    have q4 := q_nle hc4
    refine lv_bipush (v := (-2)) hx hb dX9_leastDustByHalves_15 (by decide) ?_
    exact m_iret hx hb hr hlocks hM hS (Nat.le_of_ble_eq_true rfl) (Nat.le_of_ble_eq_true rfl) ⟨_, _, rfl, hI, hK⟩ dX9_leastDustByHalves_17
theorem dX9_leastDust_0 : decode cX9_leastDust 0 = .ok (.aload_n 0, 1) := by decide +kernel
theorem dX9_leastDust_1 : decode cX9_leastDust 1 = .ok (.iload_n 1, 1) := by decide +kernel
theorem dX9_leastDust_2 : decode cX9_leastDust 2 = .ok (.iload_n 2, 1) := by decide +kernel
theorem dX9_leastDust_3 : decode cX9_leastDust 3 = .ok (.iload_n 3, 1) := by decide +kernel
theorem dX9_leastDust_4 : decode cX9_leastDust 4 = .ok (.iconst 0, 1) := by decide +kernel
theorem dX9_leastDust_5 : decode cX9_leastDust 5 = .ok (.invokevirtual 335, 3) := by decide +kernel
theorem dX9_leastDust_8 : decode cX9_leastDust 8 = .ok (.iload 4, 2) := by decide +kernel
theorem dX9_leastDust_10 : decode cX9_leastDust 10 = .ok (.if_icmp .gt 5, 3) := by decide +kernel
theorem dX9_leastDust_13 : decode cX9_leastDust 13 = .ok (.iconst 0, 1) := by decide +kernel
theorem dX9_leastDust_14 : decode cX9_leastDust 14 = .ok (.ireturn, 1) := by decide +kernel
theorem dX9_leastDust_15 : decode cX9_leastDust 15 = .ok (.aload_n 0, 1) := by decide +kernel
theorem dX9_leastDust_16 : decode cX9_leastDust 16 = .ok (.getfield 26, 3) := by decide +kernel
theorem dX9_leastDust_19 : decode cX9_leastDust 19 = .ok (.iload_n 2, 1) := by decide +kernel
theorem dX9_leastDust_20 : decode cX9_leastDust 20 = .ok (.invokevirtual 338, 3) := by decide +kernel
theorem dX9_leastDust_23 : decode cX9_leastDust 23 = .ok (.ifCond .ne 6, 3) := by decide +kernel
theorem dX9_leastDust_26 : decode cX9_leastDust 26 = .ok (.bipush (-2), 2) := by decide +kernel
theorem dX9_leastDust_28 : decode cX9_leastDust 28 = .ok (.ireturn, 1) := by decide +kernel
theorem dX9_leastDust_29 : decode cX9_leastDust 29 = .ok (.aload_n 0, 1) := by decide +kernel
theorem dX9_leastDust_30 : decode cX9_leastDust 30 = .ok (.getfield 26, 3) := by decide +kernel
theorem dX9_leastDust_33 : decode cX9_leastDust 33 = .ok (.getfield 341, 3) := by decide +kernel
theorem dX9_leastDust_36 : decode cX9_leastDust 36 = .ok (.ifCond .eq 15, 3) := by decide +kernel
theorem dX9_leastDust_39 : decode cX9_leastDust 39 = .ok (.aload_n 0, 1) := by decide +kernel
theorem dX9_leastDust_40 : decode cX9_leastDust 40 = .ok (.iload_n 1, 1) := by decide +kernel
theorem dX9_leastDust_41 : decode cX9_leastDust 41 = .ok (.iload_n 2, 1) := by decide +kernel
theorem dX9_leastDust_42 : decode cX9_leastDust 42 = .ok (.iload_n 3, 1) := by decide +kernel
theorem dX9_leastDust_43 : decode cX9_leastDust 43 = .ok (.iload 4, 2) := by decide +kernel
theorem dX9_leastDust_45 : decode cX9_leastDust 45 = .ok (.invokevirtual 345, 3) := by decide +kernel
theorem dX9_leastDust_48 : decode cX9_leastDust 48 = .ok (.goto 12, 3) := by decide +kernel
theorem dX9_leastDust_51 : decode cX9_leastDust 51 = .ok (.aload_n 0, 1) := by decide +kernel
theorem dX9_leastDust_52 : decode cX9_leastDust 52 = .ok (.iload_n 1, 1) := by decide +kernel
theorem dX9_leastDust_53 : decode cX9_leastDust 53 = .ok (.iload_n 2, 1) := by decide +kernel
theorem dX9_leastDust_54 : decode cX9_leastDust 54 = .ok (.iload_n 3, 1) := by decide +kernel
theorem dX9_leastDust_55 : decode cX9_leastDust 55 = .ok (.iload 4, 2) := by decide +kernel
theorem dX9_leastDust_57 : decode cX9_leastDust 57 = .ok (.invokevirtual 348, 3) := by decide +kernel
theorem dX9_leastDust_60 : decode cX9_leastDust 60 = .ok (.ireturn, 1) := by decide +kernel
theorem ce_X9_leastDust : CeV RX9 yX9_leastDust cX9_leastDust 5 (some .int) 4 := ⟨tb_1128, tp_51, tb_1, tb_1129, rfl, by decide, by decide, by decide +kernel⟩
set_option maxHeartbeats 4000000 in
set_option maxRecDepth 20000 in
theorem V_X9_leastDust (l : Launch) (D : va_G) (A : Nat → Prop) (ad : Nat → Nat) (ns : List Nat) (I : MI) (L : ML) (G : MG) (a0 : Int32) (a1 : Int32) (a2 : Int32) (a3 : Int32) (hG : SGC ns G) (hI : INV I) (hlit : Lit 100 I a0) (ha0 : 0 ≤ a0.toInt ∧ a0.toInt ≤ 23) (ha1 : 0 ≤ a1.toInt ∧ a1.toInt ≤ 23) (ha2 : 0 ≤ a2.toInt ∧ a2.toInt ≤ 7) : Met l yX9_leastDust (wd yX9_leastDust cX9_leastDust 5 (some .int)) ({ frames := 6, cells := 0, slots := 0, locals := 159 }) (va_Pc [.ref (ad (0)), .int a0, .int a1, .int a2, .int a3] (PM D A ad ns I L G)) (va_Qi (fun r u => ∃ I2 L2, u = (ad, ns, I2, L2, G) ∧ INV I2 ∧ Kp [(11, 15), (107, 108)] [(10, 2), (10, 3), (10, 4), (10, 5), (10, 6), (10, 7), (10, 11), (10, 12)] I I2) (BM D A) A) 0 0 A := by
  refine m_ofW (by decide) (Nat.le_of_ble_eq_true rfl) ?_
  intro p e s m below meth c ls args hC hE hM hA hS hl
  obtain ⟨hx, hb, hml, hown, hts, hr, hlocks, hin⟩ := hC
  have km2 : (-2 : Int32).toInt = -2 := by decide
  have k0 : (0 : Int32).toInt = 0 := by decide
  have hK : Kp [(11, 15), (107, 108)] [(10, 2), (10, 3), (10, 4), (10, 5), (10, 6), (10, 7), (10, 11), (10, 12)] I I := Kp.rf
  have hl : lv_has ls 5 [(0, .ref (ad (0))), (1, .int (a0)), (2, .int (a1)), (3, .int (a2)), (4, .int (a3))] := hl
  refine lv_aload_n hx hb dX9_leastDust_0 rfl (lv_at hl 0 rfl) ?_
  refine lv_iload_n hx hb dX9_leastDust_1 rfl (lv_at hl 1 rfl) ?_
  refine lv_iload_n hx hb dX9_leastDust_2 rfl (lv_at hl 2 rfl) ?_
  refine lv_iload_n hx hb dX9_leastDust_3 rfl (lv_at hl 3 rfl) ?_
  refine lv_iconst (v := (0)) hx hb dX9_leastDust_4 (by decide) ?_
  refine m_calli (m_runV (0) (As := [.int (a0), .int (a1), .int (a2), .int (0)]) (rest := []) hx hb hml hown hts hE hM hS hA ce_X9_getWithDust tb_1130 (V_X9_getWithDust l D A ad ns I L G (a0) (a1) (a2) (0) hG hI (hlit.kp hK rfl) (by first | omega | decide) (by first | omega | decide) (by first | omega | decide)) rfl rfl ⟨Nat.le_of_ble_eq_true rfl, Nat.le_of_ble_eq_true rfl⟩ (hG.1 0 (by decide)) rfl rfl (by decide) rfl hl.1 rfl (Nat.le_of_ble_eq_true rfl) dX9_leastDust_5 ⟨Nat.le_of_ble_eq_true rfl, Nat.le_of_ble_eq_true rfl⟩) hS (fun r1 u H locs hw hM hS => ?_)
  obtain ⟨I2, L3, rfl, hI, hkI2⟩ := hw
  have hM : Mem D A ad ns I2 L3 G H := hM
  have hK := hK.trans hkI2 rfl
  refine lv_iload hx hb dX9_leastDust_8 (lv_at hl 4 rfl) ?_
  refine lv_icmp_gt (tgt := 15) hx hb dX9_leastDust_10 (by decide) (fun c4 => ?_) (fun c4 => ?_)
  · have hc4 := c4
    have q4 := q_lt hc4
    refine lv_aload_n hx hb dX9_leastDust_15 rfl (lv_at hl 0 rfl) ?_
    refine m_getr (0) 3 (10) hx hb hts hown hE oc9 hM (hG.1 0 (by decide)) rfl (by decide) rfl (hG.2 (0, 3, 10) (by decide)) (by decide) tb_401 dX9_leastDust_16 ?_
    refine lv_iload_n hx hb dX9_leastDust_19 rfl (lv_at hl 2 rfl) ?_
    refine m_calli (m_runV (10) (As := [.int (a1)]) (rest := []) hx hb hml hown hts hE hM hS hA ce_X1_touches tb_1134 (V_X1_touches l D A ad ns I2 L3 G (a1) hG hI) rfl rfl ⟨Nat.le_of_ble_eq_true rfl, Nat.le_of_ble_eq_true rfl⟩ (hG.1 10 (by decide)) rfl rfl (by decide) rfl hl.1 rfl (Nat.le_of_ble_eq_true rfl) dX9_leastDust_20 ⟨Nat.le_of_ble_eq_true rfl, Nat.le_of_ble_eq_true rfl⟩) hS (fun r5 u H locs hw hM hS => ?_)
    obtain ⟨rfl, xr5⟩ := hw
    have hM : Mem D A ad ns I2 L3 G H := hM
    refine lv_if_ne (tgt := 29) hx hb dX9_leastDust_23 (by decide) (fun c6 => ?_) (fun c6 => ?_)
    · have hc6 := c6
      have q6 := q_ne hc6
      refine lv_aload_n hx hb dX9_leastDust_29 rfl (lv_at hl 0 rfl) ?_
      refine m_getr (0) 3 (10) hx hb hts hown hE oc9 hM (hG.1 0 (by decide)) rfl (by decide) rfl (hG.2 (0, 3, 10) (by decide)) (by decide) tb_401 dX9_leastDust_30 ?_
      refine m_geti (10) 6 hx hb hts hown hE oc1 hM (hG.1 10 (by decide)) rfl (by decide) rfl tb_145 dX9_leastDust_33 ?_
      have g7 := hI.get (10) 6 (lo := 0) (hi := 1) rfl
      refine lv_if_eq (tgt := 51) hx hb dX9_leastDust_36 (by decide) (fun c8 => ?_) (fun c8 => ?_)
      · have hc8 := c8
        have q8 := q_eq hc8
        refine lv_aload_n hx hb dX9_leastDust_51 rfl (lv_at hl 0 rfl) ?_
        refine lv_iload_n hx hb dX9_leastDust_52 rfl (lv_at hl 1 rfl) ?_
        refine lv_iload_n hx hb dX9_leastDust_53 rfl (lv_at hl 2 rfl) ?_
        refine lv_iload_n hx hb dX9_leastDust_54 rfl (lv_at hl 3 rfl) ?_
        refine lv_iload hx hb dX9_leastDust_55 (lv_at hl 4 rfl) ?_
        refine m_calli (m_runV (0) (As := [.int (a0), .int (a1), .int (a2), .int (a3)]) (rest := []) hx hb hml hown hts hE hM hS hA ce_X9_leastDustByHalves tb_1139 (V_X9_leastDustByHalves l D A ad ns I2 L3 G (a0) (a1) (a2) (a3) hG hI (hlit.kp hK rfl) (by first | omega | decide) (by first | omega | decide) (by first | omega | decide)) rfl rfl ⟨Nat.le_of_ble_eq_true rfl, Nat.le_of_ble_eq_true rfl⟩ (hG.1 0 (by decide)) rfl rfl (by decide) rfl hl.1 rfl (Nat.le_of_ble_eq_true rfl) dX9_leastDust_57 ⟨Nat.le_of_ble_eq_true rfl, Nat.le_of_ble_eq_true rfl⟩) hS (fun r9 u H locs hw hM hS => ?_)
        obtain ⟨I10, L11, rfl, hI, hkI10⟩ := hw
        have hM : Mem D A ad ns I10 L11 G H := hM
        have hK := hK.trans hkI10 rfl
        exact m_iret hx hb hr hlocks hM hS (Nat.le_of_ble_eq_true rfl) (Nat.le_of_ble_eq_true rfl) ⟨_, _, rfl, hI, hK⟩ dX9_leastDust_60
      · have hc8 := c8
        have q8 := q_ne hc8
        refine lv_aload_n hx hb dX9_leastDust_39 rfl (lv_at hl 0 rfl) ?_
        refine lv_iload_n hx hb dX9_leastDust_40 rfl (lv_at hl 1 rfl) ?_
        refine lv_iload_n hx hb dX9_leastDust_41 rfl (lv_at hl 2 rfl) ?_
        refine lv_iload_n hx hb dX9_leastDust_42 rfl (lv_at hl 3 rfl) ?_
        refine lv_iload hx hb dX9_leastDust_43 (lv_at hl 4 rfl) ?_
        refine m_calli (m_runV (0) (As := [.int (a0), .int (a1), .int (a2), .int (a3)]) (rest := []) hx hb hml hown hts hE hM hS hA ce_X9_leastDustOneByOne tb_1135 (V_X9_leastDustOneByOne l D A ad ns I2 L3 G (a0) (a1) (a2) (a3) hG hI (hlit.kp hK rfl) (by first | omega | decide) (by first | omega | decide) (by first | omega | decide)) rfl rfl ⟨Nat.le_of_ble_eq_true rfl, Nat.le_of_ble_eq_true rfl⟩ (hG.1 0 (by decide)) rfl rfl (by decide) rfl hl.1 rfl (Nat.le_of_ble_eq_true rfl) dX9_leastDust_45 ⟨Nat.le_of_ble_eq_true rfl, Nat.le_of_ble_eq_true rfl⟩) hS (fun r12 u H locs hw hM hS => ?_)
        obtain ⟨I13, L14, rfl, hI, hkI13⟩ := hw
        have hM : Mem D A ad ns I13 L14 G H := hM
        have hK := hK.trans hkI13 rfl
        refine lv_goto (tgt := 60) hx hb dX9_leastDust_48 (by decide) ?_
        exact m_iret hx hb hr hlocks hM hS (Nat.le_of_ble_eq_true rfl) (Nat.le_of_ble_eq_true rfl) ⟨_, _, rfl, hI, hK⟩ dX9_leastDust_60
    · have hc6 := c6
      have q6 := q_eq hc6
      refine lv_bipush (v := (-2)) hx hb dX9_leastDust_26 (by decide) ?_
      exact m_iret hx hb hr hlocks hM hS (Nat.le_of_ble_eq_true rfl) (Nat.le_of_ble_eq_true rfl) ⟨_, _, rfl, hI, hK⟩ dX9_leastDust_28
  · have hc4 := c4
    have q4 := q_nlt hc4
    refine lv_iconst (v := (0)) hx hb dX9_leastDust_13 (by decide) ?_
    exact m_iret hx hb hr hlocks hM hS (Nat.le_of_ble_eq_true rfl) (Nat.le_of_ble_eq_true rfl) ⟨_, _, rfl, hI, hK⟩ dX9_leastDust_14
theorem dX9_countOfTown_0 : decode cX9_countOfTown 0 = .ok (.iload_n 1, 1) := by decide +kernel
theorem dX9_countOfTown_1 : decode cX9_countOfTown 1 = .ok (.tableswitch 111 0 7 #[47, 55, 63, 71, 79, 87, 95, 103], 47) := by decide +kernel
theorem dX9_countOfTown_48 : decode cX9_countOfTown 48 = .ok (.aload_n 0, 1) := by decide +kernel
theorem dX9_countOfTown_49 : decode cX9_countOfTown 49 = .ok (.getfield 10, 3) := by decide +kernel
theorem dX9_countOfTown_52 : decode cX9_countOfTown 52 = .ok (.getfield 351, 3) := by decide +kernel
theorem dX9_countOfTown_55 : decode cX9_countOfTown 55 = .ok (.ireturn, 1) := by decide +kernel
theorem dX9_countOfTown_56 : decode cX9_countOfTown 56 = .ok (.aload_n 0, 1) := by decide +kernel
theorem dX9_countOfTown_57 : decode cX9_countOfTown 57 = .ok (.getfield 10, 3) := by decide +kernel
theorem dX9_countOfTown_60 : decode cX9_countOfTown 60 = .ok (.getfield 354, 3) := by decide +kernel
theorem dX9_countOfTown_63 : decode cX9_countOfTown 63 = .ok (.ireturn, 1) := by decide +kernel
theorem dX9_countOfTown_64 : decode cX9_countOfTown 64 = .ok (.aload_n 0, 1) := by decide +kernel
theorem dX9_countOfTown_65 : decode cX9_countOfTown 65 = .ok (.getfield 10, 3) := by decide +kernel
theorem dX9_countOfTown_68 : decode cX9_countOfTown 68 = .ok (.getfield 133, 3) := by decide +kernel
theorem dX9_countOfTown_71 : decode cX9_countOfTown 71 = .ok (.ireturn, 1) := by decide +kernel
theorem dX9_countOfTown_72 : decode cX9_countOfTown 72 = .ok (.aload_n 0, 1) := by decide +kernel
theorem dX9_countOfTown_73 : decode cX9_countOfTown 73 = .ok (.getfield 10, 3) := by decide +kernel
theorem dX9_countOfTown_76 : decode cX9_countOfTown 76 = .ok (.getfield 152, 3) := by decide +kernel
theorem dX9_countOfTown_79 : decode cX9_countOfTown 79 = .ok (.ireturn, 1) := by decide +kernel
theorem dX9_countOfTown_80 : decode cX9_countOfTown 80 = .ok (.aload_n 0, 1) := by decide +kernel
theorem dX9_countOfTown_81 : decode cX9_countOfTown 81 = .ok (.getfield 10, 3) := by decide +kernel
theorem dX9_countOfTown_84 : decode cX9_countOfTown 84 = .ok (.getfield 166, 3) := by decide +kernel
theorem dX9_countOfTown_87 : decode cX9_countOfTown 87 = .ok (.ireturn, 1) := by decide +kernel
theorem dX9_countOfTown_88 : decode cX9_countOfTown 88 = .ok (.aload_n 0, 1) := by decide +kernel
theorem dX9_countOfTown_89 : decode cX9_countOfTown 89 = .ok (.getfield 10, 3) := by decide +kernel
theorem dX9_countOfTown_92 : decode cX9_countOfTown 92 = .ok (.getfield 190, 3) := by decide +kernel
theorem dX9_countOfTown_95 : decode cX9_countOfTown 95 = .ok (.ireturn, 1) := by decide +kernel
theorem dX9_countOfTown_96 : decode cX9_countOfTown 96 = .ok (.aload_n 0, 1) := by decide +kernel
theorem dX9_countOfTown_97 : decode cX9_countOfTown 97 = .ok (.getfield 10, 3) := by decide +kernel
theorem dX9_countOfTown_100 : decode cX9_countOfTown 100 = .ok (.invokevirtual 197, 3) := by decide +kernel
theorem dX9_countOfTown_103 : decode cX9_countOfTown 103 = .ok (.ireturn, 1) := by decide +kernel
theorem dX9_countOfTown_104 : decode cX9_countOfTown 104 = .ok (.aload_n 0, 1) := by decide +kernel
theorem dX9_countOfTown_105 : decode cX9_countOfTown 105 = .ok (.getfield 10, 3) := by decide +kernel
theorem dX9_countOfTown_108 : decode cX9_countOfTown 108 = .ok (.getfield 169, 3) := by decide +kernel
theorem dX9_countOfTown_111 : decode cX9_countOfTown 111 = .ok (.ireturn, 1) := by decide +kernel
theorem dX9_countOfTown_112 : decode cX9_countOfTown 112 = .ok (.iconst (-1), 1) := by decide +kernel
theorem dX9_countOfTown_113 : decode cX9_countOfTown 113 = .ok (.ireturn, 1) := by decide +kernel
theorem ce_X9_countOfTown : CeV RX9 yX9_countOfTown cX9_countOfTown 2 (some .int) 1 := ⟨tb_1162, tp_55, tb_1, tb_1163, rfl, by decide, by decide, by decide +kernel⟩
set_option maxHeartbeats 4000000 in
set_option maxRecDepth 20000 in
theorem V_X9_countOfTown (l : Launch) (D : va_G) (A : Nat → Prop) (ad : Nat → Nat) (ns : List Nat) (I : MI) (L : ML) (G : MG) (a0 : Int32) (hG : SGC ns G) (hI : INV I) : Met l yX9_countOfTown (wd yX9_countOfTown cX9_countOfTown 2 (some .int)) ({ frames := 2, cells := 0, slots := 0, locals := 44 }) (va_Pc [.ref (ad (0)), .int a0] (PM D A ad ns I L G)) (va_Qi (fun r u => u = (ad, ns, I, L, G) ∧ (True)) (BM D A) A) 0 0 A := by
  refine m_ofW (by decide) (Nat.le_of_ble_eq_true rfl) ?_
  intro p e s m below meth c ls args hC hE hM hA hS hl
  obtain ⟨hx, hb, hml, hown, hts, hr, hlocks, hin⟩ := hC
  have km1 : (-1 : Int32).toInt = -1 := by decide
  have k0 : (0 : Int32).toInt = 0 := by decide
  have hl : lv_has ls 2 [(0, .ref (ad (0))), (1, .int (a0))] := hl
  refine lv_iload_n hx hb dX9_countOfTown_0 rfl (lv_at hl 1 rfl) ?_
  by_cases c1 : (a0).toInt < 0 ∨ 7 < (a0).toInt
  · refine lv_tableOut (tgt := 112) hx hb dX9_countOfTown_1 c1 (by decide) ?_
    refine lv_iconst (v := (-1)) hx hb dX9_countOfTown_112 (by decide) ?_
    exact m_iret hx hb hr hlocks hM hS (Nat.le_of_ble_eq_true rfl) (Nat.le_of_ble_eq_true rfl) ⟨rfl, trivial⟩ dX9_countOfTown_113
  · have qc1 : (a0).toInt = 0 ∨ (a0).toInt = 1 ∨ (a0).toInt = 2 ∨ (a0).toInt = 3 ∨ (a0).toInt = 4 ∨ (a0).toInt = 5 ∨ (a0).toInt = 6 ∨ (a0).toInt = 7 := by omega
    rcases qc1 with qc1 | qc1 | qc1 | qc1 | qc1 | qc1 | qc1 | qc1
    · refine lv_tableIn (off := 47) (tgt := 48) hx hb dX9_countOfTown_1 (by omega) (by omega) (by rw [qc1]; rfl) (by decide) ?_
      refine lv_aload_n hx hb dX9_countOfTown_48 rfl (lv_at hl 0 rfl) ?_
      refine m_getr (0) 0 (100) hx hb hts hown hE oc9 hM (hG.1 0 (by decide)) rfl (by decide) rfl (hG.2 (0, 0, 100) (by decide)) (by decide) tb_398 dX9_countOfTown_49 ?_
      refine m_geti (100) 0 hx hb hts hown hE oc8 hM (hG.1 100 (by decide)) rfl (by decide) rfl tb_36 dX9_countOfTown_52 ?_
      have g2 := hI.get (100) 0 (lo := 0) (hi := 24) rfl
      exact m_iret hx hb hr hlocks hM hS (Nat.le_of_ble_eq_true rfl) (Nat.le_of_ble_eq_true rfl) ⟨rfl, trivial⟩ dX9_countOfTown_55
    · refine lv_tableIn (off := 55) (tgt := 56) hx hb dX9_countOfTown_1 (by omega) (by omega) (by rw [qc1]; rfl) (by decide) ?_
      refine lv_aload_n hx hb dX9_countOfTown_56 rfl (lv_at hl 0 rfl) ?_
      refine m_getr (0) 0 (100) hx hb hts hown hE oc9 hM (hG.1 0 (by decide)) rfl (by decide) rfl (hG.2 (0, 0, 100) (by decide)) (by decide) tb_398 dX9_countOfTown_57 ?_
      refine m_geti (100) 1 hx hb hts hown hE oc8 hM (hG.1 100 (by decide)) rfl (by decide) rfl tb_39 dX9_countOfTown_60 ?_
      have g3 := hI.get (100) 1 (lo := 0) (hi := 24) rfl
      exact m_iret hx hb hr hlocks hM hS (Nat.le_of_ble_eq_true rfl) (Nat.le_of_ble_eq_true rfl) ⟨rfl, trivial⟩ dX9_countOfTown_63
    · refine lv_tableIn (off := 63) (tgt := 64) hx hb dX9_countOfTown_1 (by omega) (by omega) (by rw [qc1]; rfl) (by decide) ?_
      refine lv_aload_n hx hb dX9_countOfTown_64 rfl (lv_at hl 0 rfl) ?_
      refine m_getr (0) 0 (100) hx hb hts hown hE oc9 hM (hG.1 0 (by decide)) rfl (by decide) rfl (hG.2 (0, 0, 100) (by decide)) (by decide) tb_398 dX9_countOfTown_65 ?_
      refine m_geti (100) 8 hx hb hts hown hE oc8 hM (hG.1 100 (by decide)) rfl (by decide) rfl tb_62 dX9_countOfTown_68 ?_
      have g4 := hI.get (100) 8 (lo := 0) (hi := 24) rfl
      exact m_iret hx hb hr hlocks hM hS (Nat.le_of_ble_eq_true rfl) (Nat.le_of_ble_eq_true rfl) ⟨rfl, trivial⟩ dX9_countOfTown_71
    · refine lv_tableIn (off := 71) (tgt := 72) hx hb dX9_countOfTown_1 (by omega) (by omega) (by rw [qc1]; rfl) (by decide) ?_
      refine lv_aload_n hx hb dX9_countOfTown_72 rfl (lv_at hl 0 rfl) ?_
      refine m_getr (0) 0 (100) hx hb hts hown hE oc9 hM (hG.1 0 (by decide)) rfl (by decide) rfl (hG.2 (0, 0, 100) (by decide)) (by decide) tb_398 dX9_countOfTown_73 ?_
      refine m_geti (100) 9 hx hb hts hown hE oc8 hM (hG.1 100 (by decide)) rfl (by decide) rfl tb_64 dX9_countOfTown_76 ?_
      have g5 := hI.get (100) 9 (lo := 0) (hi := 8) rfl
      exact m_iret hx hb hr hlocks hM hS (Nat.le_of_ble_eq_true rfl) (Nat.le_of_ble_eq_true rfl) ⟨rfl, trivial⟩ dX9_countOfTown_79
    · refine lv_tableIn (off := 79) (tgt := 80) hx hb dX9_countOfTown_1 (by omega) (by omega) (by rw [qc1]; rfl) (by decide) ?_
      refine lv_aload_n hx hb dX9_countOfTown_80 rfl (lv_at hl 0 rfl) ?_
      refine m_getr (0) 0 (100) hx hb hts hown hE oc9 hM (hG.1 0 (by decide)) rfl (by decide) rfl (hG.2 (0, 0, 100) (by decide)) (by decide) tb_398 dX9_countOfTown_81 ?_
      refine m_geti (100) 5 hx hb hts hown hE oc8 hM (hG.1 100 (by decide)) rfl (by decide) rfl tb_53 dX9_countOfTown_84 ?_
      have g6 := hI.get (100) 5 (lo := 0) (hi := 11) rfl
      exact m_iret hx hb hr hlocks hM hS (Nat.le_of_ble_eq_true rfl) (Nat.le_of_ble_eq_true rfl) ⟨rfl, trivial⟩ dX9_countOfTown_87
    · refine lv_tableIn (off := 87) (tgt := 88) hx hb dX9_countOfTown_1 (by omega) (by omega) (by rw [qc1]; rfl) (by decide) ?_
      refine lv_aload_n hx hb dX9_countOfTown_88 rfl (lv_at hl 0 rfl) ?_
      refine m_getr (0) 0 (100) hx hb hts hown hE oc9 hM (hG.1 0 (by decide)) rfl (by decide) rfl (hG.2 (0, 0, 100) (by decide)) (by decide) tb_398 dX9_countOfTown_89 ?_
      refine m_geti (100) 6 hx hb hts hown hE oc8 hM (hG.1 100 (by decide)) rfl (by decide) rfl tb_56 dX9_countOfTown_92 ?_
      exact m_iret hx hb hr hlocks hM hS (Nat.le_of_ble_eq_true rfl) (Nat.le_of_ble_eq_true rfl) ⟨rfl, trivial⟩ dX9_countOfTown_95
    · refine lv_tableIn (off := 95) (tgt := 96) hx hb dX9_countOfTown_1 (by omega) (by omega) (by rw [qc1]; rfl) (by decide) ?_
      refine lv_aload_n hx hb dX9_countOfTown_96 rfl (lv_at hl 0 rfl) ?_
      refine m_getr (0) 0 (100) hx hb hts hown hE oc9 hM (hG.1 0 (by decide)) rfl (by decide) rfl (hG.2 (0, 0, 100) (by decide)) (by decide) tb_398 dX9_countOfTown_97 ?_
      refine m_calli (m_runV (100) (As := []) (rest := []) hx hb hml hown hts hE hM hS hA ce_X8_metCount tb_880 (V_X8_metCount_100 l D A ad ns I L G hG hI) rfl rfl ⟨Nat.le_of_ble_eq_true rfl, Nat.le_of_ble_eq_true rfl⟩ (hG.1 100 (by decide)) rfl rfl (by decide) rfl hl.1 rfl (Nat.le_of_ble_eq_true rfl) dX9_countOfTown_100 ⟨Nat.le_of_ble_eq_true rfl, Nat.le_of_ble_eq_true rfl⟩) hS (fun r7 u H locs hw hM hS => ?_)
      obtain ⟨rfl, xr7⟩ := hw
      have hM : Mem D A ad ns I L G H := hM
      exact m_iret hx hb hr hlocks hM hS (Nat.le_of_ble_eq_true rfl) (Nat.le_of_ble_eq_true rfl) ⟨rfl, trivial⟩ dX9_countOfTown_103
    · refine lv_tableIn (off := 103) (tgt := 104) hx hb dX9_countOfTown_1 (by omega) (by omega) (by rw [qc1]; rfl) (by decide) ?_
      refine lv_aload_n hx hb dX9_countOfTown_104 rfl (lv_at hl 0 rfl) ?_
      refine m_getr (0) 0 (100) hx hb hts hown hE oc9 hM (hG.1 0 (by decide)) rfl (by decide) rfl (hG.2 (0, 0, 100) (by decide)) (by decide) tb_398 dX9_countOfTown_105 ?_
      refine m_geti (100) 7 hx hb hts hown hE oc8 hM (hG.1 100 (by decide)) rfl (by decide) rfl tb_58 dX9_countOfTown_108 ?_
      exact m_iret hx hb hr hlocks hM hS (Nat.le_of_ble_eq_true rfl) (Nat.le_of_ble_eq_true rfl) ⟨rfl, trivial⟩ dX9_countOfTown_111
theorem dX8_copyFrom_0 : decode cX8_copyFrom 0 = .ok (.aload_n 0, 1) := by decide +kernel
theorem dX8_copyFrom_1 : decode cX8_copyFrom 1 = .ok (.aload_n 1, 1) := by decide +kernel
theorem dX8_copyFrom_2 : decode cX8_copyFrom 2 = .ok (.getfield 36, 3) := by decide +kernel
theorem dX8_copyFrom_5 : decode cX8_copyFrom 5 = .ok (.putfield 36, 3) := by decide +kernel
theorem dX8_copyFrom_8 : decode cX8_copyFrom 8 = .ok (.aload_n 0, 1) := by decide +kernel
theorem dX8_copyFrom_9 : decode cX8_copyFrom 9 = .ok (.aload_n 1, 1) := by decide +kernel
theorem dX8_copyFrom_10 : decode cX8_copyFrom 10 = .ok (.getfield 40, 3) := by decide +kernel
theorem dX8_copyFrom_13 : decode cX8_copyFrom 13 = .ok (.putfield 40, 3) := by decide +kernel
theorem dX8_copyFrom_16 : decode cX8_copyFrom 16 = .ok (.aload_n 0, 1) := by decide +kernel
theorem dX8_copyFrom_17 : decode cX8_copyFrom 17 = .ok (.aload_n 1, 1) := by decide +kernel
theorem dX8_copyFrom_18 : decode cX8_copyFrom 18 = .ok (.getfield 43, 3) := by decide +kernel
theorem dX8_copyFrom_21 : decode cX8_copyFrom 21 = .ok (.putfield 43, 3) := by decide +kernel
theorem dX8_copyFrom_24 : decode cX8_copyFrom 24 = .ok (.aload_n 0, 1) := by decide +kernel
theorem dX8_copyFrom_25 : decode cX8_copyFrom 25 = .ok (.aload_n 1, 1) := by decide +kernel
theorem dX8_copyFrom_26 : decode cX8_copyFrom 26 = .ok (.getfield 46, 3) := by decide +kernel
theorem dX8_copyFrom_29 : decode cX8_copyFrom 29 = .ok (.putfield 46, 3) := by decide +kernel
theorem dX8_copyFrom_32 : decode cX8_copyFrom 32 = .ok (.aload_n 0, 1) := by decide +kernel
theorem dX8_copyFrom_33 : decode cX8_copyFrom 33 = .ok (.aload_n 1, 1) := by decide +kernel
theorem dX8_copyFrom_34 : decode cX8_copyFrom 34 = .ok (.getfield 49, 3) := by decide +kernel
theorem dX8_copyFrom_37 : decode cX8_copyFrom 37 = .ok (.putfield 49, 3) := by decide +kernel
theorem dX8_copyFrom_40 : decode cX8_copyFrom 40 = .ok (.aload_n 0, 1) := by decide +kernel
theorem dX8_copyFrom_41 : decode cX8_copyFrom 41 = .ok (.aload_n 1, 1) := by decide +kernel
theorem dX8_copyFrom_42 : decode cX8_copyFrom 42 = .ok (.getfield 52, 3) := by decide +kernel
theorem dX8_copyFrom_45 : decode cX8_copyFrom 45 = .ok (.putfield 52, 3) := by decide +kernel
theorem dX8_copyFrom_48 : decode cX8_copyFrom 48 = .ok (.aload_n 0, 1) := by decide +kernel
theorem dX8_copyFrom_49 : decode cX8_copyFrom 49 = .ok (.aload_n 1, 1) := by decide +kernel
theorem dX8_copyFrom_50 : decode cX8_copyFrom 50 = .ok (.getfield 55, 3) := by decide +kernel
theorem dX8_copyFrom_53 : decode cX8_copyFrom 53 = .ok (.putfield 55, 3) := by decide +kernel
theorem dX8_copyFrom_56 : decode cX8_copyFrom 56 = .ok (.aload_n 0, 1) := by decide +kernel
theorem dX8_copyFrom_57 : decode cX8_copyFrom 57 = .ok (.aload_n 1, 1) := by decide +kernel
theorem dX8_copyFrom_58 : decode cX8_copyFrom 58 = .ok (.getfield 58, 3) := by decide +kernel
theorem dX8_copyFrom_61 : decode cX8_copyFrom 61 = .ok (.putfield 58, 3) := by decide +kernel
theorem dX8_copyFrom_64 : decode cX8_copyFrom 64 = .ok (.aload_n 0, 1) := by decide +kernel
theorem dX8_copyFrom_65 : decode cX8_copyFrom 65 = .ok (.aload_n 1, 1) := by decide +kernel
theorem dX8_copyFrom_66 : decode cX8_copyFrom 66 = .ok (.getfield 61, 3) := by decide +kernel
theorem dX8_copyFrom_69 : decode cX8_copyFrom 69 = .ok (.putfield 61, 3) := by decide +kernel
theorem dX8_copyFrom_72 : decode cX8_copyFrom 72 = .ok (.aload_n 0, 1) := by decide +kernel
theorem dX8_copyFrom_73 : decode cX8_copyFrom 73 = .ok (.aload_n 1, 1) := by decide +kernel
theorem dX8_copyFrom_74 : decode cX8_copyFrom 74 = .ok (.getfield 64, 3) := by decide +kernel
theorem dX8_copyFrom_77 : decode cX8_copyFrom 77 = .ok (.putfield 64, 3) := by decide +kernel
theorem dX8_copyFrom_80 : decode cX8_copyFrom 80 = .ok (.aload_n 1, 1) := by decide +kernel
theorem dX8_copyFrom_81 : decode cX8_copyFrom 81 = .ok (.getfield 9, 3) := by decide +kernel
theorem dX8_copyFrom_84 : decode cX8_copyFrom 84 = .ok (.iconst 0, 1) := by decide +kernel
theorem dX8_copyFrom_85 : decode cX8_copyFrom 85 = .ok (.aload_n 0, 1) := by decide +kernel
theorem dX8_copyFrom_86 : decode cX8_copyFrom 86 = .ok (.getfield 9, 3) := by decide +kernel
theorem dX8_copyFrom_89 : decode cX8_copyFrom 89 = .ok (.iconst 0, 1) := by decide +kernel
theorem dX8_copyFrom_90 : decode cX8_copyFrom 90 = .ok (.sipush 576, 3) := by decide +kernel
theorem dX8_copyFrom_93 : decode cX8_copyFrom 93 = .ok (.invokestatic 73, 3) := by decide +kernel
theorem dX8_copyFrom_96 : decode cX8_copyFrom 96 = .ok (.aload_n 1, 1) := by decide +kernel
theorem dX8_copyFrom_97 : decode cX8_copyFrom 97 = .ok (.getfield 15, 3) := by decide +kernel
theorem dX8_copyFrom_100 : decode cX8_copyFrom 100 = .ok (.iconst 0, 1) := by decide +kernel
theorem dX8_copyFrom_101 : decode cX8_copyFrom 101 = .ok (.aload_n 0, 1) := by decide +kernel
theorem dX8_copyFrom_102 : decode cX8_copyFrom 102 = .ok (.getfield 15, 3) := by decide +kernel
theorem dX8_copyFrom_105 : decode cX8_copyFrom 105 = .ok (.iconst 0, 1) := by decide +kernel
theorem dX8_copyFrom_106 : decode cX8_copyFrom 106 = .ok (.sipush 576, 3) := by decide +kernel
theorem dX8_copyFrom_109 : decode cX8_copyFrom 109 = .ok (.invokestatic 73, 3) := by decide +kernel
theorem dX8_copyFrom_112 : decode cX8_copyFrom 112 = .ok (.aload_n 1, 1) := by decide +kernel
theorem dX8_copyFrom_113 : decode cX8_copyFrom 113 = .ok (.getfield 18, 3) := by decide +kernel
theorem dX8_copyFrom_116 : decode cX8_copyFrom 116 = .ok (.iconst 0, 1) := by decide +kernel
theorem dX8_copyFrom_117 : decode cX8_copyFrom 117 = .ok (.aload_n 0, 1) := by decide +kernel
theorem dX8_copyFrom_118 : decode cX8_copyFrom 118 = .ok (.getfield 18, 3) := by decide +kernel
theorem dX8_copyFrom_121 : decode cX8_copyFrom 121 = .ok (.iconst 0, 1) := by decide +kernel
theorem dX8_copyFrom_122 : decode cX8_copyFrom 122 = .ok (.sipush 576, 3) := by decide +kernel
theorem dX8_copyFrom_125 : decode cX8_copyFrom 125 = .ok (.invokestatic 73, 3) := by decide +kernel
theorem dX8_copyFrom_128 : decode cX8_copyFrom 128 = .ok (.aload_n 1, 1) := by decide +kernel
theorem dX8_copyFrom_129 : decode cX8_copyFrom 129 = .ok (.getfield 21, 3) := by decide +kernel
theorem dX8_copyFrom_132 : decode cX8_copyFrom 132 = .ok (.iconst 0, 1) := by decide +kernel
theorem dX8_copyFrom_133 : decode cX8_copyFrom 133 = .ok (.aload_n 0, 1) := by decide +kernel
theorem dX8_copyFrom_134 : decode cX8_copyFrom 134 = .ok (.getfield 21, 3) := by decide +kernel
theorem dX8_copyFrom_137 : decode cX8_copyFrom 137 = .ok (.iconst 0, 1) := by decide +kernel
theorem dX8_copyFrom_138 : decode cX8_copyFrom 138 = .ok (.sipush 576, 3) := by decide +kernel
theorem dX8_copyFrom_141 : decode cX8_copyFrom 141 = .ok (.invokestatic 73, 3) := by decide +kernel
theorem dX8_copyFrom_144 : decode cX8_copyFrom 144 = .ok (.aload_n 1, 1) := by decide +kernel
theorem dX8_copyFrom_145 : decode cX8_copyFrom 145 = .ok (.getfield 24, 3) := by decide +kernel
theorem dX8_copyFrom_148 : decode cX8_copyFrom 148 = .ok (.iconst 0, 1) := by decide +kernel
theorem dX8_copyFrom_149 : decode cX8_copyFrom 149 = .ok (.aload_n 0, 1) := by decide +kernel
theorem dX8_copyFrom_150 : decode cX8_copyFrom 150 = .ok (.getfield 24, 3) := by decide +kernel
theorem dX8_copyFrom_153 : decode cX8_copyFrom 153 = .ok (.iconst 0, 1) := by decide +kernel
theorem dX8_copyFrom_154 : decode cX8_copyFrom 154 = .ok (.sipush 288, 3) := by decide +kernel
theorem dX8_copyFrom_157 : decode cX8_copyFrom 157 = .ok (.invokestatic 73, 3) := by decide +kernel
theorem dX8_copyFrom_160 : decode cX8_copyFrom 160 = .ok (.aload_n 1, 1) := by decide +kernel
theorem dX8_copyFrom_161 : decode cX8_copyFrom 161 = .ok (.getfield 27, 3) := by decide +kernel
theorem dX8_copyFrom_164 : decode cX8_copyFrom 164 = .ok (.iconst 0, 1) := by decide +kernel
theorem dX8_copyFrom_165 : decode cX8_copyFrom 165 = .ok (.aload_n 0, 1) := by decide +kernel
theorem dX8_copyFrom_166 : decode cX8_copyFrom 166 = .ok (.getfield 27, 3) := by decide +kernel
theorem dX8_copyFrom_169 : decode cX8_copyFrom 169 = .ok (.iconst 0, 1) := by decide +kernel
theorem dX8_copyFrom_170 : decode cX8_copyFrom 170 = .ok (.sipush 288, 3) := by decide +kernel
theorem dX8_copyFrom_173 : decode cX8_copyFrom 173 = .ok (.invokestatic 73, 3) := by decide +kernel
theorem dX8_copyFrom_176 : decode cX8_copyFrom 176 = .ok (.aload_n 1, 1) := by decide +kernel
theorem dX8_copyFrom_177 : decode cX8_copyFrom 177 = .ok (.getfield 30, 3) := by decide +kernel
theorem dX8_copyFrom_180 : decode cX8_copyFrom 180 = .ok (.iconst 0, 1) := by decide +kernel
theorem dX8_copyFrom_181 : decode cX8_copyFrom 181 = .ok (.aload_n 0, 1) := by decide +kernel
theorem dX8_copyFrom_182 : decode cX8_copyFrom 182 = .ok (.getfield 30, 3) := by decide +kernel
theorem dX8_copyFrom_185 : decode cX8_copyFrom 185 = .ok (.iconst 0, 1) := by decide +kernel
theorem dX8_copyFrom_186 : decode cX8_copyFrom 186 = .ok (.sipush 240, 3) := by decide +kernel
theorem dX8_copyFrom_189 : decode cX8_copyFrom 189 = .ok (.invokestatic 73, 3) := by decide +kernel
theorem dX8_copyFrom_192 : decode cX8_copyFrom 192 = .ok (.aload_n 1, 1) := by decide +kernel
theorem dX8_copyFrom_193 : decode cX8_copyFrom 193 = .ok (.getfield 33, 3) := by decide +kernel
theorem dX8_copyFrom_196 : decode cX8_copyFrom 196 = .ok (.iconst 0, 1) := by decide +kernel
theorem dX8_copyFrom_197 : decode cX8_copyFrom 197 = .ok (.aload_n 0, 1) := by decide +kernel
theorem dX8_copyFrom_198 : decode cX8_copyFrom 198 = .ok (.getfield 33, 3) := by decide +kernel
theorem dX8_copyFrom_201 : decode cX8_copyFrom 201 = .ok (.iconst 0, 1) := by decide +kernel
theorem dX8_copyFrom_202 : decode cX8_copyFrom 202 = .ok (.bipush 56, 2) := by decide +kernel
theorem dX8_copyFrom_204 : decode cX8_copyFrom 204 = .ok (.invokestatic 73, 3) := by decide +kernel
theorem dX8_copyFrom_207 : decode cX8_copyFrom 207 = .ok (.return_, 1) := by decide +kernel
theorem ce_X8_copyFrom : CeV RX8 yX8_copyFrom cX8_copyFrom 2 none 1 := ⟨tb_1148, tb_1149, tb_2, tb_1150, rfl, by decide, by decide, by decide +kernel⟩
set_option maxHeartbeats 4000000 in
set_option maxRecDepth 20000 in
theorem V_X8_copyFrom_110_100 (l : Launch) (D : va_G) (A : Nat → Prop) (ad : Nat → Nat) (ns : List Nat) (I : MI) (L : ML) (G : MG) (hG : SGC ns G) (hI : INV I) : Met l yX8_copyFrom (wd yX8_copyFrom cX8_copyFrom 2 none) ({ frames := 1, cells := 0, slots := 0, locals := 40 }) (va_Pc [.ref (ad (110)), .ref (ad (100))] (PM D A ad ns I L G)) (va_Qv (fun u => ∃ I2 L2, u = (ad, ns, I2, L2, G) ∧ INV I2 ∧ Kp [(111, 119)] [(110, 0), (110, 1), (110, 2), (110, 3), (110, 4), (110, 5), (110, 6), (110, 7), (110, 8), (110, 9)] I I2) (BM D A) A) 0 0 A := by
  refine m_ofW (by decide) (Nat.le_of_ble_eq_true rfl) ?_
  intro p e s m below meth c ls args hC hE hM hA hS hl
  obtain ⟨hx, hb, hml, hown, hts, hr, hlocks, hin⟩ := hC
  have k0 : (0 : Int32).toInt = 0 := by decide
  have k56 : (56 : Int32).toInt = 56 := by decide
  have k240 : (240 : Int32).toInt = 240 := by decide
  have k288 : (288 : Int32).toInt = 288 := by decide
  have k576 : (576 : Int32).toInt = 576 := by decide
  have hK : Kp [(111, 119)] [(110, 0), (110, 1), (110, 2), (110, 3), (110, 4), (110, 5), (110, 6), (110, 7), (110, 8), (110, 9)] I I := Kp.rf
  have hl : lv_has ls 2 [(0, .ref (ad (110))), (1, .ref (ad (100)))] := hl
  refine lv_aload_n hx hb dX8_copyFrom_0 rfl (lv_at hl 0 rfl) ?_
  refine lv_aload_n hx hb dX8_copyFrom_1 rfl (lv_at hl 1 rfl) ?_
  refine m_geti (100) 0 hx hb hts hown hE oc8 hM (hG.1 100 (by decide)) rfl (by decide) rfl tb_34 dX8_copyFrom_2 ?_
  have g1 := hI.get (100) 0 (lo := 0) (hi := 24) rfl
  refine m_puti (110) 0 hx hb hts hown hE oc8 hM hS (hG.1 110 (by decide)) rfl (by decide) rfl rfl rfl rfl tb_34 dX8_copyFrom_5 (fun H locs I2 eI2 hM hS => ?_)
  subst eI2
  have hI := hI.put (n := 110) (k := 0) (v := I (100) 0) (lo := 0) (hi := 24) rfl (by first | omega | decide)
  have hK := hK.put (n := 110) (k := 0) (v := I (100) 0) (by first | rfl | simp [inR])
  refine lv_aload_n hx hb dX8_copyFrom_8 rfl (lv_at hl 0 rfl) ?_
  refine lv_aload_n hx hb dX8_copyFrom_9 rfl (lv_at hl 1 rfl) ?_
  refine m_geti (100) 1 hx hb hts hown hE oc8 hM (hG.1 100 (by decide)) rfl (by decide) rfl tb_37 dX8_copyFrom_10 ?_
  have g3 := hI.get (100) 1 (lo := 0) (hi := 24) rfl
  have z4 : (u2 I (110) 0 (I (100) 0)) (100) 1 = I (100) 1 := (show (u2 I (110) 0 (I (100) 0)) (100) 1 = I (100) 1 from by simp [u2_v])
  rw [z4] at g3 ⊢
  refine m_puti (110) 1 hx hb hts hown hE oc8 hM hS (hG.1 110 (by decide)) rfl (by decide) rfl rfl rfl rfl tb_37 dX8_copyFrom_13 (fun H locs I5 eI5 hM hS => ?_)
  subst eI5
  have hI := hI.put (n := 110) (k := 1) (v := I (100) 1) (lo := 0) (hi := 24) rfl (by first | omega | decide)
  have hK := hK.put (n := 110) (k := 1) (v := I (100) 1) (by first | rfl | simp [inR])
  refine lv_aload_n hx hb dX8_copyFrom_16 rfl (lv_at hl 0 rfl) ?_
  refine lv_aload_n hx hb dX8_copyFrom_17 rfl (lv_at hl 1 rfl) ?_
  refine m_geti (100) 2 hx hb hts hown hE oc8 hM (hG.1 100 (by decide)) rfl (by decide) rfl tb_41 dX8_copyFrom_18 ?_
  have g6 := hI.get (100) 2 (lo := 0) (hi := 23) rfl
  have z7 : (u2 (u2 I (110) 0 (I (100) 0)) (110) 1 (I (100) 1)) (100) 2 = I (100) 2 := (show (u2 (u2 I (110) 0 (I (100) 0)) (110) 1 (I (100) 1)) (100) 2 = I (100) 2 from by simp [u2_v])
  rw [z7] at g6 ⊢
  refine m_puti (110) 2 hx hb hts hown hE oc8 hM hS (hG.1 110 (by decide)) rfl (by decide) rfl rfl rfl rfl tb_41 dX8_copyFrom_21 (fun H locs I8 eI8 hM hS => ?_)
  subst eI8
  have hI := hI.put (n := 110) (k := 2) (v := I (100) 2) (lo := 0) (hi := 23) rfl (by first | omega | decide)
  have hK := hK.put (n := 110) (k := 2) (v := I (100) 2) (by first | rfl | simp [inR])
  refine lv_aload_n hx hb dX8_copyFrom_24 rfl (lv_at hl 0 rfl) ?_
  refine lv_aload_n hx hb dX8_copyFrom_25 rfl (lv_at hl 1 rfl) ?_
  refine m_geti (100) 3 hx hb hts hown hE oc8 hM (hG.1 100 (by decide)) rfl (by decide) rfl tb_45 dX8_copyFrom_26 ?_
  have g9 := hI.get (100) 3 (lo := 0) (hi := 23) rfl
  have z10 : (u2 (u2 (u2 I (110) 0 (I (100) 0)) (110) 1 (I (100) 1)) (110) 2 (I (100) 2)) (100) 3 = I (100) 3 := (show (u2 (u2 (u2 I (110) 0 (I (100) 0)) (110) 1 (I (100) 1)) (110) 2 (I (100) 2)) (100) 3 = I (100) 3 from by simp [u2_v])
  rw [z10] at g9 ⊢
  refine m_puti (110) 3 hx hb hts hown hE oc8 hM hS (hG.1 110 (by decide)) rfl (by decide) rfl rfl rfl rfl tb_45 dX8_copyFrom_29 (fun H locs I11 eI11 hM hS => ?_)
  subst eI11
  have hI := hI.put (n := 110) (k := 3) (v := I (100) 3) (lo := 0) (hi := 23) rfl (by first | omega | decide)
  have hK := hK.put (n := 110) (k := 3) (v := I (100) 3) (by first | rfl | simp [inR])
  refine lv_aload_n hx hb dX8_copyFrom_32 rfl (lv_at hl 0 rfl) ?_
  refine lv_aload_n hx hb dX8_copyFrom_33 rfl (lv_at hl 1 rfl) ?_
  refine m_geti (100) 4 hx hb hts hown hE oc8 hM (hG.1 100 (by decide)) rfl (by decide) rfl tb_48 dX8_copyFrom_34 ?_
  have z12 : (u2 (u2 (u2 (u2 I (110) 0 (I (100) 0)) (110) 1 (I (100) 1)) (110) 2 (I (100) 2)) (110) 3 (I (100) 3)) (100) 4 = I (100) 4 := (show (u2 (u2 (u2 (u2 I (110) 0 (I (100) 0)) (110) 1 (I (100) 1)) (110) 2 (I (100) 2)) (110) 3 (I (100) 3)) (100) 4 = I (100) 4 from by simp [u2_v])
  rw [z12]
  refine m_puti (110) 4 hx hb hts hown hE oc8 hM hS (hG.1 110 (by decide)) rfl (by decide) rfl rfl rfl rfl tb_48 dX8_copyFrom_37 (fun H locs I13 eI13 hM hS => ?_)
  subst eI13
  have hI := hI.putF (n := 110) (k := 4) (v := I (100) 4) rfl
  have hK := hK.put (n := 110) (k := 4) (v := I (100) 4) (by first | rfl | simp [inR])
  refine lv_aload_n hx hb dX8_copyFrom_40 rfl (lv_at hl 0 rfl) ?_
  refine lv_aload_n hx hb dX8_copyFrom_41 rfl (lv_at hl 1 rfl) ?_
  refine m_geti (100) 5 hx hb hts hown hE oc8 hM (hG.1 100 (by decide)) rfl (by decide) rfl tb_51 dX8_copyFrom_42 ?_
  have g14 := hI.get (100) 5 (lo := 0) (hi := 11) rfl
  have z15 : (u2 (u2 (u2 (u2 (u2 I (110) 0 (I (100) 0)) (110) 1 (I (100) 1)) (110) 2 (I (100) 2)) (110) 3 (I (100) 3)) (110) 4 (I (100) 4)) (100) 5 = I (100) 5 := (show (u2 (u2 (u2 (u2 (u2 I (110) 0 (I (100) 0)) (110) 1 (I (100) 1)) (110) 2 (I (100) 2)) (110) 3 (I (100) 3)) (110) 4 (I (100) 4)) (100) 5 = I (100) 5 from by simp [u2_v])
  rw [z15] at g14 ⊢
  refine m_puti (110) 5 hx hb hts hown hE oc8 hM hS (hG.1 110 (by decide)) rfl (by decide) rfl rfl rfl rfl tb_51 dX8_copyFrom_45 (fun H locs I16 eI16 hM hS => ?_)
  subst eI16
  have hI := hI.put (n := 110) (k := 5) (v := I (100) 5) (lo := 0) (hi := 11) rfl (by first | omega | decide)
  have hK := hK.put (n := 110) (k := 5) (v := I (100) 5) (by first | rfl | simp [inR])
  refine lv_aload_n hx hb dX8_copyFrom_48 rfl (lv_at hl 0 rfl) ?_
  refine lv_aload_n hx hb dX8_copyFrom_49 rfl (lv_at hl 1 rfl) ?_
  refine m_geti (100) 6 hx hb hts hown hE oc8 hM (hG.1 100 (by decide)) rfl (by decide) rfl tb_54 dX8_copyFrom_50 ?_
  have z17 : (u2 (u2 (u2 (u2 (u2 (u2 I (110) 0 (I (100) 0)) (110) 1 (I (100) 1)) (110) 2 (I (100) 2)) (110) 3 (I (100) 3)) (110) 4 (I (100) 4)) (110) 5 (I (100) 5)) (100) 6 = I (100) 6 := (show (u2 (u2 (u2 (u2 (u2 (u2 I (110) 0 (I (100) 0)) (110) 1 (I (100) 1)) (110) 2 (I (100) 2)) (110) 3 (I (100) 3)) (110) 4 (I (100) 4)) (110) 5 (I (100) 5)) (100) 6 = I (100) 6 from by simp [u2_v])
  rw [z17]
  refine m_puti (110) 6 hx hb hts hown hE oc8 hM hS (hG.1 110 (by decide)) rfl (by decide) rfl rfl rfl rfl tb_54 dX8_copyFrom_53 (fun H locs I18 eI18 hM hS => ?_)
  subst eI18
  have hI := hI.putF (n := 110) (k := 6) (v := I (100) 6) rfl
  have hK := hK.put (n := 110) (k := 6) (v := I (100) 6) (by first | rfl | simp [inR])
  refine lv_aload_n hx hb dX8_copyFrom_56 rfl (lv_at hl 0 rfl) ?_
  refine lv_aload_n hx hb dX8_copyFrom_57 rfl (lv_at hl 1 rfl) ?_
  refine m_geti (100) 7 hx hb hts hown hE oc8 hM (hG.1 100 (by decide)) rfl (by decide) rfl tb_57 dX8_copyFrom_58 ?_
  have z19 : (u2 (u2 (u2 (u2 (u2 (u2 (u2 I (110) 0 (I (100) 0)) (110) 1 (I (100) 1)) (110) 2 (I (100) 2)) (110) 3 (I (100) 3)) (110) 4 (I (100) 4)) (110) 5 (I (100) 5)) (110) 6 (I (100) 6)) (100) 7 = I (100) 7 := (show (u2 (u2 (u2 (u2 (u2 (u2 (u2 I (110) 0 (I (100) 0)) (110) 1 (I (100) 1)) (110) 2 (I (100) 2)) (110) 3 (I (100) 3)) (110) 4 (I (100) 4)) (110) 5 (I (100) 5)) (110) 6 (I (100) 6)) (100) 7 = I (100) 7 from by simp [u2_v])
  rw [z19]
  refine m_puti (110) 7 hx hb hts hown hE oc8 hM hS (hG.1 110 (by decide)) rfl (by decide) rfl rfl rfl rfl tb_57 dX8_copyFrom_61 (fun H locs I20 eI20 hM hS => ?_)
  subst eI20
  have hI := hI.putF (n := 110) (k := 7) (v := I (100) 7) rfl
  have hK := hK.put (n := 110) (k := 7) (v := I (100) 7) (by first | rfl | simp [inR])
  refine lv_aload_n hx hb dX8_copyFrom_64 rfl (lv_at hl 0 rfl) ?_
  refine lv_aload_n hx hb dX8_copyFrom_65 rfl (lv_at hl 1 rfl) ?_
  refine m_geti (100) 8 hx hb hts hown hE oc8 hM (hG.1 100 (by decide)) rfl (by decide) rfl tb_59 dX8_copyFrom_66 ?_
  have g21 := hI.get (100) 8 (lo := 0) (hi := 24) rfl
  have z22 : (u2 (u2 (u2 (u2 (u2 (u2 (u2 (u2 I (110) 0 (I (100) 0)) (110) 1 (I (100) 1)) (110) 2 (I (100) 2)) (110) 3 (I (100) 3)) (110) 4 (I (100) 4)) (110) 5 (I (100) 5)) (110) 6 (I (100) 6)) (110) 7 (I (100) 7)) (100) 8 = I (100) 8 := (show (u2 (u2 (u2 (u2 (u2 (u2 (u2 (u2 I (110) 0 (I (100) 0)) (110) 1 (I (100) 1)) (110) 2 (I (100) 2)) (110) 3 (I (100) 3)) (110) 4 (I (100) 4)) (110) 5 (I (100) 5)) (110) 6 (I (100) 6)) (110) 7 (I (100) 7)) (100) 8 = I (100) 8 from by simp [u2_v])
  rw [z22] at g21 ⊢
  refine m_puti (110) 8 hx hb hts hown hE oc8 hM hS (hG.1 110 (by decide)) rfl (by decide) rfl rfl rfl rfl tb_59 dX8_copyFrom_69 (fun H locs I23 eI23 hM hS => ?_)
  subst eI23
  have hI := hI.put (n := 110) (k := 8) (v := I (100) 8) (lo := 0) (hi := 24) rfl (by first | omega | decide)
  have hK := hK.put (n := 110) (k := 8) (v := I (100) 8) (by first | rfl | simp [inR])
  refine lv_aload_n hx hb dX8_copyFrom_72 rfl (lv_at hl 0 rfl) ?_
  refine lv_aload_n hx hb dX8_copyFrom_73 rfl (lv_at hl 1 rfl) ?_
  refine m_geti (100) 9 hx hb hts hown hE oc8 hM (hG.1 100 (by decide)) rfl (by decide) rfl tb_63 dX8_copyFrom_74 ?_
  have g24 := hI.get (100) 9 (lo := 0) (hi := 8) rfl
  have z25 : (u2 (u2 (u2 (u2 (u2 (u2 (u2 (u2 (u2 I (110) 0 (I (100) 0)) (110) 1 (I (100) 1)) (110) 2 (I (100) 2)) (110) 3 (I (100) 3)) (110) 4 (I (100) 4)) (110) 5 (I (100) 5)) (110) 6 (I (100) 6)) (110) 7 (I (100) 7)) (110) 8 (I (100) 8)) (100) 9 = I (100) 9 := (show (u2 (u2 (u2 (u2 (u2 (u2 (u2 (u2 (u2 I (110) 0 (I (100) 0)) (110) 1 (I (100) 1)) (110) 2 (I (100) 2)) (110) 3 (I (100) 3)) (110) 4 (I (100) 4)) (110) 5 (I (100) 5)) (110) 6 (I (100) 6)) (110) 7 (I (100) 7)) (110) 8 (I (100) 8)) (100) 9 = I (100) 9 from by simp [u2_v])
  rw [z25] at g24 ⊢
  refine m_puti (110) 9 hx hb hts hown hE oc8 hM hS (hG.1 110 (by decide)) rfl (by decide) rfl rfl rfl rfl tb_63 dX8_copyFrom_77 (fun H locs I26 eI26 hM hS => ?_)
  subst eI26
  have hI := hI.put (n := 110) (k := 9) (v := I (100) 9) (lo := 0) (hi := 8) rfl (by first | omega | decide)
  have hK := hK.put (n := 110) (k := 9) (v := I (100) 9) (by first | rfl | simp [inR])
  refine lv_aload_n hx hb dX8_copyFrom_80 rfl (lv_at hl 1 rfl) ?_
  refine m_getr (100) 10 (101) hx hb hts hown hE oc8 hM (hG.1 100 (by decide)) rfl (by decide) rfl (hG.2 (100, 10, 101) (by decide)) (by decide) tb_66 dX8_copyFrom_81 ?_
  refine lv_iconst (v := (0)) hx hb dX8_copyFrom_84 (by decide) ?_
  refine lv_aload_n hx hb dX8_copyFrom_85 rfl (lv_at hl 0 rfl) ?_
  refine m_getr (110) 10 (111) hx hb hts hown hE oc8 hM (hG.1 110 (by decide)) rfl (by decide) rfl (hG.2 (110, 10, 111) (by decide)) (by decide) tb_66 dX8_copyFrom_86 ?_
  refine lv_iconst (v := (0)) hx hb dX8_copyFrom_89 (by decide) ?_
  refine lv_sipush (v := (576)) hx hb dX8_copyFrom_90 (by decide) ?_
  refine m_copyi (101) (111) hx hb (hml.trans hl.1.symm) hown hE hM hS (hG.1 101 (by decide)) rfl (hG.1 111 (by decide)) rfl (hts _ tb_1151) (hts _ tb_568) (hts _ tb_567) (hts _ tb_13) ⟨⟨by decide, by decide, by decide⟩, by decide, by decide⟩ (Nat.le_of_ble_eq_true rfl) (Nat.le_of_ble_eq_true rfl) dX8_copyFrom_93 (fun H locs I27 eI27 hM hS => ?_)
  have hI : INV I27 := by rw [eI27]; exact hI.cpy (by intro i hi; left; rfl)
  have hK : Kp [(111, 119)] [(110, 0), (110, 1), (110, 2), (110, 3), (110, 4), (110, 5), (110, 6), (110, 7), (110, 8), (110, 9)] I I27 := by rw [eI27]; exact hK.cpy rfl
  refine lv_aload_n hx hb dX8_copyFrom_96 rfl (lv_at hl 1 rfl) ?_
  refine m_getr (100) 11 (102) hx hb hts hown hE oc8 hM (hG.1 100 (by decide)) rfl (by decide) rfl (hG.2 (100, 11, 102) (by decide)) (by decide) tb_68 dX8_copyFrom_97 ?_
  refine lv_iconst (v := (0)) hx hb dX8_copyFrom_100 (by decide) ?_
  refine lv_aload_n hx hb dX8_copyFrom_101 rfl (lv_at hl 0 rfl) ?_
  refine m_getr (110) 11 (112) hx hb hts hown hE oc8 hM (hG.1 110 (by decide)) rfl (by decide) rfl (hG.2 (110, 11, 112) (by decide)) (by decide) tb_68 dX8_copyFrom_102 ?_
  refine lv_iconst (v := (0)) hx hb dX8_copyFrom_105 (by decide) ?_
  refine lv_sipush (v := (576)) hx hb dX8_copyFrom_106 (by decide) ?_
  refine m_copyi (102) (112) hx hb (hml.trans hl.1.symm) hown hE hM hS (hG.1 102 (by decide)) rfl (hG.1 112 (by decide)) rfl (hts _ tb_1151) (hts _ tb_568) (hts _ tb_567) (hts _ tb_13) ⟨⟨by decide, by decide, by decide⟩, by decide, by decide⟩ (Nat.le_of_ble_eq_true rfl) (Nat.le_of_ble_eq_true rfl) dX8_copyFrom_109 (fun H locs I28 eI28 hM hS => ?_)
  have hI : INV I28 := by rw [eI28]; exact hI.cpy (by intro i hi; left; rfl)
  have hK : Kp [(111, 119)] [(110, 0), (110, 1), (110, 2), (110, 3), (110, 4), (110, 5), (110, 6), (110, 7), (110, 8), (110, 9)] I I28 := by rw [eI28]; exact hK.cpy rfl
  refine lv_aload_n hx hb dX8_copyFrom_112 rfl (lv_at hl 1 rfl) ?_
  refine m_getr (100) 12 (103) hx hb hts hown hE oc8 hM (hG.1 100 (by decide)) rfl (by decide) rfl (hG.2 (100, 12, 103) (by decide)) (by decide) tb_71 dX8_copyFrom_113 ?_
  refine lv_iconst (v := (0)) hx hb dX8_copyFrom_116 (by decide) ?_
  refine lv_aload_n hx hb dX8_copyFrom_117 rfl (lv_at hl 0 rfl) ?_
  refine m_getr (110) 12 (113) hx hb hts hown hE oc8 hM (hG.1 110 (by decide)) rfl (by decide) rfl (hG.2 (110, 12, 113) (by decide)) (by decide) tb_71 dX8_copyFrom_118 ?_
  refine lv_iconst (v := (0)) hx hb dX8_copyFrom_121 (by decide) ?_
  refine lv_sipush (v := (576)) hx hb dX8_copyFrom_122 (by decide) ?_
  refine m_copyi (103) (113) hx hb (hml.trans hl.1.symm) hown hE hM hS (hG.1 103 (by decide)) rfl (hG.1 113 (by decide)) rfl (hts _ tb_1151) (hts _ tb_568) (hts _ tb_567) (hts _ tb_13) ⟨⟨by decide, by decide, by decide⟩, by decide, by decide⟩ (Nat.le_of_ble_eq_true rfl) (Nat.le_of_ble_eq_true rfl) dX8_copyFrom_125 (fun H locs I29 eI29 hM hS => ?_)
  have hI : INV I29 := by rw [eI29]; exact hI.cpy (by intro i hi; left; rfl)
  have hK : Kp [(111, 119)] [(110, 0), (110, 1), (110, 2), (110, 3), (110, 4), (110, 5), (110, 6), (110, 7), (110, 8), (110, 9)] I I29 := by rw [eI29]; exact hK.cpy rfl
  refine lv_aload_n hx hb dX8_copyFrom_128 rfl (lv_at hl 1 rfl) ?_
  refine m_getr (100) 13 (104) hx hb hts hown hE oc8 hM (hG.1 100 (by decide)) rfl (by decide) rfl (hG.2 (100, 13, 104) (by decide)) (by decide) tb_75 dX8_copyFrom_129 ?_
  refine lv_iconst (v := (0)) hx hb dX8_copyFrom_132 (by decide) ?_
  refine lv_aload_n hx hb dX8_copyFrom_133 rfl (lv_at hl 0 rfl) ?_
  refine m_getr (110) 13 (114) hx hb hts hown hE oc8 hM (hG.1 110 (by decide)) rfl (by decide) rfl (hG.2 (110, 13, 114) (by decide)) (by decide) tb_75 dX8_copyFrom_134 ?_
  refine lv_iconst (v := (0)) hx hb dX8_copyFrom_137 (by decide) ?_
  refine lv_sipush (v := (576)) hx hb dX8_copyFrom_138 (by decide) ?_
  refine m_copyi (104) (114) hx hb (hml.trans hl.1.symm) hown hE hM hS (hG.1 104 (by decide)) rfl (hG.1 114 (by decide)) rfl (hts _ tb_1151) (hts _ tb_568) (hts _ tb_567) (hts _ tb_13) ⟨⟨by decide, by decide, by decide⟩, by decide, by decide⟩ (Nat.le_of_ble_eq_true rfl) (Nat.le_of_ble_eq_true rfl) dX8_copyFrom_141 (fun H locs I30 eI30 hM hS => ?_)
  have hI : INV I30 := by rw [eI30]; exact hI.cpy (by intro i hi; left; rfl)
  have hK : Kp [(111, 119)] [(110, 0), (110, 1), (110, 2), (110, 3), (110, 4), (110, 5), (110, 6), (110, 7), (110, 8), (110, 9)] I I30 := by rw [eI30]; exact hK.cpy rfl
  refine lv_aload_n hx hb dX8_copyFrom_144 rfl (lv_at hl 1 rfl) ?_
  refine m_getr (100) 14 (105) hx hb hts hown hE oc8 hM (hG.1 100 (by decide)) rfl (by decide) rfl (hG.2 (100, 14, 105) (by decide)) (by decide) tb_78 dX8_copyFrom_145 ?_
  refine lv_iconst (v := (0)) hx hb dX8_copyFrom_148 (by decide) ?_
  refine lv_aload_n hx hb dX8_copyFrom_149 rfl (lv_at hl 0 rfl) ?_
  refine m_getr (110) 14 (115) hx hb hts hown hE oc8 hM (hG.1 110 (by decide)) rfl (by decide) rfl (hG.2 (110, 14, 115) (by decide)) (by decide) tb_78 dX8_copyFrom_150 ?_
  refine lv_iconst (v := (0)) hx hb dX8_copyFrom_153 (by decide) ?_
  refine lv_sipush (v := (288)) hx hb dX8_copyFrom_154 (by decide) ?_
  refine m_copyi (105) (115) hx hb (hml.trans hl.1.symm) hown hE hM hS (hG.1 105 (by decide)) rfl (hG.1 115 (by decide)) rfl (hts _ tb_1151) (hts _ tb_568) (hts _ tb_567) (hts _ tb_13) ⟨⟨by decide, by decide, by decide⟩, by decide, by decide⟩ (Nat.le_of_ble_eq_true rfl) (Nat.le_of_ble_eq_true rfl) dX8_copyFrom_157 (fun H locs I31 eI31 hM hS => ?_)
  have hI : INV I31 := by rw [eI31]; exact hI.cpy (by intro i hi; left; rfl)
  have hK : Kp [(111, 119)] [(110, 0), (110, 1), (110, 2), (110, 3), (110, 4), (110, 5), (110, 6), (110, 7), (110, 8), (110, 9)] I I31 := by rw [eI31]; exact hK.cpy rfl
  refine lv_aload_n hx hb dX8_copyFrom_160 rfl (lv_at hl 1 rfl) ?_
  refine m_getr (100) 15 (106) hx hb hts hown hE oc8 hM (hG.1 100 (by decide)) rfl (by decide) rfl (hG.2 (100, 15, 106) (by decide)) (by decide) tb_80 dX8_copyFrom_161 ?_
  refine lv_iconst (v := (0)) hx hb dX8_copyFrom_164 (by decide) ?_
  refine lv_aload_n hx hb dX8_copyFrom_165 rfl (lv_at hl 0 rfl) ?_
  refine m_getr (110) 15 (116) hx hb hts hown hE oc8 hM (hG.1 110 (by decide)) rfl (by decide) rfl (hG.2 (110, 15, 116) (by decide)) (by decide) tb_80 dX8_copyFrom_166 ?_
  refine lv_iconst (v := (0)) hx hb dX8_copyFrom_169 (by decide) ?_
  refine lv_sipush (v := (288)) hx hb dX8_copyFrom_170 (by decide) ?_
  refine m_copyi (106) (116) hx hb (hml.trans hl.1.symm) hown hE hM hS (hG.1 106 (by decide)) rfl (hG.1 116 (by decide)) rfl (hts _ tb_1151) (hts _ tb_568) (hts _ tb_567) (hts _ tb_13) ⟨⟨by decide, by decide, by decide⟩, by decide, by decide⟩ (Nat.le_of_ble_eq_true rfl) (Nat.le_of_ble_eq_true rfl) dX8_copyFrom_173 (fun H locs I32 eI32 hM hS => ?_)
  have hI : INV I32 := by rw [eI32]; exact hI.cpy (by intro i hi; left; rfl)
  have hK : Kp [(111, 119)] [(110, 0), (110, 1), (110, 2), (110, 3), (110, 4), (110, 5), (110, 6), (110, 7), (110, 8), (110, 9)] I I32 := by rw [eI32]; exact hK.cpy rfl
  refine lv_aload_n hx hb dX8_copyFrom_176 rfl (lv_at hl 1 rfl) ?_
  refine m_getr (100) 16 (107) hx hb hts hown hE oc8 hM (hG.1 100 (by decide)) rfl (by decide) rfl (hG.2 (100, 16, 107) (by decide)) (by decide) tb_82 dX8_copyFrom_177 ?_
  refine lv_iconst (v := (0)) hx hb dX8_copyFrom_180 (by decide) ?_
  refine lv_aload_n hx hb dX8_copyFrom_181 rfl (lv_at hl 0 rfl) ?_
  refine m_getr (110) 16 (117) hx hb hts hown hE oc8 hM (hG.1 110 (by decide)) rfl (by decide) rfl (hG.2 (110, 16, 117) (by decide)) (by decide) tb_82 dX8_copyFrom_182 ?_
  refine lv_iconst (v := (0)) hx hb dX8_copyFrom_185 (by decide) ?_
  refine lv_sipush (v := (240)) hx hb dX8_copyFrom_186 (by decide) ?_
  refine m_copyi (107) (117) hx hb (hml.trans hl.1.symm) hown hE hM hS (hG.1 107 (by decide)) rfl (hG.1 117 (by decide)) rfl (hts _ tb_1151) (hts _ tb_568) (hts _ tb_567) (hts _ tb_13) ⟨⟨by decide, by decide, by decide⟩, by decide, by decide⟩ (Nat.le_of_ble_eq_true rfl) (Nat.le_of_ble_eq_true rfl) dX8_copyFrom_189 (fun H locs I33 eI33 hM hS => ?_)
  have hI : INV I33 := by rw [eI33]; exact hI.cpy (by intro i hi; left; rfl)
  have hK : Kp [(111, 119)] [(110, 0), (110, 1), (110, 2), (110, 3), (110, 4), (110, 5), (110, 6), (110, 7), (110, 8), (110, 9)] I I33 := by rw [eI33]; exact hK.cpy rfl
  refine lv_aload_n hx hb dX8_copyFrom_192 rfl (lv_at hl 1 rfl) ?_
  refine m_getr (100) 17 (108) hx hb hts hown hE oc8 hM (hG.1 100 (by decide)) rfl (by decide) rfl (hG.2 (100, 17, 108) (by decide)) (by decide) tb_83 dX8_copyFrom_193 ?_
  refine lv_iconst (v := (0)) hx hb dX8_copyFrom_196 (by decide) ?_
  refine lv_aload_n hx hb dX8_copyFrom_197 rfl (lv_at hl 0 rfl) ?_
  refine m_getr (110) 17 (118) hx hb hts hown hE oc8 hM (hG.1 110 (by decide)) rfl (by decide) rfl (hG.2 (110, 17, 118) (by decide)) (by decide) tb_83 dX8_copyFrom_198 ?_
  refine lv_iconst (v := (0)) hx hb dX8_copyFrom_201 (by decide) ?_
  refine lv_bipush (v := (56)) hx hb dX8_copyFrom_202 (by decide) ?_
  refine m_copyi (108) (118) hx hb (hml.trans hl.1.symm) hown hE hM hS (hG.1 108 (by decide)) rfl (hG.1 118 (by decide)) rfl (hts _ tb_1151) (hts _ tb_568) (hts _ tb_567) (hts _ tb_13) ⟨⟨by decide, by decide, by decide⟩, by decide, by decide⟩ (Nat.le_of_ble_eq_true rfl) (Nat.le_of_ble_eq_true rfl) dX8_copyFrom_204 (fun H locs I34 eI34 hM hS => ?_)
  have hI : INV I34 := by rw [eI34]; exact hI.cpy (by intro i hi; left; rfl)
  have hK : Kp [(111, 119)] [(110, 0), (110, 1), (110, 2), (110, 3), (110, 4), (110, 5), (110, 6), (110, 7), (110, 8), (110, 9)] I I34 := by rw [eI34]; exact hK.cpy rfl
  exact m_vret hx hb hr hlocks hM hS (Nat.le_of_ble_eq_true rfl) (Nat.le_of_ble_eq_true rfl) ⟨_, _, rfl, hI, hK⟩ dX8_copyFrom_207
theorem dX9_rock_0 : decode cX9_rock 0 = .ok (.aload_n 0, 1) := by decide +kernel
theorem dX9_rock_1 : decode cX9_rock 1 = .ok (.getfield 10, 3) := by decide +kernel
theorem dX9_rock_4 : decode cX9_rock 4 = .ok (.iload_n 1, 1) := by decide +kernel
theorem dX9_rock_5 : decode cX9_rock 5 = .ok (.iload_n 2, 1) := by decide +kernel
theorem dX9_rock_6 : decode cX9_rock 6 = .ok (.iload_n 3, 1) := by decide +kernel
theorem dX9_rock_7 : decode cX9_rock 7 = .ok (.iload 4, 2) := by decide +kernel
theorem dX9_rock_9 : decode cX9_rock 9 = .ok (.invokevirtual 103, 3) := by decide +kernel
theorem dX9_rock_12 : decode cX9_rock 12 = .ok (.ifCond .ne 5, 3) := by decide +kernel
theorem dX9_rock_15 : decode cX9_rock 15 = .ok (.iconst (-1), 1) := by decide +kernel
theorem dX9_rock_16 : decode cX9_rock 16 = .ok (.ireturn, 1) := by decide +kernel
theorem dX9_rock_17 : decode cX9_rock 17 = .ok (.aload_n 0, 1) := by decide +kernel
theorem dX9_rock_18 : decode cX9_rock 18 = .ok (.getfield 10, 3) := by decide +kernel
theorem dX9_rock_21 : decode cX9_rock 21 = .ok (.iload_n 1, 1) := by decide +kernel
theorem dX9_rock_22 : decode cX9_rock 22 = .ok (.iload_n 2, 1) := by decide +kernel
theorem dX9_rock_23 : decode cX9_rock 23 = .ok (.iload_n 3, 1) := by decide +kernel
theorem dX9_rock_24 : decode cX9_rock 24 = .ok (.iload 4, 2) := by decide +kernel
theorem dX9_rock_26 : decode cX9_rock 26 = .ok (.iload 5, 2) := by decide +kernel
theorem dX9_rock_28 : decode cX9_rock 28 = .ok (.ifCond .eq 7, 3) := by decide +kernel
theorem dX9_rock_31 : decode cX9_rock 31 = .ok (.iconst 1, 1) := by decide +kernel
theorem dX9_rock_32 : decode cX9_rock 32 = .ok (.goto 4, 3) := by decide +kernel
theorem dX9_rock_35 : decode cX9_rock 35 = .ok (.iconst 0, 1) := by decide +kernel
theorem dX9_rock_36 : decode cX9_rock 36 = .ok (.invokevirtual 107, 3) := by decide +kernel
theorem dX9_rock_39 : decode cX9_rock 39 = .ok (.ireturn, 1) := by decide +kernel
theorem ce_X9_rock : CeV RX9 yX9_rock cX9_rock 6 (some .int) 5 := ⟨tb_462, tb_463, tb_1, tb_464, rfl, by decide, by decide, by decide +kernel⟩
theorem dX9_sun_0 : decode cX9_sun 0 = .ok (.aload_n 0, 1) := by decide +kernel
theorem dX9_sun_1 : decode cX9_sun 1 = .ok (.getfield 10, 3) := by decide +kernel
theorem dX9_sun_4 : decode cX9_sun 4 = .ok (.invokevirtual 111, 3) := by decide +kernel
theorem dX9_sun_7 : decode cX9_sun 7 = .ok (.ifCond .eq 23, 3) := by decide +kernel
theorem dX9_sun_10 : decode cX9_sun 10 = .ok (.iload_n 1, 1) := by decide +kernel
theorem dX9_sun_11 : decode cX9_sun 11 = .ok (.iconst 0, 1) := by decide +kernel
theorem dX9_sun_12 : decode cX9_sun 12 = .ok (.bipush 11, 2) := by decide +kernel
theorem dX9_sun_14 : decode cX9_sun 14 = .ok (.invokestatic 95, 3) := by decide +kernel
theorem dX9_sun_17 : decode cX9_sun 17 = .ok (.ifCond .eq 13, 3) := by decide +kernel
theorem dX9_sun_20 : decode cX9_sun 20 = .ok (.iload_n 2, 1) := by decide +kernel
theorem dX9_sun_21 : decode cX9_sun 21 = .ok (.iconst 0, 1) := by decide +kernel
theorem dX9_sun_22 : decode cX9_sun 22 = .ok (.bipush 23, 2) := by decide +kernel
theorem dX9_sun_24 : decode cX9_sun 24 = .ok (.invokestatic 95, 3) := by decide +kernel
theorem dX9_sun_27 : decode cX9_sun 27 = .ok (.ifCond .ne 5, 3) := by decide +kernel
theorem dX9_sun_30 : decode cX9_sun 30 = .ok (.iconst 0, 1) := by decide +kernel
theorem dX9_sun_31 : decode cX9_sun 31 = .ok (.ireturn, 1) := by decide +kernel
theorem dX9_sun_32 : decode cX9_sun 32 = .ok (.iload_n 3, 1) := by decide +kernel
theorem dX9_sun_33 : decode cX9_sun 33 = .ok (.iconst (-1), 1) := by decide +kernel
theorem dX9_sun_34 : decode cX9_sun 34 = .ok (.if_icmp .ne 12, 3) := by decide +kernel
theorem dX9_sun_37 : decode cX9_sun 37 = .ok (.iload 4, 2) := by decide +kernel
theorem dX9_sun_39 : decode cX9_sun 39 = .ok (.ifCond .ne 7, 3) := by decide +kernel
theorem dX9_sun_42 : decode cX9_sun 42 = .ok (.iconst 1, 1) := by decide +kernel
theorem dX9_sun_43 : decode cX9_sun 43 = .ok (.goto 4, 3) := by decide +kernel
theorem dX9_sun_46 : decode cX9_sun 46 = .ok (.iconst 0, 1) := by decide +kernel
theorem dX9_sun_47 : decode cX9_sun 47 = .ok (.istore 5, 2) := by decide +kernel
theorem dX9_sun_49 : decode cX9_sun 49 = .ok (.iload 5, 2) := by decide +kernel
theorem dX9_sun_51 : decode cX9_sun 51 = .ok (.ifCond .ne 26, 3) := by decide +kernel
theorem dX9_sun_54 : decode cX9_sun 54 = .ok (.iload_n 3, 1) := by decide +kernel
theorem dX9_sun_55 : decode cX9_sun 55 = .ok (.iconst 0, 1) := by decide +kernel
theorem dX9_sun_56 : decode cX9_sun 56 = .ok (.bipush 7, 2) := by decide +kernel
theorem dX9_sun_58 : decode cX9_sun 58 = .ok (.invokestatic 95, 3) := by decide +kernel
theorem dX9_sun_61 : decode cX9_sun 61 = .ok (.ifCond .eq 14, 3) := by decide +kernel
theorem dX9_sun_64 : decode cX9_sun 64 = .ok (.iload 4, 2) := by decide +kernel
theorem dX9_sun_66 : decode cX9_sun 66 = .ok (.iconst 0, 1) := by decide +kernel
theorem dX9_sun_67 : decode cX9_sun 67 = .ok (.ldc 115, 2) := by decide +kernel
theorem dX9_sun_69 : decode cX9_sun 69 = .ok (.invokestatic 95, 3) := by decide +kernel
theorem dX9_sun_72 : decode cX9_sun 72 = .ok (.ifCond .ne 5, 3) := by decide +kernel
theorem dX9_sun_75 : decode cX9_sun 75 = .ok (.iconst 0, 1) := by decide +kernel
theorem dX9_sun_76 : decode cX9_sun 76 = .ok (.ireturn, 1) := by decide +kernel
theorem dX9_sun_77 : decode cX9_sun 77 = .ok (.aload_n 0, 1) := by decide +kernel
theorem dX9_sun_78 : decode cX9_sun 78 = .ok (.getfield 10, 3) := by decide +kernel
theorem dX9_sun_81 : decode cX9_sun 81 = .ok (.getfield 116, 3) := by decide +kernel
theorem dX9_sun_84 : decode cX9_sun 84 = .ok (.iload_n 1, 1) := by decide +kernel
theorem dX9_sun_85 : decode cX9_sun 85 = .ok (.bipush 24, 2) := by decide +kernel
theorem dX9_sun_87 : decode cX9_sun 87 = .ok (.imul, 1) := by decide +kernel
theorem dX9_sun_88 : decode cX9_sun 88 = .ok (.iload_n 2, 1) := by decide +kernel
theorem dX9_sun_89 : decode cX9_sun 89 = .ok (.iadd, 1) := by decide +kernel
theorem dX9_sun_90 : decode cX9_sun 90 = .ok (.iload_n 3, 1) := by decide +kernel
theorem dX9_sun_91 : decode cX9_sun 91 = .ok (.iastore, 1) := by decide +kernel
theorem dX9_sun_92 : decode cX9_sun 92 = .ok (.aload_n 0, 1) := by decide +kernel
theorem dX9_sun_93 : decode cX9_sun 93 = .ok (.getfield 10, 3) := by decide +kernel
theorem dX9_sun_96 : decode cX9_sun 96 = .ok (.getfield 119, 3) := by decide +kernel
theorem dX9_sun_99 : decode cX9_sun 99 = .ok (.iload_n 1, 1) := by decide +kernel
theorem dX9_sun_100 : decode cX9_sun 100 = .ok (.bipush 24, 2) := by decide +kernel
theorem dX9_sun_102 : decode cX9_sun 102 = .ok (.imul, 1) := by decide +kernel
theorem dX9_sun_103 : decode cX9_sun 103 = .ok (.iload_n 2, 1) := by decide +kernel
theorem dX9_sun_104 : decode cX9_sun 104 = .ok (.iadd, 1) := by decide +kernel
theorem dX9_sun_105 : decode cX9_sun 105 = .ok (.iload 4, 2) := by decide +kernel
theorem dX9_sun_107 : decode cX9_sun 107 = .ok (.iastore, 1) := by decide +kernel
theorem dX9_sun_108 : decode cX9_sun 108 = .ok (.iconst 1, 1) := by decide +kernel
theorem dX9_sun_109 : decode cX9_sun 109 = .ok (.ireturn, 1) := by decide +kernel
theorem ce_X9_sun : CeV RX9 yX9_sun cX9_sun 6 (some .boolean) 4 := ⟨tb_481, tb_482, tb_1, tb_483, rfl, by decide, by decide, by decide +kernel⟩
theorem dX9_mirror_0 : decode cX9_mirror 0 = .ok (.aload_n 0, 1) := by decide +kernel
theorem dX9_mirror_1 : decode cX9_mirror 1 = .ok (.getfield 10, 3) := by decide +kernel
theorem dX9_mirror_4 : decode cX9_mirror 4 = .ok (.iload_n 1, 1) := by decide +kernel
theorem dX9_mirror_5 : decode cX9_mirror 5 = .ok (.iload_n 2, 1) := by decide +kernel
theorem dX9_mirror_6 : decode cX9_mirror 6 = .ok (.invokevirtual 122, 3) := by decide +kernel
theorem dX9_mirror_9 : decode cX9_mirror 9 = .ok (.ifCond .eq 32, 3) := by decide +kernel
theorem dX9_mirror_12 : decode cX9_mirror 12 = .ok (.aload_n 0, 1) := by decide +kernel
theorem dX9_mirror_13 : decode cX9_mirror 13 = .ok (.getfield 10, 3) := by decide +kernel
theorem dX9_mirror_16 : decode cX9_mirror 16 = .ok (.getfield 126, 3) := by decide +kernel
theorem dX9_mirror_19 : decode cX9_mirror 19 = .ok (.iload_n 1, 1) := by decide +kernel
theorem dX9_mirror_20 : decode cX9_mirror 20 = .ok (.iload_n 2, 1) := by decide +kernel
theorem dX9_mirror_21 : decode cX9_mirror 21 = .ok (.invokestatic 129, 3) := by decide +kernel
theorem dX9_mirror_24 : decode cX9_mirror 24 = .ok (.iaload, 1) := by decide +kernel
theorem dX9_mirror_25 : decode cX9_mirror 25 = .ok (.iconst (-1), 1) := by decide +kernel
theorem dX9_mirror_26 : decode cX9_mirror 26 = .ok (.if_icmp .ne 15, 3) := by decide +kernel
theorem dX9_mirror_29 : decode cX9_mirror 29 = .ok (.aload_n 0, 1) := by decide +kernel
theorem dX9_mirror_30 : decode cX9_mirror 30 = .ok (.getfield 10, 3) := by decide +kernel
theorem dX9_mirror_33 : decode cX9_mirror 33 = .ok (.getfield 133, 3) := by decide +kernel
theorem dX9_mirror_36 : decode cX9_mirror 36 = .ok (.bipush 24, 2) := by decide +kernel
theorem dX9_mirror_38 : decode cX9_mirror 38 = .ok (.if_icmp .lt 5, 3) := by decide +kernel
theorem dX9_mirror_41 : decode cX9_mirror 41 = .ok (.iconst (-1), 1) := by decide +kernel
theorem dX9_mirror_42 : decode cX9_mirror 42 = .ok (.ireturn, 1) := by decide +kernel
theorem dX9_mirror_43 : decode cX9_mirror 43 = .ok (.iload_n 3, 1) := by decide +kernel
theorem dX9_mirror_44 : decode cX9_mirror 44 = .ok (.iconst 0, 1) := by decide +kernel
theorem dX9_mirror_45 : decode cX9_mirror 45 = .ok (.bipush 7, 2) := by decide +kernel
theorem dX9_mirror_47 : decode cX9_mirror 47 = .ok (.invokestatic 95, 3) := by decide +kernel
theorem dX9_mirror_50 : decode cX9_mirror 50 = .ok (.ifCond .eq 48, 3) := by decide +kernel
theorem dX9_mirror_53 : decode cX9_mirror 53 = .ok (.iload 4, 2) := by decide +kernel
theorem dX9_mirror_55 : decode cX9_mirror 55 = .ok (.iconst 0, 1) := by decide +kernel
theorem dX9_mirror_56 : decode cX9_mirror 56 = .ok (.sipush 1000, 3) := by decide +kernel
theorem dX9_mirror_59 : decode cX9_mirror 59 = .ok (.invokestatic 95, 3) := by decide +kernel
theorem dX9_mirror_62 : decode cX9_mirror 62 = .ok (.ifCond .eq 36, 3) := by decide +kernel
theorem dX9_mirror_65 : decode cX9_mirror 65 = .ok (.iload 5, 2) := by decide +kernel
theorem dX9_mirror_67 : decode cX9_mirror 67 = .ok (.iconst 0, 1) := by decide +kernel
theorem dX9_mirror_68 : decode cX9_mirror 68 = .ok (.sipush 1000, 3) := by decide +kernel
theorem dX9_mirror_71 : decode cX9_mirror 71 = .ok (.invokestatic 95, 3) := by decide +kernel
theorem dX9_mirror_74 : decode cX9_mirror 74 = .ok (.ifCond .eq 24, 3) := by decide +kernel
theorem dX9_mirror_77 : decode cX9_mirror 77 = .ok (.iload 6, 2) := by decide +kernel
theorem dX9_mirror_79 : decode cX9_mirror 79 = .ok (.iconst 0, 1) := by decide +kernel
theorem dX9_mirror_80 : decode cX9_mirror 80 = .ok (.iconst 4, 1) := by decide +kernel
theorem dX9_mirror_81 : decode cX9_mirror 81 = .ok (.invokestatic 95, 3) := by decide +kernel
theorem dX9_mirror_84 : decode cX9_mirror 84 = .ok (.ifCond .eq 14, 3) := by decide +kernel
theorem dX9_mirror_87 : decode cX9_mirror 87 = .ok (.iload 7, 2) := by decide +kernel
theorem dX9_mirror_89 : decode cX9_mirror 89 = .ok (.iconst 0, 1) := by decide +kernel
theorem dX9_mirror_90 : decode cX9_mirror 90 = .ok (.bipush 9, 2) := by decide +kernel
theorem dX9_mirror_92 : decode cX9_mirror 92 = .ok (.invokestatic 95, 3) := by decide +kernel
theorem dX9_mirror_95 : decode cX9_mirror 95 = .ok (.ifCond .ne 5, 3) := by decide +kernel
theorem dX9_mirror_98 : decode cX9_mirror 98 = .ok (.iconst (-1), 1) := by decide +kernel
theorem dX9_mirror_99 : decode cX9_mirror 99 = .ok (.ireturn, 1) := by decide +kernel
theorem dX9_mirror_100 : decode cX9_mirror 100 = .ok (.aload_n 0, 1) := by decide +kernel
theorem dX9_mirror_101 : decode cX9_mirror 101 = .ok (.getfield 10, 3) := by decide +kernel
theorem dX9_mirror_104 : decode cX9_mirror 104 = .ok (.iload_n 1, 1) := by decide +kernel
theorem dX9_mirror_105 : decode cX9_mirror 105 = .ok (.iload_n 2, 1) := by decide +kernel
theorem dX9_mirror_106 : decode cX9_mirror 106 = .ok (.invokevirtual 137, 3) := by decide +kernel
theorem dX9_mirror_109 : decode cX9_mirror 109 = .ok (.istore 8, 2) := by decide +kernel
theorem dX9_mirror_111 : decode cX9_mirror 111 = .ok (.aload_n 0, 1) := by decide +kernel
theorem dX9_mirror_112 : decode cX9_mirror 112 = .ok (.getfield 10, 3) := by decide +kernel
theorem dX9_mirror_115 : decode cX9_mirror 115 = .ok (.iload 8, 2) := by decide +kernel
theorem dX9_mirror_117 : decode cX9_mirror 117 = .ok (.iconst 2, 1) := by decide +kernel
theorem dX9_mirror_118 : decode cX9_mirror 118 = .ok (.iload_n 3, 1) := by decide +kernel
theorem dX9_mirror_119 : decode cX9_mirror 119 = .ok (.invokevirtual 140, 3) := by decide +kernel
theorem dX9_mirror_122 : decode cX9_mirror 122 = .ok (.aload_n 0, 1) := by decide +kernel
theorem dX9_mirror_123 : decode cX9_mirror 123 = .ok (.getfield 10, 3) := by decide +kernel
theorem dX9_mirror_126 : decode cX9_mirror 126 = .ok (.iload 8, 2) := by decide +kernel
theorem dX9_mirror_128 : decode cX9_mirror 128 = .ok (.iconst 3, 1) := by decide +kernel
theorem dX9_mirror_129 : decode cX9_mirror 129 = .ok (.iload 4, 2) := by decide +kernel
theorem dX9_mirror_131 : decode cX9_mirror 131 = .ok (.invokevirtual 140, 3) := by decide +kernel
theorem dX9_mirror_134 : decode cX9_mirror 134 = .ok (.aload_n 0, 1) := by decide +kernel
theorem dX9_mirror_135 : decode cX9_mirror 135 = .ok (.getfield 10, 3) := by decide +kernel
theorem dX9_mirror_138 : decode cX9_mirror 138 = .ok (.iload 8, 2) := by decide +kernel
theorem dX9_mirror_140 : decode cX9_mirror 140 = .ok (.iconst 4, 1) := by decide +kernel
theorem dX9_mirror_141 : decode cX9_mirror 141 = .ok (.iload 5, 2) := by decide +kernel
theorem dX9_mirror_143 : decode cX9_mirror 143 = .ok (.invokevirtual 140, 3) := by decide +kernel
theorem dX9_mirror_146 : decode cX9_mirror 146 = .ok (.aload_n 0, 1) := by decide +kernel
theorem dX9_mirror_147 : decode cX9_mirror 147 = .ok (.getfield 10, 3) := by decide +kernel
theorem dX9_mirror_150 : decode cX9_mirror 150 = .ok (.iload 8, 2) := by decide +kernel
theorem dX9_mirror_152 : decode cX9_mirror 152 = .ok (.iconst 5, 1) := by decide +kernel
theorem dX9_mirror_153 : decode cX9_mirror 153 = .ok (.iload 6, 2) := by decide +kernel
theorem dX9_mirror_155 : decode cX9_mirror 155 = .ok (.invokevirtual 140, 3) := by decide +kernel
theorem dX9_mirror_158 : decode cX9_mirror 158 = .ok (.aload_n 0, 1) := by decide +kernel
theorem dX9_mirror_159 : decode cX9_mirror 159 = .ok (.getfield 10, 3) := by decide +kernel
theorem dX9_mirror_162 : decode cX9_mirror 162 = .ok (.iload 8, 2) := by decide +kernel
theorem dX9_mirror_164 : decode cX9_mirror 164 = .ok (.bipush 6, 2) := by decide +kernel
theorem dX9_mirror_166 : decode cX9_mirror 166 = .ok (.iload 7, 2) := by decide +kernel
theorem dX9_mirror_168 : decode cX9_mirror 168 = .ok (.invokevirtual 140, 3) := by decide +kernel
theorem dX9_mirror_171 : decode cX9_mirror 171 = .ok (.iload 8, 2) := by decide +kernel
theorem dX9_mirror_173 : decode cX9_mirror 173 = .ok (.ireturn, 1) := by decide +kernel
theorem ce_X9_mirror : CeV RX9 yX9_mirror cX9_mirror 9 (some .int) 7 := ⟨tb_490, tb_491, tb_1, tb_492, rfl, by decide, by decide, by decide +kernel⟩
theorem dX9_sets_0 : decode cX9_sets 0 = .ok (.aload_n 0, 1) := by decide +kernel
theorem dX9_sets_1 : decode cX9_sets 1 = .ok (.getfield 10, 3) := by decide +kernel
theorem dX9_sets_4 : decode cX9_sets 4 = .ok (.iload_n 1, 1) := by decide +kernel
theorem dX9_sets_5 : decode cX9_sets 5 = .ok (.invokevirtual 144, 3) := by decide +kernel
theorem dX9_sets_8 : decode cX9_sets 8 = .ok (.ifCond .ne 6, 3) := by decide +kernel
theorem dX9_sets_11 : decode cX9_sets 11 = .ok (.bipush (-2), 2) := by decide +kernel
theorem dX9_sets_13 : decode cX9_sets 13 = .ok (.ireturn, 1) := by decide +kernel
theorem dX9_sets_14 : decode cX9_sets 14 = .ok (.iload_n 2, 1) := by decide +kernel
theorem dX9_sets_15 : decode cX9_sets 15 = .ok (.tableswitch 92 0 3 #[29, 44, 61, 76], 29) := by decide +kernel
theorem dX9_sets_44 : decode cX9_sets 44 = .ok (.aload_n 0, 1) := by decide +kernel
theorem dX9_sets_45 : decode cX9_sets 45 = .ok (.iload_n 1, 1) := by decide +kernel
theorem dX9_sets_46 : decode cX9_sets 46 = .ok (.iconst 2, 1) := by decide +kernel
theorem dX9_sets_47 : decode cX9_sets 47 = .ok (.iload_n 3, 1) := by decide +kernel
theorem dX9_sets_48 : decode cX9_sets 48 = .ok (.iload_n 3, 1) := by decide +kernel
theorem dX9_sets_49 : decode cX9_sets 49 = .ok (.iconst 0, 1) := by decide +kernel
theorem dX9_sets_50 : decode cX9_sets 50 = .ok (.bipush 7, 2) := by decide +kernel
theorem dX9_sets_52 : decode cX9_sets 52 = .ok (.invokestatic 95, 3) := by decide +kernel
theorem dX9_sets_55 : decode cX9_sets 55 = .ok (.invokevirtual 148, 3) := by decide +kernel
theorem dX9_sets_58 : decode cX9_sets 58 = .ok (.ireturn, 1) := by decide +kernel
theorem dX9_sets_59 : decode cX9_sets 59 = .ok (.aload_n 0, 1) := by decide +kernel
theorem dX9_sets_60 : decode cX9_sets 60 = .ok (.iload_n 1, 1) := by decide +kernel
theorem dX9_sets_61 : decode cX9_sets 61 = .ok (.bipush 7, 2) := by decide +kernel
theorem dX9_sets_63 : decode cX9_sets 63 = .ok (.iload_n 3, 1) := by decide +kernel
theorem dX9_sets_64 : decode cX9_sets 64 = .ok (.iload_n 3, 1) := by decide +kernel
theorem dX9_sets_65 : decode cX9_sets 65 = .ok (.iconst 0, 1) := by decide +kernel
theorem dX9_sets_66 : decode cX9_sets 66 = .ok (.sipush 1000, 3) := by decide +kernel
theorem dX9_sets_69 : decode cX9_sets 69 = .ok (.invokestatic 95, 3) := by decide +kernel
theorem dX9_sets_72 : decode cX9_sets 72 = .ok (.invokevirtual 148, 3) := by decide +kernel
theorem dX9_sets_75 : decode cX9_sets 75 = .ok (.ireturn, 1) := by decide +kernel
theorem dX9_sets_76 : decode cX9_sets 76 = .ok (.aload_n 0, 1) := by decide +kernel
theorem dX9_sets_77 : decode cX9_sets 77 = .ok (.iload_n 1, 1) := by decide +kernel
theorem dX9_sets_78 : decode cX9_sets 78 = .ok (.bipush 8, 2) := by decide +kernel
theorem dX9_sets_80 : decode cX9_sets 80 = .ok (.iload_n 3, 1) := by decide +kernel
theorem dX9_sets_81 : decode cX9_sets 81 = .ok (.iload_n 3, 1) := by decide +kernel
theorem dX9_sets_82 : decode cX9_sets 82 = .ok (.iconst 0, 1) := by decide +kernel
theorem dX9_sets_83 : decode cX9_sets 83 = .ok (.iconst 1, 1) := by decide +kernel
theorem dX9_sets_84 : decode cX9_sets 84 = .ok (.invokestatic 95, 3) := by decide +kernel
theorem dX9_sets_87 : decode cX9_sets 87 = .ok (.invokevirtual 148, 3) := by decide +kernel
theorem dX9_sets_90 : decode cX9_sets 90 = .ok (.ireturn, 1) := by decide +kernel
theorem dX9_sets_91 : decode cX9_sets 91 = .ok (.aload_n 0, 1) := by decide +kernel
theorem dX9_sets_92 : decode cX9_sets 92 = .ok (.iload_n 1, 1) := by decide +kernel
theorem dX9_sets_93 : decode cX9_sets 93 = .ok (.bipush 9, 2) := by decide +kernel
theorem dX9_sets_95 : decode cX9_sets 95 = .ok (.iload_n 3, 1) := by decide +kernel
theorem dX9_sets_96 : decode cX9_sets 96 = .ok (.iload_n 3, 1) := by decide +kernel
theorem dX9_sets_97 : decode cX9_sets 97 = .ok (.iconst (-1), 1) := by decide +kernel
theorem dX9_sets_98 : decode cX9_sets 98 = .ok (.ldc 115, 2) := by decide +kernel
theorem dX9_sets_100 : decode cX9_sets 100 = .ok (.invokestatic 95, 3) := by decide +kernel
theorem dX9_sets_103 : decode cX9_sets 103 = .ok (.invokevirtual 148, 3) := by decide +kernel
theorem dX9_sets_106 : decode cX9_sets 106 = .ok (.ireturn, 1) := by decide +kernel
theorem dX9_sets_107 : decode cX9_sets 107 = .ok (.bipush (-2), 2) := by decide +kernel
theorem dX9_sets_109 : decode cX9_sets 109 = .ok (.ireturn, 1) := by decide +kernel
theorem ce_X9_sets : CeV RX9 yX9_sets cX9_sets 4 (some .int) 3 := ⟨tb_505, tb_506, tb_1, tb_507, rfl, by decide, by decide, by decide +kernel⟩
set_option maxHeartbeats 4000000 in
set_option maxRecDepth 20000 in
theorem V_X9_sets (l : Launch) (D : va_G) (A : Nat → Prop) (ad : Nat → Nat) (ns : List Nat) (I : MI) (L : ML) (G : MG) (a0 : Int32) (a1 : Int32) (a2 : Int32) (hG : SGC ns G) (hI : INV I) : Met l yX9_sets (wd yX9_sets cX9_sets 4 (some .int)) ({ frames := 2, cells := 0, slots := 0, locals := 48 }) (va_Pc [.ref (ad (0)), .int a0, .int a1, .int a2] (PM D A ad ns I L G)) (va_Qi (fun r u => ∃ I2 L2, u = (ad, ns, I2, L2, G) ∧ INV I2 ∧ Kp [(107, 108)] [] I I2) (BM D A) A) 0 0 A := by
  refine m_ofW (by decide) (Nat.le_of_ble_eq_true rfl) ?_
  intro p e s m below meth c ls args hC hE hM hA hS hl
  obtain ⟨hx, hb, hml, hown, hts, hr, hlocks, hin⟩ := hC
  have km2 : (-2 : Int32).toInt = -2 := by decide
  have km1 : (-1 : Int32).toInt = -1 := by decide
  have k0 : (0 : Int32).toInt = 0 := by decide
  have k1 : (1 : Int32).toInt = 1 := by decide
  have k2 : (2 : Int32).toInt = 2 := by decide
  have k7 : (7 : Int32).toInt = 7 := by decide
  have k8 : (8 : Int32).toInt = 8 := by decide
  have k9 : (9 : Int32).toInt = 9 := by decide
  have k1000 : (1000 : Int32).toInt = 1000 := by decide
  have k99999 : (99999 : Int32).toInt = 99999 := by decide
  have hK : Kp [(107, 108)] [] I I := Kp.rf
  have hl : lv_has ls 4 [(0, .ref (ad (0))), (1, .int (a0)), (2, .int (a1)), (3, .int (a2))] := hl
  refine lv_aload_n hx hb dX9_sets_0 rfl (lv_at hl 0 rfl) ?_
  refine m_getr (0) 0 (100) hx hb hts hown hE oc9 hM (hG.1 0 (by decide)) rfl (by decide) rfl (hG.2 (0, 0, 100) (by decide)) (by decide) tb_398 dX9_sets_1 ?_
  refine lv_iload_n hx hb dX9_sets_4 rfl (lv_at hl 1 rfl) ?_
  refine m_calli (m_runV (100) (As := [.int (a0)]) (rest := []) hx hb hml hown hts hE hM hS hA ce_X8_hasMirror tb_508 (V_X8_hasMirror_100 l D A ad ns I L G (a0) hG hI) rfl rfl ⟨Nat.le_of_ble_eq_true rfl, Nat.le_of_ble_eq_true rfl⟩ (hG.1 100 (by decide)) rfl rfl (by decide) rfl hl.1 rfl (Nat.le_of_ble_eq_true rfl) dX9_sets_5 ⟨Nat.le_of_ble_eq_true rfl, Nat.le_of_ble_eq_true rfl⟩) hS (fun r1 u H locs hw hM hS => ?_)
  obtain ⟨rfl, xr1⟩ := hw
  have hM : Mem D A ad ns I L G H := hM
  have yr1 := bo01 xr1
  have g2 := hI.get 100 8 (lo := 0) (hi := 24) rfl
  refine lv_if_ne (tgt := 14) hx hb dX9_sets_8 (by decide) (fun c3 => ?_) (fun c3 => ?_)
  · have hc3 := c3
    have q3 := xr1.t hc3
    refine lv_iload_n hx hb dX9_sets_14 rfl (lv_at hl 2 rfl) ?_
    by_cases c4 : (a1).toInt < 0 ∨ 3 < (a1).toInt
    · refine lv_tableOut (tgt := 107) hx hb dX9_sets_15 c4 (by decide) ?_
      refine lv_bipush (v := (-2)) hx hb dX9_sets_107 (by decide) ?_
      exact m_iret hx hb hr hlocks hM hS (Nat.le_of_ble_eq_true rfl) (Nat.le_of_ble_eq_true rfl) ⟨_, _, rfl, hI, hK⟩ dX9_sets_109
    · have qc4 : (a1).toInt = 0 ∨ (a1).toInt = 1 ∨ (a1).toInt = 2 ∨ (a1).toInt = 3 := by omega
      rcases qc4 with qc4 | qc4 | qc4 | qc4
      · refine lv_tableIn (off := 29) (tgt := 44) hx hb dX9_sets_15 (by omega) (by omega) (by rw [qc4]; rfl) (by decide) ?_
        refine lv_aload_n hx hb dX9_sets_44 rfl (lv_at hl 0 rfl) ?_
        refine lv_iload_n hx hb dX9_sets_45 rfl (lv_at hl 1 rfl) ?_
        refine lv_iconst (v := (2)) hx hb dX9_sets_46 (by decide) ?_
        refine lv_iload_n hx hb dX9_sets_47 rfl (lv_at hl 3 rfl) ?_
        refine lv_iload_n hx hb dX9_sets_48 rfl (lv_at hl 3 rfl) ?_
        refine lv_iconst (v := (0)) hx hb dX9_sets_49 (by decide) ?_
        refine lv_bipush (v := (7)) hx hb dX9_sets_50 (by decide) ?_
        refine m_calli (m_runS (As := [.int (a2), .int (0), .int (7)]) (rest := [.int (a2), .int (2), .int (a0), .ref (ad (0))]) hx hb hml hown hts hE hM hS hA ce_X9_isWithin tb_451 (V_X9_isWithin l D A ad ns I L G (a2) (0) (7) hI) rfl rfl ⟨Nat.le_of_ble_eq_true rfl, Nat.le_of_ble_eq_true rfl⟩  rfl hl.1 rfl (Nat.le_of_ble_eq_true rfl) dX9_sets_52 ⟨Nat.le_of_ble_eq_true rfl, Nat.le_of_ble_eq_true rfl⟩) hS (fun r5 u H locs hw hM hS => ?_)
        obtain ⟨rfl, xr5⟩ := hw
        have hM : Mem D A ad ns I L G H := hM
        have yr5 := bo01 xr5
        refine m_calli (m_runV (0) (As := [.int (a0), .int (2), .int (a2), .int (r5)]) (rest := []) hx hb hml hown hts hE hM hS hA ce_X9_changeMirror tb_512 (V_X9_changeMirror l D A ad ns I L G (a0) (2) (a2) (r5) hG hI (by first | omega | decide) (by first | omega | decide) (by first | omega | decide)) rfl rfl ⟨Nat.le_of_ble_eq_true rfl, Nat.le_of_ble_eq_true rfl⟩ (hG.1 0 (by decide)) rfl rfl (by decide) rfl hl.1 rfl (Nat.le_of_ble_eq_true rfl) dX9_sets_55 ⟨Nat.le_of_ble_eq_true rfl, Nat.le_of_ble_eq_true rfl⟩) hS (fun r6 u H locs hw hM hS => ?_)
        obtain ⟨I7, L8, rfl, hI, hkI7⟩ := hw
        have hM : Mem D A ad ns I7 L8 G H := hM
        have hK := hK.trans hkI7 rfl
        exact m_iret hx hb hr hlocks hM hS (Nat.le_of_ble_eq_true rfl) (Nat.le_of_ble_eq_true rfl) ⟨_, _, rfl, hI, hK⟩ dX9_sets_58
      · refine lv_tableIn (off := 44) (tgt := 59) hx hb dX9_sets_15 (by omega) (by omega) (by rw [qc4]; rfl) (by decide) ?_
        refine lv_aload_n hx hb dX9_sets_59 rfl (lv_at hl 0 rfl) ?_
        refine lv_iload_n hx hb dX9_sets_60 rfl (lv_at hl 1 rfl) ?_
        refine lv_bipush (v := (7)) hx hb dX9_sets_61 (by decide) ?_
        refine lv_iload_n hx hb dX9_sets_63 rfl (lv_at hl 3 rfl) ?_
        refine lv_iload_n hx hb dX9_sets_64 rfl (lv_at hl 3 rfl) ?_
        refine lv_iconst (v := (0)) hx hb dX9_sets_65 (by decide) ?_
        refine lv_sipush (v := (1000)) hx hb dX9_sets_66 (by decide) ?_
        refine m_calli (m_runS (As := [.int (a2), .int (0), .int (1000)]) (rest := [.int (a2), .int (7), .int (a0), .ref (ad (0))]) hx hb hml hown hts hE hM hS hA ce_X9_isWithin tb_451 (V_X9_isWithin l D A ad ns I L G (a2) (0) (1000) hI) rfl rfl ⟨Nat.le_of_ble_eq_true rfl, Nat.le_of_ble_eq_true rfl⟩  rfl hl.1 rfl (Nat.le_of_ble_eq_true rfl) dX9_sets_69 ⟨Nat.le_of_ble_eq_true rfl, Nat.le_of_ble_eq_true rfl⟩) hS (fun r9 u H locs hw hM hS => ?_)
        obtain ⟨rfl, xr9⟩ := hw
        have hM : Mem D A ad ns I L G H := hM
        have yr9 := bo01 xr9
        refine m_calli (m_runV (0) (As := [.int (a0), .int (7), .int (a2), .int (r9)]) (rest := []) hx hb hml hown hts hE hM hS hA ce_X9_changeMirror tb_512 (V_X9_changeMirror l D A ad ns I L G (a0) (7) (a2) (r9) hG hI (by first | omega | decide) (by first | omega | decide) (by first | omega | decide)) rfl rfl ⟨Nat.le_of_ble_eq_true rfl, Nat.le_of_ble_eq_true rfl⟩ (hG.1 0 (by decide)) rfl rfl (by decide) rfl hl.1 rfl (Nat.le_of_ble_eq_true rfl) dX9_sets_72 ⟨Nat.le_of_ble_eq_true rfl, Nat.le_of_ble_eq_true rfl⟩) hS (fun r10 u H locs hw hM hS => ?_)
        obtain ⟨I11, L12, rfl, hI, hkI11⟩ := hw
        have hM : Mem D A ad ns I11 L12 G H := hM
        have hK := hK.trans hkI11 rfl
        exact m_iret hx hb hr hlocks hM hS (Nat.le_of_ble_eq_true rfl) (Nat.le_of_ble_eq_true rfl) ⟨_, _, rfl, hI, hK⟩ dX9_sets_75
      · refine lv_tableIn (off := 61) (tgt := 76) hx hb dX9_sets_15 (by omega) (by omega) (by rw [qc4]; rfl) (by decide) ?_
        refine lv_aload_n hx hb dX9_sets_76 rfl (lv_at hl 0 rfl) ?_
        refine lv_iload_n hx hb dX9_sets_77 rfl (lv_at hl 1 rfl) ?_
        refine lv_bipush (v := (8)) hx hb dX9_sets_78 (by decide) ?_
        refine lv_iload_n hx hb dX9_sets_80 rfl (lv_at hl 3 rfl) ?_
        refine lv_iload_n hx hb dX9_sets_81 rfl (lv_at hl 3 rfl) ?_
        refine lv_iconst (v := (0)) hx hb dX9_sets_82 (by decide) ?_
        refine lv_iconst (v := (1)) hx hb dX9_sets_83 (by decide) ?_
        refine m_calli (m_runS (As := [.int (a2), .int (0), .int (1)]) (rest := [.int (a2), .int (8), .int (a0), .ref (ad (0))]) hx hb hml hown hts hE hM hS hA ce_X9_isWithin tb_451 (V_X9_isWithin l D A ad ns I L G (a2) (0) (1) hI) rfl rfl ⟨Nat.le_of_ble_eq_true rfl, Nat.le_of_ble_eq_true rfl⟩  rfl hl.1 rfl (Nat.le_of_ble_eq_true rfl) dX9_sets_84 ⟨Nat.le_of_ble_eq_true rfl, Nat.le_of_ble_eq_true rfl⟩) hS (fun r13 u H locs hw hM hS => ?_)
        obtain ⟨rfl, xr13⟩ := hw
        have hM : Mem D A ad ns I L G H := hM
        have yr13 := bo01 xr13
        refine m_calli (m_runV (0) (As := [.int (a0), .int (8), .int (a2), .int (r13)]) (rest := []) hx hb hml hown hts hE hM hS hA ce_X9_changeMirror tb_512 (V_X9_changeMirror l D A ad ns I L G (a0) (8) (a2) (r13) hG hI (by first | omega | decide) (by first | omega | decide) (by first | omega | decide)) rfl rfl ⟨Nat.le_of_ble_eq_true rfl, Nat.le_of_ble_eq_true rfl⟩ (hG.1 0 (by decide)) rfl rfl (by decide) rfl hl.1 rfl (Nat.le_of_ble_eq_true rfl) dX9_sets_87 ⟨Nat.le_of_ble_eq_true rfl, Nat.le_of_ble_eq_true rfl⟩) hS (fun r14 u H locs hw hM hS => ?_)
        obtain ⟨I15, L16, rfl, hI, hkI15⟩ := hw
        have hM : Mem D A ad ns I15 L16 G H := hM
        have hK := hK.trans hkI15 rfl
        exact m_iret hx hb hr hlocks hM hS (Nat.le_of_ble_eq_true rfl) (Nat.le_of_ble_eq_true rfl) ⟨_, _, rfl, hI, hK⟩ dX9_sets_90
      · refine lv_tableIn (off := 76) (tgt := 91) hx hb dX9_sets_15 (by omega) (by omega) (by rw [qc4]; rfl) (by decide) ?_
        refine lv_aload_n hx hb dX9_sets_91 rfl (lv_at hl 0 rfl) ?_
        refine lv_iload_n hx hb dX9_sets_92 rfl (lv_at hl 1 rfl) ?_
        refine lv_bipush (v := (9)) hx hb dX9_sets_93 (by decide) ?_
        refine lv_iload_n hx hb dX9_sets_95 rfl (lv_at hl 3 rfl) ?_
        refine lv_iload_n hx hb dX9_sets_96 rfl (lv_at hl 3 rfl) ?_
        refine lv_iconst (v := (-1)) hx hb dX9_sets_97 (by decide) ?_
        refine lv_ldc (v := (99999)) hx hb hown (hts _ tb_488) dX9_sets_98 ?_
        refine m_calli (m_runS (As := [.int (a2), .int ((-1 : Int32)), .int (99999)]) (rest := [.int (a2), .int (9), .int (a0), .ref (ad (0))]) hx hb hml hown hts hE hM hS hA ce_X9_isWithin tb_451 (V_X9_isWithin l D A ad ns I L G (a2) ((-1 : Int32)) (99999) hI) rfl rfl ⟨Nat.le_of_ble_eq_true rfl, Nat.le_of_ble_eq_true rfl⟩  rfl hl.1 rfl (Nat.le_of_ble_eq_true rfl) dX9_sets_100 ⟨Nat.le_of_ble_eq_true rfl, Nat.le_of_ble_eq_true rfl⟩) hS (fun r17 u H locs hw hM hS => ?_)
        obtain ⟨rfl, xr17⟩ := hw
        have hM : Mem D A ad ns I L G H := hM
        have yr17 := bo01 xr17
        refine m_calli (m_runV (0) (As := [.int (a0), .int (9), .int (a2), .int (r17)]) (rest := []) hx hb hml hown hts hE hM hS hA ce_X9_changeMirror tb_512 (V_X9_changeMirror l D A ad ns I L G (a0) (9) (a2) (r17) hG hI (by first | omega | decide) (by first | omega | decide) (by first | omega | decide)) rfl rfl ⟨Nat.le_of_ble_eq_true rfl, Nat.le_of_ble_eq_true rfl⟩ (hG.1 0 (by decide)) rfl rfl (by decide) rfl hl.1 rfl (Nat.le_of_ble_eq_true rfl) dX9_sets_103 ⟨Nat.le_of_ble_eq_true rfl, Nat.le_of_ble_eq_true rfl⟩) hS (fun r18 u H locs hw hM hS => ?_)
        obtain ⟨I19, L20, rfl, hI, hkI19⟩ := hw
        have hM : Mem D A ad ns I19 L20 G H := hM
        have hK := hK.trans hkI19 rfl
        exact m_iret hx hb hr hlocks hM hS (Nat.le_of_ble_eq_true rfl) (Nat.le_of_ble_eq_true rfl) ⟨_, _, rfl, hI, hK⟩ dX9_sets_106
  · have hc3 := c3
    have q3 := xr1.f hc3
    refine lv_bipush (v := (-2)) hx hb dX9_sets_11 (by decide) ?_
    exact m_iret hx hb hr hlocks hM hS (Nat.le_of_ble_eq_true rfl) (Nat.le_of_ble_eq_true rfl) ⟨_, _, rfl, hI, hK⟩ dX9_sets_13
theorem dX9_yard_0 : decode cX9_yard 0 = .ok (.aload_n 0, 1) := by decide +kernel
theorem dX9_yard_1 : decode cX9_yard 1 = .ok (.getfield 10, 3) := by decide +kernel
theorem dX9_yard_4 : decode cX9_yard 4 = .ok (.iload_n 1, 1) := by decide +kernel
theorem dX9_yard_5 : decode cX9_yard 5 = .ok (.iload_n 2, 1) := by decide +kernel
theorem dX9_yard_6 : decode cX9_yard 6 = .ok (.iload_n 3, 1) := by decide +kernel
theorem dX9_yard_7 : decode cX9_yard 7 = .ok (.iload 4, 2) := by decide +kernel
theorem dX9_yard_9 : decode cX9_yard 9 = .ok (.invokevirtual 103, 3) := by decide +kernel
theorem dX9_yard_12 : decode cX9_yard 12 = .ok (.ifCond .eq 15, 3) := by decide +kernel
theorem dX9_yard_15 : decode cX9_yard 15 = .ok (.aload_n 0, 1) := by decide +kernel
theorem dX9_yard_16 : decode cX9_yard 16 = .ok (.getfield 10, 3) := by decide +kernel
theorem dX9_yard_19 : decode cX9_yard 19 = .ok (.getfield 152, 3) := by decide +kernel
theorem dX9_yard_22 : decode cX9_yard 22 = .ok (.bipush 8, 2) := by decide +kernel
theorem dX9_yard_24 : decode cX9_yard 24 = .ok (.if_icmp .lt 5, 3) := by decide +kernel
theorem dX9_yard_27 : decode cX9_yard 27 = .ok (.iconst (-1), 1) := by decide +kernel
theorem dX9_yard_28 : decode cX9_yard 28 = .ok (.ireturn, 1) := by decide +kernel
theorem dX9_yard_29 : decode cX9_yard 29 = .ok (.iload 5, 2) := by decide +kernel
theorem dX9_yard_31 : decode cX9_yard 31 = .ok (.iconst 1, 1) := by decide +kernel
theorem dX9_yard_32 : decode cX9_yard 32 = .ok (.sipush 1000, 3) := by decide +kernel
theorem dX9_yard_35 : decode cX9_yard 35 = .ok (.invokestatic 95, 3) := by decide +kernel
theorem dX9_yard_38 : decode cX9_yard 38 = .ok (.ifCond .eq 14, 3) := by decide +kernel
theorem dX9_yard_41 : decode cX9_yard 41 = .ok (.iload 6, 2) := by decide +kernel
theorem dX9_yard_43 : decode cX9_yard 43 = .ok (.iconst 0, 1) := by decide +kernel
theorem dX9_yard_44 : decode cX9_yard 44 = .ok (.ldc 155, 2) := by decide +kernel
theorem dX9_yard_46 : decode cX9_yard 46 = .ok (.invokestatic 95, 3) := by decide +kernel
theorem dX9_yard_49 : decode cX9_yard 49 = .ok (.ifCond .ne 5, 3) := by decide +kernel
theorem dX9_yard_52 : decode cX9_yard 52 = .ok (.iconst (-1), 1) := by decide +kernel
theorem dX9_yard_53 : decode cX9_yard 53 = .ok (.ireturn, 1) := by decide +kernel
theorem dX9_yard_54 : decode cX9_yard 54 = .ok (.aload_n 0, 1) := by decide +kernel
theorem dX9_yard_55 : decode cX9_yard 55 = .ok (.getfield 10, 3) := by decide +kernel
theorem dX9_yard_58 : decode cX9_yard 58 = .ok (.iload_n 1, 1) := by decide +kernel
theorem dX9_yard_59 : decode cX9_yard 59 = .ok (.iload_n 2, 1) := by decide +kernel
theorem dX9_yard_60 : decode cX9_yard 60 = .ok (.iload_n 3, 1) := by decide +kernel
theorem dX9_yard_61 : decode cX9_yard 61 = .ok (.iload 4, 2) := by decide +kernel
theorem dX9_yard_63 : decode cX9_yard 63 = .ok (.invokevirtual 156, 3) := by decide +kernel
theorem dX9_yard_66 : decode cX9_yard 66 = .ok (.istore 7, 2) := by decide +kernel
theorem dX9_yard_68 : decode cX9_yard 68 = .ok (.aload_n 0, 1) := by decide +kernel
theorem dX9_yard_69 : decode cX9_yard 69 = .ok (.getfield 10, 3) := by decide +kernel
theorem dX9_yard_72 : decode cX9_yard 72 = .ok (.iload 7, 2) := by decide +kernel
theorem dX9_yard_74 : decode cX9_yard 74 = .ok (.iconst 2, 1) := by decide +kernel
theorem dX9_yard_75 : decode cX9_yard 75 = .ok (.iload 5, 2) := by decide +kernel
theorem dX9_yard_77 : decode cX9_yard 77 = .ok (.invokevirtual 160, 3) := by decide +kernel
theorem dX9_yard_80 : decode cX9_yard 80 = .ok (.aload_n 0, 1) := by decide +kernel
theorem dX9_yard_81 : decode cX9_yard 81 = .ok (.getfield 10, 3) := by decide +kernel
theorem dX9_yard_84 : decode cX9_yard 84 = .ok (.iload 7, 2) := by decide +kernel
theorem dX9_yard_86 : decode cX9_yard 86 = .ok (.iconst 1, 1) := by decide +kernel
theorem dX9_yard_87 : decode cX9_yard 87 = .ok (.iload 6, 2) := by decide +kernel
theorem dX9_yard_89 : decode cX9_yard 89 = .ok (.invokevirtual 160, 3) := by decide +kernel
theorem dX9_yard_92 : decode cX9_yard 92 = .ok (.iload 7, 2) := by decide +kernel
theorem dX9_yard_94 : decode cX9_yard 94 = .ok (.ireturn, 1) := by decide +kernel
theorem ce_X9_yard : CeV RX9 yX9_yard cX9_yard 8 (some .int) 6 := ⟨tb_521, tb_522, tb_1, tb_523, rfl, by decide, by decide, by decide +kernel⟩
theorem dX9_eyes_0 : decode cX9_eyes 0 = .ok (.aload_n 0, 1) := by decide +kernel
theorem dX9_eyes_1 : decode cX9_eyes 1 = .ok (.getfield 10, 3) := by decide +kernel
theorem dX9_eyes_4 : decode cX9_eyes 4 = .ok (.iload_n 1, 1) := by decide +kernel
theorem dX9_eyes_5 : decode cX9_eyes 5 = .ok (.iload_n 2, 1) := by decide +kernel
theorem dX9_eyes_6 : decode cX9_eyes 6 = .ok (.invokevirtual 122, 3) := by decide +kernel
theorem dX9_eyes_9 : decode cX9_eyes 9 = .ok (.ifCond .eq 13, 3) := by decide +kernel
theorem dX9_eyes_12 : decode cX9_eyes 12 = .ok (.iload_n 3, 1) := by decide +kernel
theorem dX9_eyes_13 : decode cX9_eyes 13 = .ok (.iconst (-1), 1) := by decide +kernel
theorem dX9_eyes_14 : decode cX9_eyes 14 = .ok (.ldc 115, 2) := by decide +kernel
theorem dX9_eyes_16 : decode cX9_eyes 16 = .ok (.invokestatic 95, 3) := by decide +kernel
theorem dX9_eyes_19 : decode cX9_eyes 19 = .ok (.ifCond .ne 6, 3) := by decide +kernel
theorem dX9_eyes_22 : decode cX9_eyes 22 = .ok (.bipush (-2), 2) := by decide +kernel
theorem dX9_eyes_24 : decode cX9_eyes 24 = .ok (.ireturn, 1) := by decide +kernel
theorem dX9_eyes_25 : decode cX9_eyes 25 = .ok (.aload_n 0, 1) := by decide +kernel
theorem dX9_eyes_26 : decode cX9_eyes 26 = .ok (.getfield 10, 3) := by decide +kernel
theorem dX9_eyes_29 : decode cX9_eyes 29 = .ok (.getfield 163, 3) := by decide +kernel
theorem dX9_eyes_32 : decode cX9_eyes 32 = .ok (.iload_n 1, 1) := by decide +kernel
theorem dX9_eyes_33 : decode cX9_eyes 33 = .ok (.iload_n 2, 1) := by decide +kernel
theorem dX9_eyes_34 : decode cX9_eyes 34 = .ok (.invokestatic 129, 3) := by decide +kernel
theorem dX9_eyes_37 : decode cX9_eyes 37 = .ok (.iaload, 1) := by decide +kernel
theorem dX9_eyes_38 : decode cX9_eyes 38 = .ok (.istore 4, 2) := by decide +kernel
theorem dX9_eyes_40 : decode cX9_eyes 40 = .ok (.aload_n 0, 1) := by decide +kernel
theorem dX9_eyes_41 : decode cX9_eyes 41 = .ok (.getfield 10, 3) := by decide +kernel
theorem dX9_eyes_44 : decode cX9_eyes 44 = .ok (.getfield 163, 3) := by decide +kernel
theorem dX9_eyes_47 : decode cX9_eyes 47 = .ok (.iload_n 1, 1) := by decide +kernel
theorem dX9_eyes_48 : decode cX9_eyes 48 = .ok (.iload_n 2, 1) := by decide +kernel
theorem dX9_eyes_49 : decode cX9_eyes 49 = .ok (.invokestatic 129, 3) := by decide +kernel
theorem dX9_eyes_52 : decode cX9_eyes 52 = .ok (.iload_n 3, 1) := by decide +kernel
theorem dX9_eyes_53 : decode cX9_eyes 53 = .ok (.iastore, 1) := by decide +kernel
theorem dX9_eyes_54 : decode cX9_eyes 54 = .ok (.iload 4, 2) := by decide +kernel
theorem dX9_eyes_56 : decode cX9_eyes 56 = .ok (.ireturn, 1) := by decide +kernel
theorem ce_X9_eyes : CeV RX9 yX9_eyes cX9_eyes 5 (some .int) 3 := ⟨tb_535, tb_536, tb_1, tb_537, rfl, by decide, by decide, by decide +kernel⟩
theorem dX9_month_0 : decode cX9_month 0 = .ok (.aload_n 0, 1) := by decide +kernel
theorem dX9_month_1 : decode cX9_month 1 = .ok (.getfield 10, 3) := by decide +kernel
theorem dX9_month_4 : decode cX9_month 4 = .ok (.invokevirtual 111, 3) := by decide +kernel
theorem dX9_month_7 : decode cX9_month 7 = .ok (.ifCond .eq 13, 3) := by decide +kernel
theorem dX9_month_10 : decode cX9_month 10 = .ok (.iload_n 1, 1) := by decide +kernel
theorem dX9_month_11 : decode cX9_month 11 = .ok (.iconst 0, 1) := by decide +kernel
theorem dX9_month_12 : decode cX9_month 12 = .ok (.bipush 11, 2) := by decide +kernel
theorem dX9_month_14 : decode cX9_month 14 = .ok (.invokestatic 95, 3) := by decide +kernel
theorem dX9_month_17 : decode cX9_month 17 = .ok (.ifCond .ne 5, 3) := by decide +kernel
theorem dX9_month_20 : decode cX9_month 20 = .ok (.iconst (-1), 1) := by decide +kernel
theorem dX9_month_21 : decode cX9_month 21 = .ok (.ireturn, 1) := by decide +kernel
theorem dX9_month_22 : decode cX9_month 22 = .ok (.aload_n 0, 1) := by decide +kernel
theorem dX9_month_23 : decode cX9_month 23 = .ok (.getfield 10, 3) := by decide +kernel
theorem dX9_month_26 : decode cX9_month 26 = .ok (.getfield 166, 3) := by decide +kernel
theorem dX9_month_29 : decode cX9_month 29 = .ok (.istore_n 2, 1) := by decide +kernel
theorem dX9_month_30 : decode cX9_month 30 = .ok (.aload_n 0, 1) := by decide +kernel
theorem dX9_month_31 : decode cX9_month 31 = .ok (.getfield 10, 3) := by decide +kernel
theorem dX9_month_34 : decode cX9_month 34 = .ok (.iload_n 1, 1) := by decide +kernel
theorem dX9_month_35 : decode cX9_month 35 = .ok (.putfield 166, 3) := by decide +kernel
theorem dX9_month_38 : decode cX9_month 38 = .ok (.iload_n 2, 1) := by decide +kernel
theorem dX9_month_39 : decode cX9_month 39 = .ok (.ireturn, 1) := by decide +kernel
theorem ce_X9_month : CeV RX9 yX9_month cX9_month 3 (some .int) 1 := ⟨tb_539, tb_540, tb_1, tb_541, rfl, by decide, by decide, by decide +kernel⟩
theorem dX9_falls_0 : decode cX9_falls 0 = .ok (.aload_n 0, 1) := by decide +kernel
theorem dX9_falls_1 : decode cX9_falls 1 = .ok (.getfield 10, 3) := by decide +kernel
theorem dX9_falls_4 : decode cX9_falls 4 = .ok (.invokevirtual 111, 3) := by decide +kernel
theorem dX9_falls_7 : decode cX9_falls 7 = .ok (.ifCond .eq 13, 3) := by decide +kernel
theorem dX9_falls_10 : decode cX9_falls 10 = .ok (.iload_n 1, 1) := by decide +kernel
theorem dX9_falls_11 : decode cX9_falls 11 = .ok (.iconst 0, 1) := by decide +kernel
theorem dX9_falls_12 : decode cX9_falls 12 = .ok (.bipush 99, 2) := by decide +kernel
theorem dX9_falls_14 : decode cX9_falls 14 = .ok (.invokestatic 95, 3) := by decide +kernel
theorem dX9_falls_17 : decode cX9_falls 17 = .ok (.ifCond .ne 5, 3) := by decide +kernel
theorem dX9_falls_20 : decode cX9_falls 20 = .ok (.iconst (-1), 1) := by decide +kernel
theorem dX9_falls_21 : decode cX9_falls 21 = .ok (.ireturn, 1) := by decide +kernel
theorem dX9_falls_22 : decode cX9_falls 22 = .ok (.aload_n 0, 1) := by decide +kernel
theorem dX9_falls_23 : decode cX9_falls 23 = .ok (.getfield 10, 3) := by decide +kernel
theorem dX9_falls_26 : decode cX9_falls 26 = .ok (.getfield 169, 3) := by decide +kernel
theorem dX9_falls_29 : decode cX9_falls 29 = .ok (.istore_n 2, 1) := by decide +kernel
theorem dX9_falls_30 : decode cX9_falls 30 = .ok (.aload_n 0, 1) := by decide +kernel
theorem dX9_falls_31 : decode cX9_falls 31 = .ok (.getfield 10, 3) := by decide +kernel
theorem dX9_falls_34 : decode cX9_falls 34 = .ok (.iload_n 1, 1) := by decide +kernel
theorem dX9_falls_35 : decode cX9_falls 35 = .ok (.putfield 169, 3) := by decide +kernel
theorem dX9_falls_38 : decode cX9_falls 38 = .ok (.iload_n 2, 1) := by decide +kernel
theorem dX9_falls_39 : decode cX9_falls 39 = .ok (.ireturn, 1) := by decide +kernel
theorem ce_X9_falls : CeV RX9 yX9_falls cX9_falls 3 (some .int) 1 := ⟨tb_543, tb_544, tb_1, tb_545, rfl, by decide, by decide, by decide +kernel⟩
theorem dX9_end_0 : decode cX9_end 0 = .ok (.iload_n 1, 1) := by decide +kernel
theorem dX9_end_1 : decode cX9_end 1 = .ok (.iconst 0, 1) := by decide +kernel
theorem dX9_end_2 : decode cX9_end 2 = .ok (.aload_n 0, 1) := by decide +kernel
theorem dX9_end_3 : decode cX9_end 3 = .ok (.getfield 172, 3) := by decide +kernel
theorem dX9_end_6 : decode cX9_end 6 = .ok (.invokestatic 95, 3) := by decide +kernel
theorem dX9_end_9 : decode cX9_end 9 = .ok (.ifCond .ne 5, 3) := by decide +kernel
theorem dX9_end_12 : decode cX9_end 12 = .ok (.iconst (-1), 1) := by decide +kernel
theorem dX9_end_13 : decode cX9_end 13 = .ok (.ireturn, 1) := by decide +kernel
theorem dX9_end_14 : decode cX9_end 14 = .ok (.aload_n 0, 1) := by decide +kernel
theorem dX9_end_15 : decode cX9_end 15 = .ok (.iload_n 1, 1) := by decide +kernel
theorem dX9_end_16 : decode cX9_end 16 = .ok (.putfield 172, 3) := by decide +kernel
theorem dX9_end_19 : decode cX9_end 19 = .ok (.iload_n 1, 1) := by decide +kernel
theorem dX9_end_20 : decode cX9_end 20 = .ok (.ireturn, 1) := by decide +kernel
theorem ce_X9_end : CeV RX9 yX9_end cX9_end 2 (some .int) 1 := ⟨tb_555, tb_556, tb_1, tb_557, rfl, by decide, by decide, by decide +kernel⟩
set_option maxHeartbeats 4000000 in
set_option maxRecDepth 20000 in
theorem V_X9_end (l : Launch) (D : va_G) (A : Nat → Prop) (ad : Nat → Nat) (ns : List Nat) (I : MI) (L : ML) (G : MG) (a0 : Int32) (hG : SGC ns G) (hI : INV I) : Met l yX9_end (wd yX9_end cX9_end 2 (some .int)) ({ frames := 1, cells := 0, slots := 0, locals := 22 }) (va_Pc [.ref (ad (0)), .int a0] (PM D A ad ns I L G)) (va_Qi (fun r u => ∃ I2 L2, u = (ad, ns, I2, L2, G) ∧ INV I2 ∧ Kp [] [(0, 15)] I I2) (BM D A) A) 0 0 A := by
  refine m_ofW (by decide) (Nat.le_of_ble_eq_true rfl) ?_
  intro p e s m below meth c ls args hC hE hM hA hS hl
  obtain ⟨hx, hb, hml, hown, hts, hr, hlocks, hin⟩ := hC
  have km1 : (-1 : Int32).toInt = -1 := by decide
  have k0 : (0 : Int32).toInt = 0 := by decide
  have hK : Kp [] [(0, 15)] I I := Kp.rf
  have hl : lv_has ls 2 [(0, .ref (ad (0))), (1, .int (a0))] := hl
  refine lv_iload_n hx hb dX9_end_0 rfl (lv_at hl 1 rfl) ?_
  refine lv_iconst (v := (0)) hx hb dX9_end_1 (by decide) ?_
  refine lv_aload_n hx hb dX9_end_2 rfl (lv_at hl 0 rfl) ?_
  refine m_geti (0) 15 hx hb hts hown hE oc9 hM (hG.1 0 (by decide)) rfl (by decide) rfl tb_413 dX9_end_3 ?_
  have g1 := hI.get (0) 15 (lo := 0) (hi := 400) rfl
  refine m_calli (m_runS (As := [.int (a0), .int (0), .int (I (0) 15)]) (rest := []) hx hb hml hown hts hE hM hS hA ce_X9_isWithin tb_451 (V_X9_isWithin l D A ad ns I L G (a0) (0) (I (0) 15) hI) rfl rfl ⟨Nat.le_of_ble_eq_true rfl, Nat.le_of_ble_eq_true rfl⟩  rfl hl.1 rfl (Nat.le_of_ble_eq_true rfl) dX9_end_6 ⟨Nat.le_of_ble_eq_true rfl, Nat.le_of_ble_eq_true rfl⟩) hS (fun r2 u H locs hw hM hS => ?_)
  obtain ⟨rfl, xr2⟩ := hw
  have hM : Mem D A ad ns I L G H := hM
  have yr2 := bo01 xr2
  refine lv_if_ne (tgt := 14) hx hb dX9_end_9 (by decide) (fun c3 => ?_) (fun c3 => ?_)
  · have hc3 := c3
    have q3 := xr2.t hc3
    refine lv_aload_n hx hb dX9_end_14 rfl (lv_at hl 0 rfl) ?_
    refine lv_iload_n hx hb dX9_end_15 rfl (lv_at hl 1 rfl) ?_
    refine m_puti (0) 15 hx hb hts hown hE oc9 hM hS (hG.1 0 (by decide)) rfl (by decide) rfl rfl rfl rfl tb_413 dX9_end_16 (fun H locs I4 eI4 hM hS => ?_)
    subst eI4
    have hI := hI.put (n := 0) (k := 15) (v := a0) (lo := 0) (hi := 400) rfl (by first | omega | decide)
    have hK := hK.put (n := 0) (k := 15) (v := a0) (by first | rfl | simp [inR])
    refine lv_iload_n hx hb dX9_end_19 rfl (lv_at hl 1 rfl) ?_
    exact m_iret hx hb hr hlocks hM hS (Nat.le_of_ble_eq_true rfl) (Nat.le_of_ble_eq_true rfl) ⟨_, _, rfl, hI, hK⟩ dX9_end_20
  · have hc3 := c3
    have q3 := xr2.f hc3
    refine lv_iconst (v := (-1)) hx hb dX9_end_12 (by decide) ?_
    exact m_iret hx hb hr hlocks hM hS (Nat.le_of_ble_eq_true rfl) (Nat.le_of_ble_eq_true rfl) ⟨_, _, rfl, hI, hK⟩ dX9_end_13
theorem dX9_mirrors_0 : decode cX9_mirrors 0 = .ok (.aload_n 0, 1) := by decide +kernel
theorem dX9_mirrors_1 : decode cX9_mirrors 1 = .ok (.getfield 10, 3) := by decide +kernel
theorem dX9_mirrors_4 : decode cX9_mirrors 4 = .ok (.iload_n 1, 1) := by decide +kernel
theorem dX9_mirrors_5 : decode cX9_mirrors 5 = .ok (.invokevirtual 144, 3) := by decide +kernel
theorem dX9_mirrors_8 : decode cX9_mirrors 8 = .ok (.ifCond .eq 13, 3) := by decide +kernel
theorem dX9_mirrors_11 : decode cX9_mirrors 11 = .ok (.iload_n 2, 1) := by decide +kernel
theorem dX9_mirrors_12 : decode cX9_mirrors 12 = .ok (.iconst 0, 1) := by decide +kernel
theorem dX9_mirrors_13 : decode cX9_mirrors 13 = .ok (.bipush 9, 2) := by decide +kernel
theorem dX9_mirrors_15 : decode cX9_mirrors 15 = .ok (.invokestatic 95, 3) := by decide +kernel
theorem dX9_mirrors_18 : decode cX9_mirrors 18 = .ok (.ifCond .ne 6, 3) := by decide +kernel
theorem dX9_mirrors_21 : decode cX9_mirrors 21 = .ok (.bipush (-2), 2) := by decide +kernel
theorem dX9_mirrors_23 : decode cX9_mirrors 23 = .ok (.ireturn, 1) := by decide +kernel
theorem dX9_mirrors_24 : decode cX9_mirrors 24 = .ok (.aload_n 0, 1) := by decide +kernel
theorem dX9_mirrors_25 : decode cX9_mirrors 25 = .ok (.getfield 10, 3) := by decide +kernel
theorem dX9_mirrors_28 : decode cX9_mirrors 28 = .ok (.iload_n 1, 1) := by decide +kernel
theorem dX9_mirrors_29 : decode cX9_mirrors 29 = .ok (.iload_n 2, 1) := by decide +kernel
theorem dX9_mirrors_30 : decode cX9_mirrors 30 = .ok (.invokevirtual 201, 3) := by decide +kernel
theorem dX9_mirrors_33 : decode cX9_mirrors 33 = .ok (.ireturn, 1) := by decide +kernel
theorem ce_X9_mirrors : CeV RX9 yX9_mirrors cX9_mirrors 3 (some .int) 2 := ⟨tb_886, tb_887, tb_1, tb_888, rfl, by decide, by decide, by decide +kernel⟩
set_option maxHeartbeats 4000000 in
set_option maxRecDepth 20000 in
theorem V_X9_mirrors (l : Launch) (D : va_G) (A : Nat → Prop) (ad : Nat → Nat) (ns : List Nat) (I : MI) (L : ML) (G : MG) (a0 : Int32) (a1 : Int32) (hG : SGC ns G) (hI : INV I) : Met l yX9_mirrors (wd yX9_mirrors cX9_mirrors 3 (some .int)) ({ frames := 1, cells := 0, slots := 0, locals := 22 }) (va_Pc [.ref (ad (0)), .int a0, .int a1] (PM D A ad ns I L G)) (va_Qi (fun r u => u = (ad, ns, I, L, G) ∧ (True)) (BM D A) A) 0 0 A := by
  refine m_ofW (by decide) (Nat.le_of_ble_eq_true rfl) ?_
  intro p e s m below meth c ls args hC hE hM hA hS hl
  obtain ⟨hx, hb, hml, hown, hts, hr, hlocks, hin⟩ := hC
  have km2 : (-2 : Int32).toInt = -2 := by decide
  have k0 : (0 : Int32).toInt = 0 := by decide
  have k9 : (9 : Int32).toInt = 9 := by decide
  have hl : lv_has ls 3 [(0, .ref (ad (0))), (1, .int (a0)), (2, .int (a1))] := hl
  refine lv_aload_n hx hb dX9_mirrors_0 rfl (lv_at hl 0 rfl) ?_
  refine m_getr (0) 0 (100) hx hb hts hown hE oc9 hM (hG.1 0 (by decide)) rfl (by decide) rfl (hG.2 (0, 0, 100) (by decide)) (by decide) tb_398 dX9_mirrors_1 ?_
  refine lv_iload_n hx hb dX9_mirrors_4 rfl (lv_at hl 1 rfl) ?_
  refine m_calli (m_runV (100) (As := [.int (a0)]) (rest := []) hx hb hml hown hts hE hM hS hA ce_X8_hasMirror tb_508 (V_X8_hasMirror_100 l D A ad ns I L G (a0) hG hI) rfl rfl ⟨Nat.le_of_ble_eq_true rfl, Nat.le_of_ble_eq_true rfl⟩ (hG.1 100 (by decide)) rfl rfl (by decide) rfl hl.1 rfl (Nat.le_of_ble_eq_true rfl) dX9_mirrors_5 ⟨Nat.le_of_ble_eq_true rfl, Nat.le_of_ble_eq_true rfl⟩) hS (fun r1 u H locs hw hM hS => ?_)
  obtain ⟨rfl, xr1⟩ := hw
  have hM : Mem D A ad ns I L G H := hM
  have yr1 := bo01 xr1
  have g2 := hI.get 100 8 (lo := 0) (hi := 24) rfl
  refine lv_if_eq (tgt := 21) hx hb dX9_mirrors_8 (by decide) (fun c3 => ?_) (fun c3 => ?_)
  · have hc3 := c3
    have q3 := xr1.f hc3
    refine lv_bipush (v := (-2)) hx hb dX9_mirrors_21 (by decide) ?_
    exact m_iret hx hb hr hlocks hM hS (Nat.le_of_ble_eq_true rfl) (Nat.le_of_ble_eq_true rfl) ⟨rfl, trivial⟩ dX9_mirrors_23
  · have hc3 := c3
    have q3 := xr1.t hc3
    refine lv_iload_n hx hb dX9_mirrors_11 rfl (lv_at hl 2 rfl) ?_
    refine lv_iconst (v := (0)) hx hb dX9_mirrors_12 (by decide) ?_
    refine lv_bipush (v := (9)) hx hb dX9_mirrors_13 (by decide) ?_
    refine m_calli (m_runS (As := [.int (a1), .int (0), .int (9)]) (rest := []) hx hb hml hown hts hE hM hS hA ce_X9_isWithin tb_451 (V_X9_isWithin l D A ad ns I L G (a1) (0) (9) hI) rfl rfl ⟨Nat.le_of_ble_eq_true rfl, Nat.le_of_ble_eq_true rfl⟩  rfl hl.1 rfl (Nat.le_of_ble_eq_true rfl) dX9_mirrors_15 ⟨Nat.le_of_ble_eq_true rfl, Nat.le_of_ble_eq_true rfl⟩) hS (fun r4 u H locs hw hM hS => ?_)
    obtain ⟨rfl, xr4⟩ := hw
    have hM : Mem D A ad ns I L G H := hM
    have yr4 := bo01 xr4
    refine lv_if_ne (tgt := 24) hx hb dX9_mirrors_18 (by decide) (fun c5 => ?_) (fun c5 => ?_)
    · have hc5 := c5
      have q5 := xr4.t hc5
      refine lv_aload_n hx hb dX9_mirrors_24 rfl (lv_at hl 0 rfl) ?_
      refine m_getr (0) 0 (100) hx hb hts hown hE oc9 hM (hG.1 0 (by decide)) rfl (by decide) rfl (hG.2 (0, 0, 100) (by decide)) (by decide) tb_398 dX9_mirrors_25 ?_
      refine lv_iload_n hx hb dX9_mirrors_28 rfl (lv_at hl 1 rfl) ?_
      refine lv_iload_n hx hb dX9_mirrors_29 rfl (lv_at hl 2 rfl) ?_
      refine m_calli (m_runV (100) (As := [.int (a0), .int (a1)]) (rest := []) hx hb hml hown hts hE hM hS hA ce_X8_ofMirror tb_516 (V_X8_ofMirror_100 l D A ad ns I L G (a0) (a1) hG hI (by first | omega | decide) (by first | omega | decide)) rfl rfl ⟨Nat.le_of_ble_eq_true rfl, Nat.le_of_ble_eq_true rfl⟩ (hG.1 100 (by decide)) rfl rfl (by decide) rfl hl.1 rfl (Nat.le_of_ble_eq_true rfl) dX9_mirrors_30 ⟨Nat.le_of_ble_eq_true rfl, Nat.le_of_ble_eq_true rfl⟩) hS (fun r6 u H locs hw hM hS => ?_)
      obtain ⟨rfl, xr6⟩ := hw
      have hM : Mem D A ad ns I L G H := hM
      exact m_iret hx hb hr hlocks hM hS (Nat.le_of_ble_eq_true rfl) (Nat.le_of_ble_eq_true rfl) ⟨rfl, trivial⟩ dX9_mirrors_33
    · have hc5 := c5
      have q5 := xr4.f hc5
      refine lv_bipush (v := (-2)) hx hb dX9_mirrors_21 (by decide) ?_
      exact m_iret hx hb hr hlocks hM hS (Nat.le_of_ble_eq_true rfl) (Nat.le_of_ble_eq_true rfl) ⟨rfl, trivial⟩ dX9_mirrors_23
theorem dX9_yards_0 : decode cX9_yards 0 = .ok (.aload_n 0, 1) := by decide +kernel
theorem dX9_yards_1 : decode cX9_yards 1 = .ok (.getfield 10, 3) := by decide +kernel
theorem dX9_yards_4 : decode cX9_yards 4 = .ok (.iload_n 1, 1) := by decide +kernel
theorem dX9_yards_5 : decode cX9_yards 5 = .ok (.invokevirtual 204, 3) := by decide +kernel
theorem dX9_yards_8 : decode cX9_yards 8 = .ok (.ifCond .eq 13, 3) := by decide +kernel
theorem dX9_yards_11 : decode cX9_yards 11 = .ok (.iload_n 2, 1) := by decide +kernel
theorem dX9_yards_12 : decode cX9_yards 12 = .ok (.iconst 0, 1) := by decide +kernel
theorem dX9_yards_13 : decode cX9_yards 13 = .ok (.bipush 6, 2) := by decide +kernel
theorem dX9_yards_15 : decode cX9_yards 15 = .ok (.invokestatic 95, 3) := by decide +kernel
theorem dX9_yards_18 : decode cX9_yards 18 = .ok (.ifCond .ne 5, 3) := by decide +kernel
theorem dX9_yards_21 : decode cX9_yards 21 = .ok (.iconst (-1), 1) := by decide +kernel
theorem dX9_yards_22 : decode cX9_yards 22 = .ok (.ireturn, 1) := by decide +kernel
theorem dX9_yards_23 : decode cX9_yards 23 = .ok (.aload_n 0, 1) := by decide +kernel
theorem dX9_yards_24 : decode cX9_yards 24 = .ok (.getfield 10, 3) := by decide +kernel
theorem dX9_yards_27 : decode cX9_yards 27 = .ok (.iload_n 1, 1) := by decide +kernel
theorem dX9_yards_28 : decode cX9_yards 28 = .ok (.iload_n 2, 1) := by decide +kernel
theorem dX9_yards_29 : decode cX9_yards 29 = .ok (.invokevirtual 207, 3) := by decide +kernel
theorem dX9_yards_32 : decode cX9_yards 32 = .ok (.ireturn, 1) := by decide +kernel
theorem ce_X9_yards : CeV RX9 yX9_yards cX9_yards 3 (some .int) 2 := ⟨tb_890, tb_891, tb_1, tb_892, rfl, by decide, by decide, by decide +kernel⟩
set_option maxHeartbeats 4000000 in
set_option maxRecDepth 20000 in
theorem V_X9_yards (l : Launch) (D : va_G) (A : Nat → Prop) (ad : Nat → Nat) (ns : List Nat) (I : MI) (L : ML) (G : MG) (a0 : Int32) (a1 : Int32) (hG : SGC ns G) (hI : INV I) : Met l yX9_yards (wd yX9_yards cX9_yards 3 (some .int)) ({ frames := 1, cells := 0, slots := 0, locals := 22 }) (va_Pc [.ref (ad (0)), .int a0, .int a1] (PM D A ad ns I L G)) (va_Qi (fun r u => u = (ad, ns, I, L, G) ∧ (True)) (BM D A) A) 0 0 A := by
  refine m_ofW (by decide) (Nat.le_of_ble_eq_true rfl) ?_
  intro p e s m below meth c ls args hC hE hM hA hS hl
  obtain ⟨hx, hb, hml, hown, hts, hr, hlocks, hin⟩ := hC
  have km1 : (-1 : Int32).toInt = -1 := by decide
  have k0 : (0 : Int32).toInt = 0 := by decide
  have k6 : (6 : Int32).toInt = 6 := by decide
  have hl : lv_has ls 3 [(0, .ref (ad (0))), (1, .int (a0)), (2, .int (a1))] := hl
  refine lv_aload_n hx hb dX9_yards_0 rfl (lv_at hl 0 rfl) ?_
  refine m_getr (0) 0 (100) hx hb hts hown hE oc9 hM (hG.1 0 (by decide)) rfl (by decide) rfl (hG.2 (0, 0, 100) (by decide)) (by decide) tb_398 dX9_yards_1 ?_
  refine lv_iload_n hx hb dX9_yards_4 rfl (lv_at hl 1 rfl) ?_
  refine m_calli (m_runV (100) (As := [.int (a0)]) (rest := []) hx hb hml hown hts hE hM hS hA ce_X8_hasYard tb_893 (V_X8_hasYard_100 l D A ad ns I L G (a0) hG hI) rfl rfl ⟨Nat.le_of_ble_eq_true rfl, Nat.le_of_ble_eq_true rfl⟩ (hG.1 100 (by decide)) rfl rfl (by decide) rfl hl.1 rfl (Nat.le_of_ble_eq_true rfl) dX9_yards_5 ⟨Nat.le_of_ble_eq_true rfl, Nat.le_of_ble_eq_true rfl⟩) hS (fun r1 u H locs hw hM hS => ?_)
  obtain ⟨rfl, xr1⟩ := hw
  have hM : Mem D A ad ns I L G H := hM
  have yr1 := bo01 xr1
  have g2 := hI.get 100 9 (lo := 0) (hi := 8) rfl
  refine lv_if_eq (tgt := 21) hx hb dX9_yards_8 (by decide) (fun c3 => ?_) (fun c3 => ?_)
  · have hc3 := c3
    have q3 := xr1.f hc3
    refine lv_iconst (v := (-1)) hx hb dX9_yards_21 (by decide) ?_
    exact m_iret hx hb hr hlocks hM hS (Nat.le_of_ble_eq_true rfl) (Nat.le_of_ble_eq_true rfl) ⟨rfl, trivial⟩ dX9_yards_22
  · have hc3 := c3
    have q3 := xr1.t hc3
    refine lv_iload_n hx hb dX9_yards_11 rfl (lv_at hl 2 rfl) ?_
    refine lv_iconst (v := (0)) hx hb dX9_yards_12 (by decide) ?_
    refine lv_bipush (v := (6)) hx hb dX9_yards_13 (by decide) ?_
    refine m_calli (m_runS (As := [.int (a1), .int (0), .int (6)]) (rest := []) hx hb hml hown hts hE hM hS hA ce_X9_isWithin tb_451 (V_X9_isWithin l D A ad ns I L G (a1) (0) (6) hI) rfl rfl ⟨Nat.le_of_ble_eq_true rfl, Nat.le_of_ble_eq_true rfl⟩  rfl hl.1 rfl (Nat.le_of_ble_eq_true rfl) dX9_yards_15 ⟨Nat.le_of_ble_eq_true rfl, Nat.le_of_ble_eq_true rfl⟩) hS (fun r4 u H locs hw hM hS => ?_)
    obtain ⟨rfl, xr4⟩ := hw
    have hM : Mem D A ad ns I L G H := hM
    have yr4 := bo01 xr4
    refine lv_if_ne (tgt := 23) hx hb dX9_yards_18 (by decide) (fun c5 => ?_) (fun c5 => ?_)
    · have hc5 := c5
      have q5 := xr4.t hc5
      refine lv_aload_n hx hb dX9_yards_23 rfl (lv_at hl 0 rfl) ?_
      refine m_getr (0) 0 (100) hx hb hts hown hE oc9 hM (hG.1 0 (by decide)) rfl (by decide) rfl (hG.2 (0, 0, 100) (by decide)) (by decide) tb_398 dX9_yards_24 ?_
      refine lv_iload_n hx hb dX9_yards_27 rfl (lv_at hl 1 rfl) ?_
      refine lv_iload_n hx hb dX9_yards_28 rfl (lv_at hl 2 rfl) ?_
      refine m_calli (m_runV (100) (As := [.int (a0), .int (a1)]) (rest := []) hx hb hml hown hts hE hM hS hA ce_X8_ofYard tb_897 (V_X8_ofYard_100 l D A ad ns I L G (a0) (a1) hG hI (by first | omega | decide) (by first | omega | decide)) rfl rfl ⟨Nat.le_of_ble_eq_true rfl, Nat.le_of_ble_eq_true rfl⟩ (hG.1 100 (by decide)) rfl rfl (by decide) rfl hl.1 rfl (Nat.le_of_ble_eq_true rfl) dX9_yards_29 ⟨Nat.le_of_ble_eq_true rfl, Nat.le_of_ble_eq_true rfl⟩) hS (fun r6 u H locs hw hM hS => ?_)
      obtain ⟨rfl, xr6⟩ := hw
      have hM : Mem D A ad ns I L G H := hM
      exact m_iret hx hb hr hlocks hM hS (Nat.le_of_ble_eq_true rfl) (Nat.le_of_ble_eq_true rfl) ⟨rfl, trivial⟩ dX9_yards_32
    · have hc5 := c5
      have q5 := xr4.f hc5
      refine lv_iconst (v := (-1)) hx hb dX9_yards_21 (by decide) ?_
      exact m_iret hx hb hr hlocks hM hS (Nat.le_of_ble_eq_true rfl) (Nat.le_of_ble_eq_true rfl) ⟨rfl, trivial⟩ dX9_yards_22
theorem dX9_cell_0 : decode cX9_cell 0 = .ok (.aload_n 0, 1) := by decide +kernel
theorem dX9_cell_1 : decode cX9_cell 1 = .ok (.getfield 10, 3) := by decide +kernel
theorem dX9_cell_4 : decode cX9_cell 4 = .ok (.iload_n 1, 1) := by decide +kernel
theorem dX9_cell_5 : decode cX9_cell 5 = .ok (.iload_n 2, 1) := by decide +kernel
theorem dX9_cell_6 : decode cX9_cell 6 = .ok (.invokevirtual 122, 3) := by decide +kernel
theorem dX9_cell_9 : decode cX9_cell 9 = .ok (.ifCond .ne 6, 3) := by decide +kernel
theorem dX9_cell_12 : decode cX9_cell 12 = .ok (.bipush (-2), 2) := by decide +kernel
theorem dX9_cell_14 : decode cX9_cell 14 = .ok (.ireturn, 1) := by decide +kernel
theorem dX9_cell_15 : decode cX9_cell 15 = .ok (.iload_n 1, 1) := by decide +kernel
theorem dX9_cell_16 : decode cX9_cell 16 = .ok (.iload_n 2, 1) := by decide +kernel
theorem dX9_cell_17 : decode cX9_cell 17 = .ok (.invokestatic 129, 3) := by decide +kernel
theorem dX9_cell_20 : decode cX9_cell 20 = .ok (.istore 4, 2) := by decide +kernel
theorem dX9_cell_22 : decode cX9_cell 22 = .ok (.iload_n 3, 1) := by decide +kernel
theorem dX9_cell_23 : decode cX9_cell 23 = .ok (.tableswitch 73 0 3 #[29, 40, 51, 62], 29) := by decide +kernel
theorem dX9_cell_52 : decode cX9_cell 52 = .ok (.aload_n 0, 1) := by decide +kernel
theorem dX9_cell_53 : decode cX9_cell 53 = .ok (.getfield 10, 3) := by decide +kernel
theorem dX9_cell_56 : decode cX9_cell 56 = .ok (.getfield 210, 3) := by decide +kernel
theorem dX9_cell_59 : decode cX9_cell 59 = .ok (.iload 4, 2) := by decide +kernel
theorem dX9_cell_61 : decode cX9_cell 61 = .ok (.iaload, 1) := by decide +kernel
theorem dX9_cell_62 : decode cX9_cell 62 = .ok (.ireturn, 1) := by decide +kernel
theorem dX9_cell_63 : decode cX9_cell 63 = .ok (.aload_n 0, 1) := by decide +kernel
theorem dX9_cell_64 : decode cX9_cell 64 = .ok (.getfield 10, 3) := by decide +kernel
theorem dX9_cell_67 : decode cX9_cell 67 = .ok (.getfield 163, 3) := by decide +kernel
theorem dX9_cell_70 : decode cX9_cell 70 = .ok (.iload 4, 2) := by decide +kernel
theorem dX9_cell_72 : decode cX9_cell 72 = .ok (.iaload, 1) := by decide +kernel
theorem dX9_cell_73 : decode cX9_cell 73 = .ok (.ireturn, 1) := by decide +kernel
theorem dX9_cell_74 : decode cX9_cell 74 = .ok (.aload_n 0, 1) := by decide +kernel
theorem dX9_cell_75 : decode cX9_cell 75 = .ok (.getfield 10, 3) := by decide +kernel
theorem dX9_cell_78 : decode cX9_cell 78 = .ok (.getfield 126, 3) := by decide +kernel
theorem dX9_cell_81 : decode cX9_cell 81 = .ok (.iload 4, 2) := by decide +kernel
theorem dX9_cell_83 : decode cX9_cell 83 = .ok (.iaload, 1) := by decide +kernel
theorem dX9_cell_84 : decode cX9_cell 84 = .ok (.ireturn, 1) := by decide +kernel
theorem dX9_cell_85 : decode cX9_cell 85 = .ok (.aload_n 0, 1) := by decide +kernel
theorem dX9_cell_86 : decode cX9_cell 86 = .ok (.getfield 10, 3) := by decide +kernel
theorem dX9_cell_89 : decode cX9_cell 89 = .ok (.getfield 213, 3) := by decide +kernel
theorem dX9_cell_92 : decode cX9_cell 92 = .ok (.iload 4, 2) := by decide +kernel
theorem dX9_cell_94 : decode cX9_cell 94 = .ok (.iaload, 1) := by decide +kernel
theorem dX9_cell_95 : decode cX9_cell 95 = .ok (.ireturn, 1) := by decide +kernel
theorem dX9_cell_96 : decode cX9_cell 96 = .ok (.bipush (-2), 2) := by decide +kernel
theorem dX9_cell_98 : decode cX9_cell 98 = .ok (.ireturn, 1) := by decide +kernel
theorem ce_X9_cell : CeV RX9 yX9_cell cX9_cell 5 (some .int) 3 := ⟨tb_899, tb_900, tb_1, tb_901, rfl, by decide, by decide, by decide +kernel⟩
theorem dX9_gets_0 : decode cX9_gets 0 = .ok (.aload_n 0, 1) := by decide +kernel
theorem dX9_gets_1 : decode cX9_gets 1 = .ok (.getfield 10, 3) := by decide +kernel
theorem dX9_gets_4 : decode cX9_gets 4 = .ok (.iload_n 1, 1) := by decide +kernel
theorem dX9_gets_5 : decode cX9_gets 5 = .ok (.invokevirtual 216, 3) := by decide +kernel
theorem dX9_gets_8 : decode cX9_gets 8 = .ok (.ifCond .eq 14, 3) := by decide +kernel
theorem dX9_gets_11 : decode cX9_gets 11 = .ok (.aload_n 0, 1) := by decide +kernel
theorem dX9_gets_12 : decode cX9_gets 12 = .ok (.getfield 10, 3) := by decide +kernel
theorem dX9_gets_15 : decode cX9_gets 15 = .ok (.iload_n 2, 1) := by decide +kernel
theorem dX9_gets_16 : decode cX9_gets 16 = .ok (.invokevirtual 204, 3) := by decide +kernel
theorem dX9_gets_19 : decode cX9_gets 19 = .ok (.ifCond .ne 5, 3) := by decide +kernel
theorem dX9_gets_22 : decode cX9_gets 22 = .ok (.iconst (-1), 1) := by decide +kernel
theorem dX9_gets_23 : decode cX9_gets 23 = .ok (.ireturn, 1) := by decide +kernel
theorem dX9_gets_24 : decode cX9_gets 24 = .ok (.aload_n 0, 1) := by decide +kernel
theorem dX9_gets_25 : decode cX9_gets 25 = .ok (.getfield 26, 3) := by decide +kernel
theorem dX9_gets_28 : decode cX9_gets 28 = .ok (.aload_n 0, 1) := by decide +kernel
theorem dX9_gets_29 : decode cX9_gets 29 = .ok (.getfield 10, 3) := by decide +kernel
theorem dX9_gets_32 : decode cX9_gets 32 = .ok (.iload_n 1, 1) := by decide +kernel
theorem dX9_gets_33 : decode cX9_gets 33 = .ok (.invokevirtual 219, 3) := by decide +kernel
theorem dX9_gets_36 : decode cX9_gets 36 = .ok (.aload_n 0, 1) := by decide +kernel
theorem dX9_gets_37 : decode cX9_gets 37 = .ok (.getfield 26, 3) := by decide +kernel
theorem dX9_gets_40 : decode cX9_gets 40 = .ok (.getfield 223, 3) := by decide +kernel
theorem dX9_gets_43 : decode cX9_gets 43 = .ok (.iload_n 2, 1) := by decide +kernel
theorem dX9_gets_44 : decode cX9_gets 44 = .ok (.iaload, 1) := by decide +kernel
theorem dX9_gets_45 : decode cX9_gets 45 = .ok (.ireturn, 1) := by decide +kernel
theorem ce_X9_gets : CeV RX9 yX9_gets cX9_gets 3 (some .int) 2 := ⟨tb_903, tb_904, tb_1, tb_905, rfl, by decide, by decide, by decide +kernel⟩
set_option maxHeartbeats 4000000 in
set_option maxRecDepth 20000 in
theorem V_X9_gets (l : Launch) (D : va_G) (A : Nat → Prop) (ad : Nat → Nat) (ns : List Nat) (I : MI) (L : ML) (G : MG) (a0 : Int32) (a1 : Int32) (hG : SGC ns G) (hI : INV I) : Met l yX9_gets (wd yX9_gets cX9_gets 3 (some .int)) ({ frames := 4, cells := 0, slots := 0, locals := 107 }) (va_Pc [.ref (ad (0)), .int a0, .int a1] (PM D A ad ns I L G)) (va_Qi (fun r u => ∃ I2 L2, u = (ad, ns, I2, L2, G) ∧ INV I2 ∧ Kp [(11, 15)] [(10, 2), (10, 3), (10, 4), (10, 5), (10, 6), (10, 7), (10, 11), (10, 12)] I I2) (BM D A) A) 0 0 A := by
  refine m_ofW (by decide) (Nat.le_of_ble_eq_true rfl) ?_
  intro p e s m below meth c ls args hC hE hM hA hS hl
  obtain ⟨hx, hb, hml, hown, hts, hr, hlocks, hin⟩ := hC
  have km1 : (-1 : Int32).toInt = -1 := by decide
  have k0 : (0 : Int32).toInt = 0 := by decide
  have hK : Kp [(11, 15)] [(10, 2), (10, 3), (10, 4), (10, 5), (10, 6), (10, 7), (10, 11), (10, 12)] I I := Kp.rf
  have hl : lv_has ls 3 [(0, .ref (ad (0))), (1, .int (a0)), (2, .int (a1))] := hl
  refine lv_aload_n hx hb dX9_gets_0 rfl (lv_at hl 0 rfl) ?_
  refine m_getr (0) 0 (100) hx hb hts hown hE oc9 hM (hG.1 0 (by decide)) rfl (by decide) rfl (hG.2 (0, 0, 100) (by decide)) (by decide) tb_398 dX9_gets_1 ?_
  refine lv_iload_n hx hb dX9_gets_4 rfl (lv_at hl 1 rfl) ?_
  refine m_calli (m_runV (100) (As := [.int (a0)]) (rest := []) hx hb hml hown hts hE hM hS hA ce_X8_isLit tb_906 (V_X8_isLit_100 l D A ad ns I L G (a0) hG hI) rfl rfl ⟨Nat.le_of_ble_eq_true rfl, Nat.le_of_ble_eq_true rfl⟩ (hG.1 100 (by decide)) rfl rfl (by decide) rfl hl.1 rfl (Nat.le_of_ble_eq_true rfl) dX9_gets_5 ⟨Nat.le_of_ble_eq_true rfl, Nat.le_of_ble_eq_true rfl⟩) hS (fun r1 u H locs hw hM hS => ?_)
  obtain ⟨rfl, xr1⟩ := hw
  have hM : Mem D A ad ns I L G H := hM
  have yr1 := bo01 xr1
  refine lv_if_eq (tgt := 22) hx hb dX9_gets_8 (by decide) (fun c2 => ?_) (fun c2 => ?_)
  · have hc2 := c2
    have q2 := xr1.f hc2
    refine lv_iconst (v := (-1)) hx hb dX9_gets_22 (by decide) ?_
    exact m_iret hx hb hr hlocks hM hS (Nat.le_of_ble_eq_true rfl) (Nat.le_of_ble_eq_true rfl) ⟨_, _, rfl, hI, hK⟩ dX9_gets_23
  · have hc2 := c2
    have q2 := xr1.t hc2
    have lh2 := q2.2.1
    refine lv_aload_n hx hb dX9_gets_11 rfl (lv_at hl 0 rfl) ?_
    refine m_getr (0) 0 (100) hx hb hts hown hE oc9 hM (hG.1 0 (by decide)) rfl (by decide) rfl (hG.2 (0, 0, 100) (by decide)) (by decide) tb_398 dX9_gets_12 ?_
    refine lv_iload_n hx hb dX9_gets_15 rfl (lv_at hl 2 rfl) ?_
    refine m_calli (m_runV (100) (As := [.int (a1)]) (rest := []) hx hb hml hown hts hE hM hS hA ce_X8_hasYard tb_893 (V_X8_hasYard_100 l D A ad ns I L G (a1) hG hI) rfl rfl ⟨Nat.le_of_ble_eq_true rfl, Nat.le_of_ble_eq_true rfl⟩ (hG.1 100 (by decide)) rfl rfl (by decide) rfl hl.1 rfl (Nat.le_of_ble_eq_true rfl) dX9_gets_16 ⟨Nat.le_of_ble_eq_true rfl, Nat.le_of_ble_eq_true rfl⟩) hS (fun r3 u H locs hw hM hS => ?_)
    obtain ⟨rfl, xr3⟩ := hw
    have hM : Mem D A ad ns I L G H := hM
    have yr3 := bo01 xr3
    have g4 := hI.get 100 9 (lo := 0) (hi := 8) rfl
    refine lv_if_ne (tgt := 24) hx hb dX9_gets_19 (by decide) (fun c5 => ?_) (fun c5 => ?_)
    · have hc5 := c5
      have q5 := xr3.t hc5
      refine lv_aload_n hx hb dX9_gets_24 rfl (lv_at hl 0 rfl) ?_
      refine m_getr (0) 3 (10) hx hb hts hown hE oc9 hM (hG.1 0 (by decide)) rfl (by decide) rfl (hG.2 (0, 3, 10) (by decide)) (by decide) tb_401 dX9_gets_25 ?_
      refine lv_aload_n hx hb dX9_gets_28 rfl (lv_at hl 0 rfl) ?_
      refine m_getr (0) 0 (100) hx hb hts hown hE oc9 hM (hG.1 0 (by decide)) rfl (by decide) rfl (hG.2 (0, 0, 100) (by decide)) (by decide) tb_398 dX9_gets_29 ?_
      refine lv_iload_n hx hb dX9_gets_32 rfl (lv_at hl 1 rfl) ?_
      refine m_callv (m_runV (10) (As := [.ref (ad (100)), .int (a0)]) (rest := []) hx hb hml hown hts hE hM hS hA ce_X1_shine tb_907 (V_X1_shine_100 l D A ad ns I L G (a0) hG hI (q2.2) (by first | omega | decide)) rfl rfl ⟨Nat.le_of_ble_eq_true rfl, Nat.le_of_ble_eq_true rfl⟩ (hG.1 10 (by decide)) rfl rfl (by decide) rfl hl.1 rfl (Nat.le_of_ble_eq_true rfl) dX9_gets_33 ⟨Nat.le_of_ble_eq_true rfl, Nat.le_of_ble_eq_true rfl⟩) hS (fun u H locs hw hM hS => ?_)
      obtain ⟨I6, L7, rfl, hI, hkI6⟩ := hw
      have hM : Mem D A ad ns I6 L7 G H := hM
      have hK := hK.trans hkI6 rfl
      refine lv_aload_n hx hb dX9_gets_36 rfl (lv_at hl 0 rfl) ?_
      refine m_getr (0) 3 (10) hx hb hts hown hE oc9 hM (hG.1 0 (by decide)) rfl (by decide) rfl (hG.2 (0, 3, 10) (by decide)) (by decide) tb_401 dX9_gets_37 ?_
      refine m_getr (10) 0 (11) hx hb hts hown hE oc1 hM (hG.1 10 (by decide)) rfl (by decide) rfl (hG.2 (10, 0, 11) (by decide)) (by decide) tb_133 dX9_gets_40 ?_
      refine lv_iload_n hx hb dX9_gets_43 rfl (lv_at hl 2 rfl) ?_
      refine m_iald (11) hx hb hE hM (hG.1 11 (by decide)) rfl (vp_in_iff.mpr (by omega)) dX9_gets_44 ?_
      exact m_iret hx hb hr hlocks hM hS (Nat.le_of_ble_eq_true rfl) (Nat.le_of_ble_eq_true rfl) ⟨_, _, rfl, hI, hK⟩ dX9_gets_45
    · have hc5 := c5
      have q5 := xr3.f hc5
      refine lv_iconst (v := (-1)) hx hb dX9_gets_22 (by decide) ?_
      exact m_iret hx hb hr hlocks hM hS (Nat.le_of_ble_eq_true rfl) (Nat.le_of_ble_eq_true rfl) ⟨_, _, rfl, hI, hK⟩ dX9_gets_23
theorem dX9_light_0 : decode cX9_light 0 = .ok (.aload_n 0, 1) := by decide +kernel
theorem dX9_light_1 : decode cX9_light 1 = .ok (.getfield 10, 3) := by decide +kernel
theorem dX9_light_4 : decode cX9_light 4 = .ok (.iload_n 1, 1) := by decide +kernel
theorem dX9_light_5 : decode cX9_light 5 = .ok (.invokevirtual 216, 3) := by decide +kernel
theorem dX9_light_8 : decode cX9_light 8 = .ok (.ifCond .ne 5, 3) := by decide +kernel
theorem dX9_light_11 : decode cX9_light 11 = .ok (.iconst (-1), 1) := by decide +kernel
theorem dX9_light_12 : decode cX9_light 12 = .ok (.ireturn, 1) := by decide +kernel
theorem dX9_light_13 : decode cX9_light 13 = .ok (.aload_n 0, 1) := by decide +kernel
theorem dX9_light_14 : decode cX9_light 14 = .ok (.getfield 26, 3) := by decide +kernel
theorem dX9_light_17 : decode cX9_light 17 = .ok (.aload_n 0, 1) := by decide +kernel
theorem dX9_light_18 : decode cX9_light 18 = .ok (.getfield 10, 3) := by decide +kernel
theorem dX9_light_21 : decode cX9_light 21 = .ok (.iload_n 1, 1) := by decide +kernel
theorem dX9_light_22 : decode cX9_light 22 = .ok (.invokevirtual 226, 3) := by decide +kernel
theorem dX9_light_25 : decode cX9_light 25 = .ok (.iload_n 2, 1) := by decide +kernel
theorem dX9_light_26 : decode cX9_light 26 = .ok (.tableswitch 106 0 6 #[42, 50, 58, 66, 74, 82, 94], 42) := by decide +kernel
theorem dX9_light_68 : decode cX9_light 68 = .ok (.aload_n 0, 1) := by decide +kernel
theorem dX9_light_69 : decode cX9_light 69 = .ok (.getfield 26, 3) := by decide +kernel
theorem dX9_light_72 : decode cX9_light 72 = .ok (.invokevirtual 229, 3) := by decide +kernel
theorem dX9_light_75 : decode cX9_light 75 = .ok (.ireturn, 1) := by decide +kernel
theorem dX9_light_76 : decode cX9_light 76 = .ok (.aload_n 0, 1) := by decide +kernel
theorem dX9_light_77 : decode cX9_light 77 = .ok (.getfield 26, 3) := by decide +kernel
theorem dX9_light_80 : decode cX9_light 80 = .ok (.getfield 232, 3) := by decide +kernel
theorem dX9_light_83 : decode cX9_light 83 = .ok (.ireturn, 1) := by decide +kernel
theorem dX9_light_84 : decode cX9_light 84 = .ok (.aload_n 0, 1) := by decide +kernel
theorem dX9_light_85 : decode cX9_light 85 = .ok (.getfield 26, 3) := by decide +kernel
theorem dX9_light_88 : decode cX9_light 88 = .ok (.getfield 235, 3) := by decide +kernel
theorem dX9_light_91 : decode cX9_light 91 = .ok (.ireturn, 1) := by decide +kernel
theorem dX9_light_92 : decode cX9_light 92 = .ok (.aload_n 0, 1) := by decide +kernel
theorem dX9_light_93 : decode cX9_light 93 = .ok (.getfield 26, 3) := by decide +kernel
theorem dX9_light_96 : decode cX9_light 96 = .ok (.getfield 238, 3) := by decide +kernel
theorem dX9_light_99 : decode cX9_light 99 = .ok (.ireturn, 1) := by decide +kernel
theorem dX9_light_100 : decode cX9_light 100 = .ok (.aload_n 0, 1) := by decide +kernel
theorem dX9_light_101 : decode cX9_light 101 = .ok (.getfield 26, 3) := by decide +kernel
theorem dX9_light_104 : decode cX9_light 104 = .ok (.getfield 241, 3) := by decide +kernel
theorem dX9_light_107 : decode cX9_light 107 = .ok (.ireturn, 1) := by decide +kernel
theorem dX9_light_108 : decode cX9_light 108 = .ok (.aload_n 0, 1) := by decide +kernel
theorem dX9_light_109 : decode cX9_light 109 = .ok (.getfield 26, 3) := by decide +kernel
theorem dX9_light_112 : decode cX9_light 112 = .ok (.aload_n 0, 1) := by decide +kernel
theorem dX9_light_113 : decode cX9_light 113 = .ok (.getfield 10, 3) := by decide +kernel
theorem dX9_light_116 : decode cX9_light 116 = .ok (.invokevirtual 244, 3) := by decide +kernel
theorem dX9_light_119 : decode cX9_light 119 = .ok (.ireturn, 1) := by decide +kernel
theorem dX9_light_120 : decode cX9_light 120 = .ok (.aload_n 0, 1) := by decide +kernel
theorem dX9_light_121 : decode cX9_light 121 = .ok (.getfield 26, 3) := by decide +kernel
theorem dX9_light_124 : decode cX9_light 124 = .ok (.aload_n 0, 1) := by decide +kernel
theorem dX9_light_125 : decode cX9_light 125 = .ok (.getfield 10, 3) := by decide +kernel
theorem dX9_light_128 : decode cX9_light 128 = .ok (.invokevirtual 248, 3) := by decide +kernel
theorem dX9_light_131 : decode cX9_light 131 = .ok (.ireturn, 1) := by decide +kernel
theorem dX9_light_132 : decode cX9_light 132 = .ok (.iconst (-1), 1) := by decide +kernel
theorem dX9_light_133 : decode cX9_light 133 = .ok (.ireturn, 1) := by decide +kernel
theorem ce_X9_light : CeV RX9 yX9_light cX9_light 3 (some .int) 2 := ⟨tb_909, tb_910, tb_1, tb_911, rfl, by decide, by decide, by decide +kernel⟩
set_option maxHeartbeats 4000000 in
set_option maxRecDepth 20000 in
theorem V_X9_light (l : Launch) (D : va_G) (A : Nat → Prop) (ad : Nat → Nat) (ns : List Nat) (I : MI) (L : ML) (G : MG) (a0 : Int32) (a1 : Int32) (hG : SGC ns G) (hI : INV I) : Met l yX9_light (wd yX9_light cX9_light 3 (some .int)) ({ frames := 5, cells := 0, slots := 0, locals := 129 }) (va_Pc [.ref (ad (0)), .int a0, .int a1] (PM D A ad ns I L G)) (va_Qi (fun r u => ∃ I2 L2, u = (ad, ns, I2, L2, G) ∧ INV I2 ∧ Kp [(11, 15)] [(10, 2), (10, 3), (10, 4), (10, 5), (10, 6), (10, 7), (10, 8), (10, 11), (10, 12)] I I2) (BM D A) A) 0 0 A := by
  refine m_ofW (by decide) (Nat.le_of_ble_eq_true rfl) ?_
  intro p e s m below meth c ls args hC hE hM hA hS hl
  obtain ⟨hx, hb, hml, hown, hts, hr, hlocks, hin⟩ := hC
  have km1 : (-1 : Int32).toInt = -1 := by decide
  have k0 : (0 : Int32).toInt = 0 := by decide
  have hK : Kp [(11, 15)] [(10, 2), (10, 3), (10, 4), (10, 5), (10, 6), (10, 7), (10, 8), (10, 11), (10, 12)] I I := Kp.rf
  have hl : lv_has ls 3 [(0, .ref (ad (0))), (1, .int (a0)), (2, .int (a1))] := hl
  refine lv_aload_n hx hb dX9_light_0 rfl (lv_at hl 0 rfl) ?_
  refine m_getr (0) 0 (100) hx hb hts hown hE oc9 hM (hG.1 0 (by decide)) rfl (by decide) rfl (hG.2 (0, 0, 100) (by decide)) (by decide) tb_398 dX9_light_1 ?_
  refine lv_iload_n hx hb dX9_light_4 rfl (lv_at hl 1 rfl) ?_
  refine m_calli (m_runV (100) (As := [.int (a0)]) (rest := []) hx hb hml hown hts hE hM hS hA ce_X8_isLit tb_906 (V_X8_isLit_100 l D A ad ns I L G (a0) hG hI) rfl rfl ⟨Nat.le_of_ble_eq_true rfl, Nat.le_of_ble_eq_true rfl⟩ (hG.1 100 (by decide)) rfl rfl (by decide) rfl hl.1 rfl (Nat.le_of_ble_eq_true rfl) dX9_light_5 ⟨Nat.le_of_ble_eq_true rfl, Nat.le_of_ble_eq_true rfl⟩) hS (fun r1 u H locs hw hM hS => ?_)
  obtain ⟨rfl, xr1⟩ := hw
  have hM : Mem D A ad ns I L G H := hM
  have yr1 := bo01 xr1
  refine lv_if_ne (tgt := 13) hx hb dX9_light_8 (by decide) (fun c2 => ?_) (fun c2 => ?_)
  · have hc2 := c2
    have q2 := xr1.t hc2
    have lh2 := q2.2.1
    refine lv_aload_n hx hb dX9_light_13 rfl (lv_at hl 0 rfl) ?_
    refine m_getr (0) 3 (10) hx hb hts hown hE oc9 hM (hG.1 0 (by decide)) rfl (by decide) rfl (hG.2 (0, 3, 10) (by decide)) (by decide) tb_401 dX9_light_14 ?_
    refine lv_aload_n hx hb dX9_light_17 rfl (lv_at hl 0 rfl) ?_
    refine m_getr (0) 0 (100) hx hb hts hown hE oc9 hM (hG.1 0 (by decide)) rfl (by decide) rfl (hG.2 (0, 0, 100) (by decide)) (by decide) tb_398 dX9_light_18 ?_
    refine lv_iload_n hx hb dX9_light_21 rfl (lv_at hl 1 rfl) ?_
    refine m_callv (m_runV (10) (As := [.ref (ad (100)), .int (a0)]) (rest := []) hx hb hml hown hts hE hM hS hA ce_X1_shineWatched tb_912 (V_X1_shineWatched_100 l D A ad ns I L G (a0) hG hI (q2.2) (by first | omega | decide)) rfl rfl ⟨Nat.le_of_ble_eq_true rfl, Nat.le_of_ble_eq_true rfl⟩ (hG.1 10 (by decide)) rfl rfl (by decide) rfl hl.1 rfl (Nat.le_of_ble_eq_true rfl) dX9_light_22 ⟨Nat.le_of_ble_eq_true rfl, Nat.le_of_ble_eq_true rfl⟩) hS (fun u H locs hw hM hS => ?_)
    obtain ⟨I3, L4, rfl, hI, hkI3⟩ := hw
    have hM : Mem D A ad ns I3 L4 G H := hM
    have hK := hK.trans hkI3 rfl
    refine lv_iload_n hx hb dX9_light_25 rfl (lv_at hl 2 rfl) ?_
    by_cases c5 : (a1).toInt < 0 ∨ 6 < (a1).toInt
    · refine lv_tableOut (tgt := 132) hx hb dX9_light_26 c5 (by decide) ?_
      refine lv_iconst (v := (-1)) hx hb dX9_light_132 (by decide) ?_
      exact m_iret hx hb hr hlocks hM hS (Nat.le_of_ble_eq_true rfl) (Nat.le_of_ble_eq_true rfl) ⟨_, _, rfl, hI, hK⟩ dX9_light_133
    · have qc5 : (a1).toInt = 0 ∨ (a1).toInt = 1 ∨ (a1).toInt = 2 ∨ (a1).toInt = 3 ∨ (a1).toInt = 4 ∨ (a1).toInt = 5 ∨ (a1).toInt = 6 := by omega
      rcases qc5 with qc5 | qc5 | qc5 | qc5 | qc5 | qc5 | qc5
      · refine lv_tableIn (off := 42) (tgt := 68) hx hb dX9_light_26 (by omega) (by omega) (by rw [qc5]; rfl) (by decide) ?_
        refine lv_aload_n hx hb dX9_light_68 rfl (lv_at hl 0 rfl) ?_
        refine m_getr (0) 3 (10) hx hb hts hown hE oc9 hM (hG.1 0 (by decide)) rfl (by decide) rfl (hG.2 (0, 3, 10) (by decide)) (by decide) tb_401 dX9_light_69 ?_
        refine m_calli (m_runV (10) (As := []) (rest := []) hx hb hml hown hts hE hM hS hA ce_X1_total tb_913 (V_X1_total l D A ad ns I3 L4 G hG hI) rfl rfl ⟨Nat.le_of_ble_eq_true rfl, Nat.le_of_ble_eq_true rfl⟩ (hG.1 10 (by decide)) rfl rfl (by decide) rfl hl.1 rfl (Nat.le_of_ble_eq_true rfl) dX9_light_72 ⟨Nat.le_of_ble_eq_true rfl, Nat.le_of_ble_eq_true rfl⟩) hS (fun r6 u H locs hw hM hS => ?_)
        obtain ⟨rfl, xr6⟩ := hw
        have hM : Mem D A ad ns I3 L4 G H := hM
        exact m_iret hx hb hr hlocks hM hS (Nat.le_of_ble_eq_true rfl) (Nat.le_of_ble_eq_true rfl) ⟨_, _, rfl, hI, hK⟩ dX9_light_75
      · refine lv_tableIn (off := 50) (tgt := 76) hx hb dX9_light_26 (by omega) (by omega) (by rw [qc5]; rfl) (by decide) ?_
        refine lv_aload_n hx hb dX9_light_76 rfl (lv_at hl 0 rfl) ?_
        refine m_getr (0) 3 (10) hx hb hts hown hE oc9 hM (hG.1 0 (by decide)) rfl (by decide) rfl (hG.2 (0, 3, 10) (by decide)) (by decide) tb_401 dX9_light_77 ?_
        refine m_geti (10) 2 hx hb hts hown hE oc1 hM (hG.1 10 (by decide)) rfl (by decide) rfl tb_137 dX9_light_80 ?_
        exact m_iret hx hb hr hlocks hM hS (Nat.le_of_ble_eq_true rfl) (Nat.le_of_ble_eq_true rfl) ⟨_, _, rfl, hI, hK⟩ dX9_light_83
      · refine lv_tableIn (off := 58) (tgt := 84) hx hb dX9_light_26 (by omega) (by omega) (by rw [qc5]; rfl) (by decide) ?_
        refine lv_aload_n hx hb dX9_light_84 rfl (lv_at hl 0 rfl) ?_
        refine m_getr (0) 3 (10) hx hb hts hown hE oc9 hM (hG.1 0 (by decide)) rfl (by decide) rfl (hG.2 (0, 3, 10) (by decide)) (by decide) tb_401 dX9_light_85 ?_
        refine m_geti (10) 3 hx hb hts hown hE oc1 hM (hG.1 10 (by decide)) rfl (by decide) rfl tb_139 dX9_light_88 ?_
        exact m_iret hx hb hr hlocks hM hS (Nat.le_of_ble_eq_true rfl) (Nat.le_of_ble_eq_true rfl) ⟨_, _, rfl, hI, hK⟩ dX9_light_91
      · refine lv_tableIn (off := 66) (tgt := 92) hx hb dX9_light_26 (by omega) (by omega) (by rw [qc5]; rfl) (by decide) ?_
        refine lv_aload_n hx hb dX9_light_92 rfl (lv_at hl 0 rfl) ?_
        refine m_getr (0) 3 (10) hx hb hts hown hE oc9 hM (hG.1 0 (by decide)) rfl (by decide) rfl (hG.2 (0, 3, 10) (by decide)) (by decide) tb_401 dX9_light_93 ?_
        refine m_geti (10) 4 hx hb hts hown hE oc1 hM (hG.1 10 (by decide)) rfl (by decide) rfl tb_141 dX9_light_96 ?_
        have g7 := hI.get (10) 4 (lo := 0) (hi := 2000) rfl
        exact m_iret hx hb hr hlocks hM hS (Nat.le_of_ble_eq_true rfl) (Nat.le_of_ble_eq_true rfl) ⟨_, _, rfl, hI, hK⟩ dX9_light_99
      · refine lv_tableIn (off := 74) (tgt := 100) hx hb dX9_light_26 (by omega) (by omega) (by rw [qc5]; rfl) (by decide) ?_
        refine lv_aload_n hx hb dX9_light_100 rfl (lv_at hl 0 rfl) ?_
        refine m_getr (0) 3 (10) hx hb hts hown hE oc9 hM (hG.1 0 (by decide)) rfl (by decide) rfl (hG.2 (0, 3, 10) (by decide)) (by decide) tb_401 dX9_light_101 ?_
        refine m_geti (10) 5 hx hb hts hown hE oc1 hM (hG.1 10 (by decide)) rfl (by decide) rfl tb_143 dX9_light_104 ?_
        exact m_iret hx hb hr hlocks hM hS (Nat.le_of_ble_eq_true rfl) (Nat.le_of_ble_eq_true rfl) ⟨_, _, rfl, hI, hK⟩ dX9_light_107
      · refine lv_tableIn (off := 82) (tgt := 108) hx hb dX9_light_26 (by omega) (by omega) (by rw [qc5]; rfl) (by decide) ?_
        refine lv_aload_n hx hb dX9_light_108 rfl (lv_at hl 0 rfl) ?_
        refine m_getr (0) 3 (10) hx hb hts hown hE oc9 hM (hG.1 0 (by decide)) rfl (by decide) rfl (hG.2 (0, 3, 10) (by decide)) (by decide) tb_401 dX9_light_109 ?_
        refine lv_aload_n hx hb dX9_light_112 rfl (lv_at hl 0 rfl) ?_
        refine m_getr (0) 0 (100) hx hb hts hown hE oc9 hM (hG.1 0 (by decide)) rfl (by decide) rfl (hG.2 (0, 0, 100) (by decide)) (by decide) tb_398 dX9_light_113 ?_
        refine m_calli (m_runV (10) (As := [.ref (ad (100))]) (rest := []) hx hb hml hown hts hE hM hS hA ce_X1_blindCount tb_917 (V_X1_blindCount_100 l D A ad ns I3 L4 G hG hI) rfl rfl ⟨Nat.le_of_ble_eq_true rfl, Nat.le_of_ble_eq_true rfl⟩ (hG.1 10 (by decide)) rfl rfl (by decide) rfl hl.1 rfl (Nat.le_of_ble_eq_true rfl) dX9_light_116 ⟨Nat.le_of_ble_eq_true rfl, Nat.le_of_ble_eq_true rfl⟩) hS (fun r8 u H locs hw hM hS => ?_)
        obtain ⟨rfl, xr8⟩ := hw
        have hM : Mem D A ad ns I3 L4 G H := hM
        exact m_iret hx hb hr hlocks hM hS (Nat.le_of_ble_eq_true rfl) (Nat.le_of_ble_eq_true rfl) ⟨_, _, rfl, hI, hK⟩ dX9_light_119
      · refine lv_tableIn (off := 94) (tgt := 120) hx hb dX9_light_26 (by omega) (by omega) (by rw [qc5]; rfl) (by decide) ?_
        refine lv_aload_n hx hb dX9_light_120 rfl (lv_at hl 0 rfl) ?_
        refine m_getr (0) 3 (10) hx hb hts hown hE oc9 hM (hG.1 0 (by decide)) rfl (by decide) rfl (hG.2 (0, 3, 10) (by decide)) (by decide) tb_401 dX9_light_121 ?_
        refine lv_aload_n hx hb dX9_light_124 rfl (lv_at hl 0 rfl) ?_
        refine m_getr (0) 0 (100) hx hb hts hown hE oc9 hM (hG.1 0 (by decide)) rfl (by decide) rfl (hG.2 (0, 0, 100) (by decide)) (by decide) tb_398 dX9_light_125 ?_
        refine m_calli (m_runV (10) (As := [.ref (ad (100))]) (rest := []) hx hb hml hown hts hE hM hS hA ce_X1_firstBlind tb_921 (V_X1_firstBlind_100 l D A ad ns I3 L4 G hG hI) rfl rfl ⟨Nat.le_of_ble_eq_true rfl, Nat.le_of_ble_eq_true rfl⟩ (hG.1 10 (by decide)) rfl rfl (by decide) rfl hl.1 rfl (Nat.le_of_ble_eq_true rfl) dX9_light_128 ⟨Nat.le_of_ble_eq_true rfl, Nat.le_of_ble_eq_true rfl⟩) hS (fun r9 u H locs hw hM hS => ?_)
        obtain ⟨rfl, xr9⟩ := hw
        have hM : Mem D A ad ns I3 L4 G H := hM
        exact m_iret hx hb hr hlocks hM hS (Nat.le_of_ble_eq_true rfl) (Nat.le_of_ble_eq_true rfl) ⟨_, _, rfl, hI, hK⟩ dX9_light_131
  · have hc2 := c2
    have q2 := xr1.f hc2
    refine lv_iconst (v := (-1)) hx hb dX9_light_11 (by decide) ?_
    exact m_iret hx hb hr hlocks hM hS (Nat.le_of_ble_eq_true rfl) (Nat.le_of_ble_eq_true rfl) ⟨_, _, rfl, hI, hK⟩ dX9_light_12
theorem dX9_passes_0 : decode cX9_passes 0 = .ok (.aload_n 0, 1) := by decide +kernel
theorem dX9_passes_1 : decode cX9_passes 1 = .ok (.getfield 10, 3) := by decide +kernel
theorem dX9_passes_4 : decode cX9_passes 4 = .ok (.iload_n 1, 1) := by decide +kernel
theorem dX9_passes_5 : decode cX9_passes 5 = .ok (.invokevirtual 216, 3) := by decide +kernel
theorem dX9_passes_8 : decode cX9_passes 8 = .ok (.ifCond .eq 15, 3) := by decide +kernel
theorem dX9_passes_11 : decode cX9_passes 11 = .ok (.aload_n 0, 1) := by decide +kernel
theorem dX9_passes_12 : decode cX9_passes 12 = .ok (.getfield 10, 3) := by decide +kernel
theorem dX9_passes_15 : decode cX9_passes 15 = .ok (.iload_n 2, 1) := by decide +kernel
theorem dX9_passes_16 : decode cX9_passes 16 = .ok (.iload_n 3, 1) := by decide +kernel
theorem dX9_passes_17 : decode cX9_passes 17 = .ok (.invokevirtual 122, 3) := by decide +kernel
theorem dX9_passes_20 : decode cX9_passes 20 = .ok (.ifCond .ne 5, 3) := by decide +kernel
theorem dX9_passes_23 : decode cX9_passes 23 = .ok (.iconst (-1), 1) := by decide +kernel
theorem dX9_passes_24 : decode cX9_passes 24 = .ok (.ireturn, 1) := by decide +kernel
theorem dX9_passes_25 : decode cX9_passes 25 = .ok (.aload_n 0, 1) := by decide +kernel
theorem dX9_passes_26 : decode cX9_passes 26 = .ok (.getfield 26, 3) := by decide +kernel
theorem dX9_passes_29 : decode cX9_passes 29 = .ok (.aload_n 0, 1) := by decide +kernel
theorem dX9_passes_30 : decode cX9_passes 30 = .ok (.getfield 10, 3) := by decide +kernel
theorem dX9_passes_33 : decode cX9_passes 33 = .ok (.iload_n 1, 1) := by decide +kernel
theorem dX9_passes_34 : decode cX9_passes 34 = .ok (.invokevirtual 226, 3) := by decide +kernel
theorem dX9_passes_37 : decode cX9_passes 37 = .ok (.aload_n 0, 1) := by decide +kernel
theorem dX9_passes_38 : decode cX9_passes 38 = .ok (.getfield 26, 3) := by decide +kernel
theorem dX9_passes_41 : decode cX9_passes 41 = .ok (.getfield 251, 3) := by decide +kernel
theorem dX9_passes_44 : decode cX9_passes 44 = .ok (.iload_n 2, 1) := by decide +kernel
theorem dX9_passes_45 : decode cX9_passes 45 = .ok (.iload_n 3, 1) := by decide +kernel
theorem dX9_passes_46 : decode cX9_passes 46 = .ok (.invokestatic 129, 3) := by decide +kernel
theorem dX9_passes_49 : decode cX9_passes 49 = .ok (.iaload, 1) := by decide +kernel
theorem dX9_passes_50 : decode cX9_passes 50 = .ok (.ireturn, 1) := by decide +kernel
theorem ce_X9_passes : CeV RX9 yX9_passes cX9_passes 4 (some .int) 3 := ⟨tb_923, tb_924, tb_1, tb_925, rfl, by decide, by decide, by decide +kernel⟩
set_option maxHeartbeats 4000000 in
set_option maxRecDepth 20000 in
theorem V_X9_passes (l : Launch) (D : va_G) (A : Nat → Prop) (ad : Nat → Nat) (ns : List Nat) (I : MI) (L : ML) (G : MG) (a0 : Int32) (a1 : Int32) (a2 : Int32) (hG : SGC ns G) (hI : INV I) : Met l yX9_passes (wd yX9_passes cX9_passes 4 (some .int)) ({ frames := 5, cells := 0, slots := 0, locals := 129 }) (va_Pc [.ref (ad (0)), .int a0, .int a1, .int a2] (PM D A ad ns I L G)) (va_Qi (fun r u => ∃ I2 L2, u = (ad, ns, I2, L2, G) ∧ INV I2 ∧ Kp [(11, 15)] [(10, 2), (10, 3), (10, 4), (10, 5), (10, 6), (10, 7), (10, 8), (10, 11), (10, 12)] I I2) (BM D A) A) 0 0 A := by
  refine m_ofW (by decide) (Nat.le_of_ble_eq_true rfl) ?_
  intro p e s m below meth c ls args hC hE hM hA hS hl
  obtain ⟨hx, hb, hml, hown, hts, hr, hlocks, hin⟩ := hC
  have km1 : (-1 : Int32).toInt = -1 := by decide
  have k0 : (0 : Int32).toInt = 0 := by decide
  have hK : Kp [(11, 15)] [(10, 2), (10, 3), (10, 4), (10, 5), (10, 6), (10, 7), (10, 8), (10, 11), (10, 12)] I I := Kp.rf
  have hl : lv_has ls 4 [(0, .ref (ad (0))), (1, .int (a0)), (2, .int (a1)), (3, .int (a2))] := hl
  refine lv_aload_n hx hb dX9_passes_0 rfl (lv_at hl 0 rfl) ?_
  refine m_getr (0) 0 (100) hx hb hts hown hE oc9 hM (hG.1 0 (by decide)) rfl (by decide) rfl (hG.2 (0, 0, 100) (by decide)) (by decide) tb_398 dX9_passes_1 ?_
  refine lv_iload_n hx hb dX9_passes_4 rfl (lv_at hl 1 rfl) ?_
  refine m_calli (m_runV (100) (As := [.int (a0)]) (rest := []) hx hb hml hown hts hE hM hS hA ce_X8_isLit tb_906 (V_X8_isLit_100 l D A ad ns I L G (a0) hG hI) rfl rfl ⟨Nat.le_of_ble_eq_true rfl, Nat.le_of_ble_eq_true rfl⟩ (hG.1 100 (by decide)) rfl rfl (by decide) rfl hl.1 rfl (Nat.le_of_ble_eq_true rfl) dX9_passes_5 ⟨Nat.le_of_ble_eq_true rfl, Nat.le_of_ble_eq_true rfl⟩) hS (fun r1 u H locs hw hM hS => ?_)
  obtain ⟨rfl, xr1⟩ := hw
  have hM : Mem D A ad ns I L G H := hM
  have yr1 := bo01 xr1
  refine lv_if_eq (tgt := 23) hx hb dX9_passes_8 (by decide) (fun c2 => ?_) (fun c2 => ?_)
  · have hc2 := c2
    have q2 := xr1.f hc2
    refine lv_iconst (v := (-1)) hx hb dX9_passes_23 (by decide) ?_
    exact m_iret hx hb hr hlocks hM hS (Nat.le_of_ble_eq_true rfl) (Nat.le_of_ble_eq_true rfl) ⟨_, _, rfl, hI, hK⟩ dX9_passes_24
  · have hc2 := c2
    have q2 := xr1.t hc2
    have lh2 := q2.2.1
    refine lv_aload_n hx hb dX9_passes_11 rfl (lv_at hl 0 rfl) ?_
    refine m_getr (0) 0 (100) hx hb hts hown hE oc9 hM (hG.1 0 (by decide)) rfl (by decide) rfl (hG.2 (0, 0, 100) (by decide)) (by decide) tb_398 dX9_passes_12 ?_
    refine lv_iload_n hx hb dX9_passes_15 rfl (lv_at hl 2 rfl) ?_
    refine lv_iload_n hx hb dX9_passes_16 rfl (lv_at hl 3 rfl) ?_
    refine m_calli (m_runV (100) (As := [.int (a1), .int (a2)]) (rest := []) hx hb hml hown hts hE hM hS hA ce_X8_hasCell tb_493 (V_X8_hasCell_100 l D A ad ns I L G (a1) (a2) hG hI) rfl rfl ⟨Nat.le_of_ble_eq_true rfl, Nat.le_of_ble_eq_true rfl⟩ (hG.1 100 (by decide)) rfl rfl (by decide) rfl hl.1 rfl (Nat.le_of_ble_eq_true rfl) dX9_passes_17 ⟨Nat.le_of_ble_eq_true rfl, Nat.le_of_ble_eq_true rfl⟩) hS (fun r3 u H locs hw hM hS => ?_)
    obtain ⟨rfl, xr3⟩ := hw
    have hM : Mem D A ad ns I L G H := hM
    have yr3 := bo01 xr3
    have g4 := hI.get 100 0 (lo := 0) (hi := 24) rfl
    have g5 := hI.get 100 1 (lo := 0) (hi := 24) rfl
    refine lv_if_ne (tgt := 25) hx hb dX9_passes_20 (by decide) (fun c6 => ?_) (fun c6 => ?_)
    · have hc6 := c6
      have q6 := xr3.t hc6
      refine lv_aload_n hx hb dX9_passes_25 rfl (lv_at hl 0 rfl) ?_
      refine m_getr (0) 3 (10) hx hb hts hown hE oc9 hM (hG.1 0 (by decide)) rfl (by decide) rfl (hG.2 (0, 3, 10) (by decide)) (by decide) tb_401 dX9_passes_26 ?_
      refine lv_aload_n hx hb dX9_passes_29 rfl (lv_at hl 0 rfl) ?_
      refine m_getr (0) 0 (100) hx hb hts hown hE oc9 hM (hG.1 0 (by decide)) rfl (by decide) rfl (hG.2 (0, 0, 100) (by decide)) (by decide) tb_398 dX9_passes_30 ?_
      refine lv_iload_n hx hb dX9_passes_33 rfl (lv_at hl 1 rfl) ?_
      refine m_callv (m_runV (10) (As := [.ref (ad (100)), .int (a0)]) (rest := []) hx hb hml hown hts hE hM hS hA ce_X1_shineWatched tb_912 (V_X1_shineWatched_100 l D A ad ns I L G (a0) hG hI (q2.2) (by first | omega | decide)) rfl rfl ⟨Nat.le_of_ble_eq_true rfl, Nat.le_of_ble_eq_true rfl⟩ (hG.1 10 (by decide)) rfl rfl (by decide) rfl hl.1 rfl (Nat.le_of_ble_eq_true rfl) dX9_passes_34 ⟨Nat.le_of_ble_eq_true rfl, Nat.le_of_ble_eq_true rfl⟩) hS (fun u H locs hw hM hS => ?_)
      obtain ⟨I7, L8, rfl, hI, hkI7⟩ := hw
      have hM : Mem D A ad ns I7 L8 G H := hM
      have hK := hK.trans hkI7 rfl
      refine lv_aload_n hx hb dX9_passes_37 rfl (lv_at hl 0 rfl) ?_
      refine m_getr (0) 3 (10) hx hb hts hown hE oc9 hM (hG.1 0 (by decide)) rfl (by decide) rfl (hG.2 (0, 3, 10) (by decide)) (by decide) tb_401 dX9_passes_38 ?_
      refine m_getr (10) 1 (12) hx hb hts hown hE oc1 hM (hG.1 10 (by decide)) rfl (by decide) rfl (hG.2 (10, 1, 12) (by decide)) (by decide) tb_135 dX9_passes_41 ?_
      refine lv_iload_n hx hb dX9_passes_44 rfl (lv_at hl 2 rfl) ?_
      refine lv_iload_n hx hb dX9_passes_45 rfl (lv_at hl 3 rfl) ?_
      refine m_calli (m_runS (As := [.int (a1), .int (a2)]) (rest := [.ref (ad (12))]) hx hb hml hown hts hE hM hS hA ce_X9_cellOf tb_494 (V_X9_cellOf l D A ad ns I7 L8 G (a1) (a2) hI (by first | omega | decide) (by first | omega | decide)) rfl rfl ⟨Nat.le_of_ble_eq_true rfl, Nat.le_of_ble_eq_true rfl⟩  rfl hl.1 rfl (Nat.le_of_ble_eq_true rfl) dX9_passes_46 ⟨Nat.le_of_ble_eq_true rfl, Nat.le_of_ble_eq_true rfl⟩) hS (fun r9 u H locs hw hM hS => ?_)
      obtain ⟨rfl, xr9⟩ := hw
      have hM : Mem D A ad ns I7 L8 G H := hM
      refine m_iald (12) hx hb hE hM (hG.1 12 (by decide)) rfl (vp_in_iff.mpr (by omega)) dX9_passes_49 ?_
      exact m_iret hx hb hr hlocks hM hS (Nat.le_of_ble_eq_true rfl) (Nat.le_of_ble_eq_true rfl) ⟨_, _, rfl, hI, hK⟩ dX9_passes_50
    · have hc6 := c6
      have q6 := xr3.f hc6
      refine lv_iconst (v := (-1)) hx hb dX9_passes_23 (by decide) ?_
      exact m_iret hx hb hr hlocks hM hS (Nat.le_of_ble_eq_true rfl) (Nat.le_of_ble_eq_true rfl) ⟨_, _, rfl, hI, hK⟩ dX9_passes_24
theorem dX9_worth_0 : decode cX9_worth 0 = .ok (.aload_n 0, 1) := by decide +kernel
theorem dX9_worth_1 : decode cX9_worth 1 = .ok (.getfield 10, 3) := by decide +kernel
theorem dX9_worth_4 : decode cX9_worth 4 = .ok (.iload_n 1, 1) := by decide +kernel
theorem dX9_worth_5 : decode cX9_worth 5 = .ok (.invokevirtual 216, 3) := by decide +kernel
theorem dX9_worth_8 : decode cX9_worth 8 = .ok (.ifCond .eq 14, 3) := by decide +kernel
theorem dX9_worth_11 : decode cX9_worth 11 = .ok (.aload_n 0, 1) := by decide +kernel
theorem dX9_worth_12 : decode cX9_worth 12 = .ok (.getfield 10, 3) := by decide +kernel
theorem dX9_worth_15 : decode cX9_worth 15 = .ok (.iload_n 2, 1) := by decide +kernel
theorem dX9_worth_16 : decode cX9_worth 16 = .ok (.invokevirtual 144, 3) := by decide +kernel
theorem dX9_worth_19 : decode cX9_worth 19 = .ok (.ifCond .ne 7, 3) := by decide +kernel
theorem dX9_worth_22 : decode cX9_worth 22 = .ok (.ldc_w 260, 3) := by decide +kernel
theorem dX9_worth_25 : decode cX9_worth 25 = .ok (.ireturn, 1) := by decide +kernel
theorem dX9_worth_26 : decode cX9_worth 26 = .ok (.aload_n 0, 1) := by decide +kernel
theorem dX9_worth_27 : decode cX9_worth 27 = .ok (.iload_n 1, 1) := by decide +kernel
theorem dX9_worth_28 : decode cX9_worth 28 = .ok (.iconst 1, 1) := by decide +kernel
theorem dX9_worth_29 : decode cX9_worth 29 = .ok (.iload_n 2, 1) := by decide +kernel
theorem dX9_worth_30 : decode cX9_worth 30 = .ok (.ishl, 1) := by decide +kernel
theorem dX9_worth_31 : decode cX9_worth 31 = .ok (.invokevirtual 261, 3) := by decide +kernel
theorem dX9_worth_34 : decode cX9_worth 34 = .ok (.ireturn, 1) := by decide +kernel
theorem ce_X9_worth : CeV RX9 yX9_worth cX9_worth 3 (some .int) 2 := ⟨tb_932, tb_933, tb_1, tb_934, rfl, by decide, by decide, by decide +kernel⟩
set_option maxHeartbeats 4000000 in
set_option maxRecDepth 20000 in
theorem V_X9_worth (l : Launch) (D : va_G) (A : Nat → Prop) (ad : Nat → Nat) (ns : List Nat) (I : MI) (L : ML) (G : MG) (a0 : Int32) (a1 : Int32) (hG : SGC ns G) (hI : INV I) : Met l yX9_worth (wd yX9_worth cX9_worth 3 (some .int)) ({ frames := 5, cells := 0, slots := 0, locals := 131 }) (va_Pc [.ref (ad (0)), .int a0, .int a1] (PM D A ad ns I L G)) (va_Qi (fun r u => ∃ I2 L2, u = (ad, ns, I2, L2, G) ∧ INV I2 ∧ Kp [(11, 15), (107, 108)] [(10, 2), (10, 3), (10, 4), (10, 5), (10, 6), (10, 7), (10, 11), (10, 12)] I I2) (BM D A) A) 0 0 A := by
  refine m_ofW (by decide) (Nat.le_of_ble_eq_true rfl) ?_
  intro p e s m below meth c ls args hC hE hM hA hS hl
  obtain ⟨hx, hb, hml, hown, hts, hr, hlocks, hin⟩ := hC
  have km1000000 : (-1000000 : Int32).toInt = -1000000 := by decide
  have k0 : (0 : Int32).toInt = 0 := by decide
  have k1 : (1 : Int32).toInt = 1 := by decide
  have hK : Kp [(11, 15), (107, 108)] [(10, 2), (10, 3), (10, 4), (10, 5), (10, 6), (10, 7), (10, 11), (10, 12)] I I := Kp.rf
  have hl : lv_has ls 3 [(0, .ref (ad (0))), (1, .int (a0)), (2, .int (a1))] := hl
  refine lv_aload_n hx hb dX9_worth_0 rfl (lv_at hl 0 rfl) ?_
  refine m_getr (0) 0 (100) hx hb hts hown hE oc9 hM (hG.1 0 (by decide)) rfl (by decide) rfl (hG.2 (0, 0, 100) (by decide)) (by decide) tb_398 dX9_worth_1 ?_
  refine lv_iload_n hx hb dX9_worth_4 rfl (lv_at hl 1 rfl) ?_
  refine m_calli (m_runV (100) (As := [.int (a0)]) (rest := []) hx hb hml hown hts hE hM hS hA ce_X8_isLit tb_906 (V_X8_isLit_100 l D A ad ns I L G (a0) hG hI) rfl rfl ⟨Nat.le_of_ble_eq_true rfl, Nat.le_of_ble_eq_true rfl⟩ (hG.1 100 (by decide)) rfl rfl (by decide) rfl hl.1 rfl (Nat.le_of_ble_eq_true rfl) dX9_worth_5 ⟨Nat.le_of_ble_eq_true rfl, Nat.le_of_ble_eq_true rfl⟩) hS (fun r1 u H locs hw hM hS => ?_)
  obtain ⟨rfl, xr1⟩ := hw
  have hM : Mem D A ad ns I L G H := hM
  have yr1 := bo01 xr1
  refine lv_if_eq (tgt := 22) hx hb dX9_worth_8 (by decide) (fun c2 => ?_) (fun c2 => ?_)
  · have hc2 := c2
    have q2 := xr1.f hc2
    refine lv_ldcw (v := (-1000000)) hx hb hown (hts _ tb_935) dX9_worth_22 ?_
    exact m_iret hx hb hr hlocks hM hS (Nat.le_of_ble_eq_true rfl) (Nat.le_of_ble_eq_true rfl) ⟨_, _, rfl, hI, hK⟩ dX9_worth_25
  · have hc2 := c2
    have q2 := xr1.t hc2
    have lh2 := q2.2.1
    refine lv_aload_n hx hb dX9_worth_11 rfl (lv_at hl 0 rfl) ?_
    refine m_getr (0) 0 (100) hx hb hts hown hE oc9 hM (hG.1 0 (by decide)) rfl (by decide) rfl (hG.2 (0, 0, 100) (by decide)) (by decide) tb_398 dX9_worth_12 ?_
    refine lv_iload_n hx hb dX9_worth_15 rfl (lv_at hl 2 rfl) ?_
    refine m_calli (m_runV (100) (As := [.int (a1)]) (rest := []) hx hb hml hown hts hE hM hS hA ce_X8_hasMirror tb_508 (V_X8_hasMirror_100 l D A ad ns I L G (a1) hG hI) rfl rfl ⟨Nat.le_of_ble_eq_true rfl, Nat.le_of_ble_eq_true rfl⟩ (hG.1 100 (by decide)) rfl rfl (by decide) rfl hl.1 rfl (Nat.le_of_ble_eq_true rfl) dX9_worth_16 ⟨Nat.le_of_ble_eq_true rfl, Nat.le_of_ble_eq_true rfl⟩) hS (fun r3 u H locs hw hM hS => ?_)
    obtain ⟨rfl, xr3⟩ := hw
    have hM : Mem D A ad ns I L G H := hM
    have yr3 := bo01 xr3
    have g4 := hI.get 100 8 (lo := 0) (hi := 24) rfl
    refine lv_if_ne (tgt := 26) hx hb dX9_worth_19 (by decide) (fun c5 => ?_) (fun c5 => ?_)
    · have hc5 := c5
      have q5 := xr3.t hc5
      refine lv_aload_n hx hb dX9_worth_26 rfl (lv_at hl 0 rfl) ?_
      refine lv_iload_n hx hb dX9_worth_27 rfl (lv_at hl 1 rfl) ?_
      refine lv_iconst (v := (1)) hx hb dX9_worth_28 (by decide) ?_
      refine lv_iload_n hx hb dX9_worth_29 rfl (lv_at hl 2 rfl) ?_
      refine lv_ishl hx hb dX9_worth_30 ?_
      refine lv_topi (fun v6 ev6 => ?_)
      refine m_calli (m_runV (0) (As := [.int (a0), .int (v6)]) (rest := []) hx hb hml hown hts hE hM hS hA ce_X9_worthOfSet tb_936 (V_X9_worthOfSet l D A ad ns I L G (a0) (v6) hG hI (q2.2) (by first | omega | decide)) rfl rfl ⟨Nat.le_of_ble_eq_true rfl, Nat.le_of_ble_eq_true rfl⟩ (hG.1 0 (by decide)) rfl rfl (by decide) rfl hl.1 rfl (Nat.le_of_ble_eq_true rfl) dX9_worth_31 ⟨Nat.le_of_ble_eq_true rfl, Nat.le_of_ble_eq_true rfl⟩) hS (fun r7 u H locs hw hM hS => ?_)
      obtain ⟨I8, L9, rfl, hI, hkI8⟩ := hw
      have hM : Mem D A ad ns I8 L9 G H := hM
      have hK := hK.trans hkI8 rfl
      exact m_iret hx hb hr hlocks hM hS (Nat.le_of_ble_eq_true rfl) (Nat.le_of_ble_eq_true rfl) ⟨_, _, rfl, hI, hK⟩ dX9_worth_34
    · have hc5 := c5
      have q5 := xr3.f hc5
      refine lv_ldcw (v := (-1000000)) hx hb hown (hts _ tb_935) dX9_worth_22 ?_
      exact m_iret hx hb hr hlocks hM hS (Nat.le_of_ble_eq_true rfl) (Nat.le_of_ble_eq_true rfl) ⟨_, _, rfl, hI, hK⟩ dX9_worth_25
theorem dX9_owned_0 : decode cX9_owned 0 = .ok (.aload_n 0, 1) := by decide +kernel
theorem dX9_owned_1 : decode cX9_owned 1 = .ok (.getfield 10, 3) := by decide +kernel
theorem dX9_owned_4 : decode cX9_owned 4 = .ok (.iload_n 1, 1) := by decide +kernel
theorem dX9_owned_5 : decode cX9_owned 5 = .ok (.invokevirtual 216, 3) := by decide +kernel
theorem dX9_owned_8 : decode cX9_owned 8 = .ok (.ifCond .eq 13, 3) := by decide +kernel
theorem dX9_owned_11 : decode cX9_owned 11 = .ok (.iload_n 2, 1) := by decide +kernel
theorem dX9_owned_12 : decode cX9_owned 12 = .ok (.iconst 0, 1) := by decide +kernel
theorem dX9_owned_13 : decode cX9_owned 13 = .ok (.bipush 9, 2) := by decide +kernel
theorem dX9_owned_15 : decode cX9_owned 15 = .ok (.invokestatic 95, 3) := by decide +kernel
theorem dX9_owned_18 : decode cX9_owned 18 = .ok (.ifCond .ne 7, 3) := by decide +kernel
theorem dX9_owned_21 : decode cX9_owned 21 = .ok (.ldc_w 260, 3) := by decide +kernel
theorem dX9_owned_24 : decode cX9_owned 24 = .ok (.ireturn, 1) := by decide +kernel
theorem dX9_owned_25 : decode cX9_owned 25 = .ok (.aload_n 0, 1) := by decide +kernel
theorem dX9_owned_26 : decode cX9_owned 26 = .ok (.iload_n 1, 1) := by decide +kernel
theorem dX9_owned_27 : decode cX9_owned 27 = .ok (.aload_n 0, 1) := by decide +kernel
theorem dX9_owned_28 : decode cX9_owned 28 = .ok (.getfield 10, 3) := by decide +kernel
theorem dX9_owned_31 : decode cX9_owned 31 = .ok (.bipush 6, 2) := by decide +kernel
theorem dX9_owned_33 : decode cX9_owned 33 = .ok (.iload_n 2, 1) := by decide +kernel
theorem dX9_owned_34 : decode cX9_owned 34 = .ok (.invokevirtual 264, 3) := by decide +kernel
theorem dX9_owned_37 : decode cX9_owned 37 = .ok (.invokevirtual 261, 3) := by decide +kernel
theorem dX9_owned_40 : decode cX9_owned 40 = .ok (.ireturn, 1) := by decide +kernel
theorem ce_X9_owned : CeV RX9 yX9_owned cX9_owned 3 (some .int) 2 := ⟨tb_949, tb_950, tb_1, tb_951, rfl, by decide, by decide, by decide +kernel⟩
set_option maxHeartbeats 4000000 in
set_option maxRecDepth 20000 in
theorem V_X9_owned (l : Launch) (D : va_G) (A : Nat → Prop) (ad : Nat → Nat) (ns : List Nat) (I : MI) (L : ML) (G : MG) (a0 : Int32) (a1 : Int32) (hG : SGC ns G) (hI : INV I) : Met l yX9_owned (wd yX9_owned cX9_owned 3 (some .int)) ({ frames := 5, cells := 0, slots := 0, locals := 131 }) (va_Pc [.ref (ad (0)), .int a0, .int a1] (PM D A ad ns I L G)) (va_Qi (fun r u => ∃ I2 L2, u = (ad, ns, I2, L2, G) ∧ INV I2 ∧ Kp [(11, 15), (107, 108)] [(10, 2), (10, 3), (10, 4), (10, 5), (10, 6), (10, 7), (10, 11), (10, 12)] I I2) (BM D A) A) 0 0 A := by
  refine m_ofW (by decide) (Nat.le_of_ble_eq_true rfl) ?_
  intro p e s m below meth c ls args hC hE hM hA hS hl
  obtain ⟨hx, hb, hml, hown, hts, hr, hlocks, hin⟩ := hC
  have km1000000 : (-1000000 : Int32).toInt = -1000000 := by decide
  have k0 : (0 : Int32).toInt = 0 := by decide
  have k6 : (6 : Int32).toInt = 6 := by decide
  have k9 : (9 : Int32).toInt = 9 := by decide
  have hK : Kp [(11, 15), (107, 108)] [(10, 2), (10, 3), (10, 4), (10, 5), (10, 6), (10, 7), (10, 11), (10, 12)] I I := Kp.rf
  have hl : lv_has ls 3 [(0, .ref (ad (0))), (1, .int (a0)), (2, .int (a1))] := hl
  refine lv_aload_n hx hb dX9_owned_0 rfl (lv_at hl 0 rfl) ?_
  refine m_getr (0) 0 (100) hx hb hts hown hE oc9 hM (hG.1 0 (by decide)) rfl (by decide) rfl (hG.2 (0, 0, 100) (by decide)) (by decide) tb_398 dX9_owned_1 ?_
  refine lv_iload_n hx hb dX9_owned_4 rfl (lv_at hl 1 rfl) ?_
  refine m_calli (m_runV (100) (As := [.int (a0)]) (rest := []) hx hb hml hown hts hE hM hS hA ce_X8_isLit tb_906 (V_X8_isLit_100 l D A ad ns I L G (a0) hG hI) rfl rfl ⟨Nat.le_of_ble_eq_true rfl, Nat.le_of_ble_eq_true rfl⟩ (hG.1 100 (by decide)) rfl rfl (by decide) rfl hl.1 rfl (Nat.le_of_ble_eq_true rfl) dX9_owned_5 ⟨Nat.le_of_ble_eq_true rfl, Nat.le_of_ble_eq_true rfl⟩) hS (fun r1 u H locs hw hM hS => ?_)
  obtain ⟨rfl, xr1⟩ := hw
  have hM : Mem D A ad ns I L G H := hM
  have yr1 := bo01 xr1
  refine lv_if_eq (tgt := 21) hx hb dX9_owned_8 (by decide) (fun c2 => ?_) (fun c2 => ?_)
  · have hc2 := c2
    have q2 := xr1.f hc2
    refine lv_ldcw (v := (-1000000)) hx hb hown (hts _ tb_935) dX9_owned_21 ?_
    exact m_iret hx hb hr hlocks hM hS (Nat.le_of_ble_eq_true rfl) (Nat.le_of_ble_eq_true rfl) ⟨_, _, rfl, hI, hK⟩ dX9_owned_24
  · have hc2 := c2
    have q2 := xr1.t hc2
    have lh2 := q2.2.1
    refine lv_iload_n hx hb dX9_owned_11 rfl (lv_at hl 2 rfl) ?_
    refine lv_iconst (v := (0)) hx hb dX9_owned_12 (by decide) ?_
    refine lv_bipush (v := (9)) hx hb dX9_owned_13 (by decide) ?_
    refine m_calli (m_runS (As := [.int (a1), .int (0), .int (9)]) (rest := []) hx hb hml hown hts hE hM hS hA ce_X9_isWithin tb_451 (V_X9_isWithin l D A ad ns I L G (a1) (0) (9) hI) rfl rfl ⟨Nat.le_of_ble_eq_true rfl, Nat.le_of_ble_eq_true rfl⟩  rfl hl.1 rfl (Nat.le_of_ble_eq_true rfl) dX9_owned_15 ⟨Nat.le_of_ble_eq_true rfl, Nat.le_of_ble_eq_true rfl⟩) hS (fun r3 u H locs hw hM hS => ?_)
    obtain ⟨rfl, xr3⟩ := hw
    have hM : Mem D A ad ns I L G H := hM
    have yr3 := bo01 xr3
    refine lv_if_ne (tgt := 25) hx hb dX9_owned_18 (by decide) (fun c4 => ?_) (fun c4 => ?_)
    · have hc4 := c4
      have q4 := xr3.t hc4
      refine lv_aload_n hx hb dX9_owned_25 rfl (lv_at hl 0 rfl) ?_
      refine lv_iload_n hx hb dX9_owned_26 rfl (lv_at hl 1 rfl) ?_
      refine lv_aload_n hx hb dX9_owned_27 rfl (lv_at hl 0 rfl) ?_
      refine m_getr (0) 0 (100) hx hb hts hown hE oc9 hM (hG.1 0 (by decide)) rfl (by decide) rfl (hG.2 (0, 0, 100) (by decide)) (by decide) tb_398 dX9_owned_28 ?_
      refine lv_bipush (v := (6)) hx hb dX9_owned_31 (by decide) ?_
      refine lv_iload_n hx hb dX9_owned_33 rfl (lv_at hl 2 rfl) ?_
      refine m_calli (m_runV (100) (As := [.int (6), .int (a1)]) (rest := [.int (a0), .ref (ad (0))]) hx hb hml hown hts hE hM hS hA ce_X8_mirrorsWith tb_940 (V_X8_mirrorsWith_100 l D A ad ns I L G (6) (a1) hG hI (by first | omega | decide)) rfl rfl ⟨Nat.le_of_ble_eq_true rfl, Nat.le_of_ble_eq_true rfl⟩ (hG.1 100 (by decide)) rfl rfl (by decide) rfl hl.1 rfl (Nat.le_of_ble_eq_true rfl) dX9_owned_34 ⟨Nat.le_of_ble_eq_true rfl, Nat.le_of_ble_eq_true rfl⟩) hS (fun r5 u H locs hw hM hS => ?_)
      obtain ⟨rfl, xr5⟩ := hw
      have hM : Mem D A ad ns I L G H := hM
      refine m_calli (m_runV (0) (As := [.int (a0), .int (r5)]) (rest := []) hx hb hml hown hts hE hM hS hA ce_X9_worthOfSet tb_936 (V_X9_worthOfSet l D A ad ns I L G (a0) (r5) hG hI (q2.2) (by first | omega | decide)) rfl rfl ⟨Nat.le_of_ble_eq_true rfl, Nat.le_of_ble_eq_true rfl⟩ (hG.1 0 (by decide)) rfl rfl (by decide) rfl hl.1 rfl (Nat.le_of_ble_eq_true rfl) dX9_owned_37 ⟨Nat.le_of_ble_eq_true rfl, Nat.le_of_ble_eq_true rfl⟩) hS (fun r6 u H locs hw hM hS => ?_)
      obtain ⟨I7, L8, rfl, hI, hkI7⟩ := hw
      have hM : Mem D A ad ns I7 L8 G H := hM
      have hK := hK.trans hkI7 rfl
      exact m_iret hx hb hr hlocks hM hS (Nat.le_of_ble_eq_true rfl) (Nat.le_of_ble_eq_true rfl) ⟨_, _, rfl, hI, hK⟩ dX9_owned_40
    · have hc4 := c4
      have q4 := xr3.f hc4
      refine lv_ldcw (v := (-1000000)) hx hb hown (hts _ tb_935) dX9_owned_21 ?_
      exact m_iret hx hb hr hlocks hM hS (Nat.le_of_ble_eq_true rfl) (Nat.le_of_ble_eq_true rfl) ⟨_, _, rfl, hI, hK⟩ dX9_owned_24
theorem dX9_aim_0 : decode cX9_aim 0 = .ok (.aload_n 0, 1) := by decide +kernel
theorem dX9_aim_1 : decode cX9_aim 1 = .ok (.getfield 10, 3) := by decide +kernel
theorem dX9_aim_4 : decode cX9_aim 4 = .ok (.iload_n 1, 1) := by decide +kernel
theorem dX9_aim_5 : decode cX9_aim 5 = .ok (.invokevirtual 216, 3) := by decide +kernel
theorem dX9_aim_8 : decode cX9_aim 8 = .ok (.ifCond .eq 24, 3) := by decide +kernel
theorem dX9_aim_11 : decode cX9_aim 11 = .ok (.aload_n 0, 1) := by decide +kernel
theorem dX9_aim_12 : decode cX9_aim 12 = .ok (.getfield 10, 3) := by decide +kernel
theorem dX9_aim_15 : decode cX9_aim 15 = .ok (.iload_n 2, 1) := by decide +kernel
theorem dX9_aim_16 : decode cX9_aim 16 = .ok (.invokevirtual 204, 3) := by decide +kernel
theorem dX9_aim_19 : decode cX9_aim 19 = .ok (.ifCond .eq 13, 3) := by decide +kernel
theorem dX9_aim_22 : decode cX9_aim 22 = .ok (.aload_n 0, 1) := by decide +kernel
theorem dX9_aim_23 : decode cX9_aim 23 = .ok (.iload_n 3, 1) := by decide +kernel
theorem dX9_aim_24 : decode cX9_aim 24 = .ok (.iload 4, 2) := by decide +kernel
theorem dX9_aim_26 : decode cX9_aim 26 = .ok (.invokevirtual 267, 3) := by decide +kernel
theorem dX9_aim_29 : decode cX9_aim 29 = .ok (.ifCond .ne 5, 3) := by decide +kernel
theorem dX9_aim_32 : decode cX9_aim 32 = .ok (.iconst (-1), 1) := by decide +kernel
theorem dX9_aim_33 : decode cX9_aim 33 = .ok (.ireturn, 1) := by decide +kernel
theorem dX9_aim_34 : decode cX9_aim 34 = .ok (.aload_n 0, 1) := by decide +kernel
theorem dX9_aim_35 : decode cX9_aim 35 = .ok (.getfield 42, 3) := by decide +kernel
theorem dX9_aim_38 : decode cX9_aim 38 = .ok (.aload_n 0, 1) := by decide +kernel
theorem dX9_aim_39 : decode cX9_aim 39 = .ok (.getfield 10, 3) := by decide +kernel
theorem dX9_aim_42 : decode cX9_aim 42 = .ok (.iload_n 1, 1) := by decide +kernel
theorem dX9_aim_43 : decode cX9_aim 43 = .ok (.iload_n 3, 1) := by decide +kernel
theorem dX9_aim_44 : decode cX9_aim 44 = .ok (.iload_n 2, 1) := by decide +kernel
theorem dX9_aim_45 : decode cX9_aim 45 = .ok (.invokevirtual 270, 3) := by decide +kernel
theorem dX9_aim_48 : decode cX9_aim 48 = .ok (.aload_n 0, 1) := by decide +kernel
theorem dX9_aim_49 : decode cX9_aim 49 = .ok (.getfield 42, 3) := by decide +kernel
theorem dX9_aim_52 : decode cX9_aim 52 = .ok (.iload 4, 2) := by decide +kernel
theorem dX9_aim_54 : decode cX9_aim 54 = .ok (.invokevirtual 274, 3) := by decide +kernel
theorem dX9_aim_57 : decode cX9_aim 57 = .ok (.ireturn, 1) := by decide +kernel
theorem ce_X9_aim : CeV RX9 yX9_aim cX9_aim 5 (some .int) 4 := ⟨tb_953, tb_954, tb_1, tb_955, rfl, by decide, by decide, by decide +kernel⟩
set_option maxHeartbeats 4000000 in
set_option maxRecDepth 20000 in
theorem V_X9_aim (l : Launch) (D : va_G) (A : Nat → Prop) (ad : Nat → Nat) (ns : List Nat) (I : MI) (L : ML) (G : MG) (a0 : Int32) (a1 : Int32) (a2 : Int32) (a3 : Int32) (hG : SGC ns G) (hI : INV I) : Met l yX9_aim (wd yX9_aim cX9_aim 5 (some .int)) ({ frames := 5, cells := 0, slots := 0, locals := 134 }) (va_Pc [.ref (ad (0)), .int a0, .int a1, .int a2, .int a3] (PM D A ad ns I L G)) (va_Qi (fun r u => ∃ I2 L2, u = (ad, ns, I2, L2, G) ∧ INV I2 ∧ Kp [(11, 15), (31, 35), (107, 108)] [(10, 2), (10, 3), (10, 4), (10, 5), (10, 6), (10, 7), (10, 11), (10, 12), (30, 5), (30, 6)] I I2) (BM D A) A) 0 0 A := by
  refine m_ofW (by decide) (Nat.le_of_ble_eq_true rfl) ?_
  intro p e s m below meth c ls args hC hE hM hA hS hl
  obtain ⟨hx, hb, hml, hown, hts, hr, hlocks, hin⟩ := hC
  have km1 : (-1 : Int32).toInt = -1 := by decide
  have k0 : (0 : Int32).toInt = 0 := by decide
  have hK : Kp [(11, 15), (31, 35), (107, 108)] [(10, 2), (10, 3), (10, 4), (10, 5), (10, 6), (10, 7), (10, 11), (10, 12), (30, 5), (30, 6)] I I := Kp.rf
  have hl : lv_has ls 5 [(0, .ref (ad (0))), (1, .int (a0)), (2, .int (a1)), (3, .int (a2)), (4, .int (a3))] := hl
  refine lv_aload_n hx hb dX9_aim_0 rfl (lv_at hl 0 rfl) ?_
  refine m_getr (0) 0 (100) hx hb hts hown hE oc9 hM (hG.1 0 (by decide)) rfl (by decide) rfl (hG.2 (0, 0, 100) (by decide)) (by decide) tb_398 dX9_aim_1 ?_
  refine lv_iload_n hx hb dX9_aim_4 rfl (lv_at hl 1 rfl) ?_
  refine m_calli (m_runV (100) (As := [.int (a0)]) (rest := []) hx hb hml hown hts hE hM hS hA ce_X8_isLit tb_906 (V_X8_isLit_100 l D A ad ns I L G (a0) hG hI) rfl rfl ⟨Nat.le_of_ble_eq_true rfl, Nat.le_of_ble_eq_true rfl⟩ (hG.1 100 (by decide)) rfl rfl (by decide) rfl hl.1 rfl (Nat.le_of_ble_eq_true rfl) dX9_aim_5 ⟨Nat.le_of_ble_eq_true rfl, Nat.le_of_ble_eq_true rfl⟩) hS (fun r1 u H locs hw hM hS => ?_)
  obtain ⟨rfl, xr1⟩ := hw
  have hM : Mem D A ad ns I L G H := hM
  have yr1 := bo01 xr1
  refine lv_if_eq (tgt := 32) hx hb dX9_aim_8 (by decide) (fun c2 => ?_) (fun c2 => ?_)
  · have hc2 := c2
    have q2 := xr1.f hc2
    refine lv_iconst (v := (-1)) hx hb dX9_aim_32 (by decide) ?_
    exact m_iret hx hb hr hlocks hM hS (Nat.le_of_ble_eq_true rfl) (Nat.le_of_ble_eq_true rfl) ⟨_, _, rfl, hI, hK⟩ dX9_aim_33
  · have hc2 := c2
    have q2 := xr1.t hc2
    have lh2 := q2.2.1
    refine lv_aload_n hx hb dX9_aim_11 rfl (lv_at hl 0 rfl) ?_
    refine m_getr (0) 0 (100) hx hb hts hown hE oc9 hM (hG.1 0 (by decide)) rfl (by decide) rfl (hG.2 (0, 0, 100) (by decide)) (by decide) tb_398 dX9_aim_12 ?_
    refine lv_iload_n hx hb dX9_aim_15 rfl (lv_at hl 2 rfl) ?_
    refine m_calli (m_runV (100) (As := [.int (a1)]) (rest := []) hx hb hml hown hts hE hM hS hA ce_X8_hasYard tb_893 (V_X8_hasYard_100 l D A ad ns I L G (a1) hG hI) rfl rfl ⟨Nat.le_of_ble_eq_true rfl, Nat.le_of_ble_eq_true rfl⟩ (hG.1 100 (by decide)) rfl rfl (by decide) rfl hl.1 rfl (Nat.le_of_ble_eq_true rfl) dX9_aim_16 ⟨Nat.le_of_ble_eq_true rfl, Nat.le_of_ble_eq_true rfl⟩) hS (fun r3 u H locs hw hM hS => ?_)
    obtain ⟨rfl, xr3⟩ := hw
    have hM : Mem D A ad ns I L G H := hM
    have yr3 := bo01 xr3
    have g4 := hI.get 100 9 (lo := 0) (hi := 8) rfl
    refine lv_if_eq (tgt := 32) hx hb dX9_aim_19 (by decide) (fun c5 => ?_) (fun c5 => ?_)
    · have hc5 := c5
      have q5 := xr3.f hc5
      refine lv_iconst (v := (-1)) hx hb dX9_aim_32 (by decide) ?_
      exact m_iret hx hb hr hlocks hM hS (Nat.le_of_ble_eq_true rfl) (Nat.le_of_ble_eq_true rfl) ⟨_, _, rfl, hI, hK⟩ dX9_aim_33
    · have hc5 := c5
      have q5 := xr3.t hc5
      refine lv_aload_n hx hb dX9_aim_22 rfl (lv_at hl 0 rfl) ?_
      refine lv_iload_n hx hb dX9_aim_23 rfl (lv_at hl 3 rfl) ?_
      refine lv_iload hx hb dX9_aim_24 (lv_at hl 4 rfl) ?_
      refine m_calli (m_runV (0) (As := [.int (a2), .int (a3)]) (rest := []) hx hb hml hown hts hE hM hS hA ce_X9_isPlaceOfSet tb_956 (V_X9_isPlaceOfSet l D A ad ns I L G (a2) (a3) hG hI) rfl rfl ⟨Nat.le_of_ble_eq_true rfl, Nat.le_of_ble_eq_true rfl⟩ (hG.1 0 (by decide)) rfl rfl (by decide) rfl hl.1 rfl (Nat.le_of_ble_eq_true rfl) dX9_aim_26 ⟨Nat.le_of_ble_eq_true rfl, Nat.le_of_ble_eq_true rfl⟩) hS (fun r6 u H locs hw hM hS => ?_)
      obtain ⟨rfl, xr6⟩ := hw
      have hM : Mem D A ad ns I L G H := hM
      refine lv_if_ne (tgt := 34) hx hb dX9_aim_29 (by decide) (fun c7 => ?_) (fun c7 => ?_)
      · have hc7 := c7
        have q7 := q_ne hc7
        refine lv_aload_n hx hb dX9_aim_34 rfl (lv_at hl 0 rfl) ?_
        refine m_getr (0) 5 (30) hx hb hts hown hE oc9 hM (hG.1 0 (by decide)) rfl (by decide) rfl (hG.2 (0, 5, 30) (by decide)) (by decide) tb_403 dX9_aim_35 ?_
        refine lv_aload_n hx hb dX9_aim_38 rfl (lv_at hl 0 rfl) ?_
        refine m_getr (0) 0 (100) hx hb hts hown hE oc9 hM (hG.1 0 (by decide)) rfl (by decide) rfl (hG.2 (0, 0, 100) (by decide)) (by decide) tb_398 dX9_aim_39 ?_
        refine lv_iload_n hx hb dX9_aim_42 rfl (lv_at hl 1 rfl) ?_
        refine lv_iload_n hx hb dX9_aim_43 rfl (lv_at hl 3 rfl) ?_
        refine lv_iload_n hx hb dX9_aim_44 rfl (lv_at hl 2 rfl) ?_
        refine m_callv (m_runV (30) (As := [.ref (ad (100)), .int (a0), .int (a2), .int (a1)]) (rest := []) hx hb hml hown hts hE hM hS hA ce_X0_search tb_966 (V_X0_search l D A ad ns I L G (a0) (a2) (a1) hG hI (q2.2) (by first | omega | decide) (by first | omega | decide)) rfl rfl ⟨Nat.le_of_ble_eq_true rfl, Nat.le_of_ble_eq_true rfl⟩ (hG.1 30 (by decide)) rfl rfl (by decide) rfl hl.1 rfl (Nat.le_of_ble_eq_true rfl) dX9_aim_45 ⟨Nat.le_of_ble_eq_true rfl, Nat.le_of_ble_eq_true rfl⟩) hS (fun u H locs hw hM hS => ?_)
        obtain ⟨I8, L9, rfl, hI, hkI8⟩ := hw
        have hM : Mem D A ad ns I8 L9 G H := hM
        have hK := hK.trans hkI8 rfl
        refine lv_aload_n hx hb dX9_aim_48 rfl (lv_at hl 0 rfl) ?_
        refine m_getr (0) 5 (30) hx hb hts hown hE oc9 hM (hG.1 0 (by decide)) rfl (by decide) rfl (hG.2 (0, 5, 30) (by decide)) (by decide) tb_403 dX9_aim_49 ?_
        refine lv_iload hx hb dX9_aim_52 (lv_at hl 4 rfl) ?_
        refine m_calli (m_runV (30) (As := [.int (a3)]) (rest := []) hx hb hml hown hts hE hM hS hA ce_X0_answer tb_999 (V_X0_answer l D A ad ns I8 L9 G (a3) hG hI) rfl rfl ⟨Nat.le_of_ble_eq_true rfl, Nat.le_of_ble_eq_true rfl⟩ (hG.1 30 (by decide)) rfl rfl (by decide) rfl hl.1 rfl (Nat.le_of_ble_eq_true rfl) dX9_aim_54 ⟨Nat.le_of_ble_eq_true rfl, Nat.le_of_ble_eq_true rfl⟩) hS (fun r10 u H locs hw hM hS => ?_)
        obtain ⟨rfl, xr10⟩ := hw
        have hM : Mem D A ad ns I8 L9 G H := hM
        exact m_iret hx hb hr hlocks hM hS (Nat.le_of_ble_eq_true rfl) (Nat.le_of_ble_eq_true rfl) ⟨_, _, rfl, hI, hK⟩ dX9_aim_57
      · have hc7 := c7
        have q7 := q_eq hc7
        refine lv_iconst (v := (-1)) hx hb dX9_aim_32 (by decide) ?_
        exact m_iret hx hb hr hlocks hM hS (Nat.le_of_ble_eq_true rfl) (Nat.le_of_ble_eq_true rfl) ⟨_, _, rfl, hI, hK⟩ dX9_aim_33
theorem dX9_fair_0 : decode cX9_fair 0 = .ok (.aload_n 0, 1) := by decide +kernel
theorem dX9_fair_1 : decode cX9_fair 1 = .ok (.getfield 10, 3) := by decide +kernel
theorem dX9_fair_4 : decode cX9_fair 4 = .ok (.iload_n 1, 1) := by decide +kernel
theorem dX9_fair_5 : decode cX9_fair 5 = .ok (.invokevirtual 216, 3) := by decide +kernel
theorem dX9_fair_8 : decode cX9_fair 8 = .ok (.ifCond .eq 22, 3) := by decide +kernel
theorem dX9_fair_11 : decode cX9_fair 11 = .ok (.aload_n 0, 1) := by decide +kernel
theorem dX9_fair_12 : decode cX9_fair 12 = .ok (.getfield 10, 3) := by decide +kernel
theorem dX9_fair_15 : decode cX9_fair 15 = .ok (.getfield 152, 3) := by decide +kernel
theorem dX9_fair_18 : decode cX9_fair 18 = .ok (.ifCond .eq 12, 3) := by decide +kernel
theorem dX9_fair_21 : decode cX9_fair 21 = .ok (.aload_n 0, 1) := by decide +kernel
theorem dX9_fair_22 : decode cX9_fair 22 = .ok (.iload_n 2, 1) := by decide +kernel
theorem dX9_fair_23 : decode cX9_fair 23 = .ok (.iload_n 3, 1) := by decide +kernel
theorem dX9_fair_24 : decode cX9_fair 24 = .ok (.invokevirtual 267, 3) := by decide +kernel
theorem dX9_fair_27 : decode cX9_fair 27 = .ok (.ifCond .ne 5, 3) := by decide +kernel
theorem dX9_fair_30 : decode cX9_fair 30 = .ok (.iconst (-1), 1) := by decide +kernel
theorem dX9_fair_31 : decode cX9_fair 31 = .ok (.ireturn, 1) := by decide +kernel
theorem dX9_fair_32 : decode cX9_fair 32 = .ok (.aload_n 0, 1) := by decide +kernel
theorem dX9_fair_33 : decode cX9_fair 33 = .ok (.getfield 42, 3) := by decide +kernel
theorem dX9_fair_36 : decode cX9_fair 36 = .ok (.aload_n 0, 1) := by decide +kernel
theorem dX9_fair_37 : decode cX9_fair 37 = .ok (.getfield 10, 3) := by decide +kernel
theorem dX9_fair_40 : decode cX9_fair 40 = .ok (.iload_n 1, 1) := by decide +kernel
theorem dX9_fair_41 : decode cX9_fair 41 = .ok (.iload_n 2, 1) := by decide +kernel
theorem dX9_fair_42 : decode cX9_fair 42 = .ok (.iconst (-1), 1) := by decide +kernel
theorem dX9_fair_43 : decode cX9_fair 43 = .ok (.invokevirtual 270, 3) := by decide +kernel
theorem dX9_fair_46 : decode cX9_fair 46 = .ok (.aload_n 0, 1) := by decide +kernel
theorem dX9_fair_47 : decode cX9_fair 47 = .ok (.getfield 42, 3) := by decide +kernel
theorem dX9_fair_50 : decode cX9_fair 50 = .ok (.iload_n 3, 1) := by decide +kernel
theorem dX9_fair_51 : decode cX9_fair 51 = .ok (.invokevirtual 274, 3) := by decide +kernel
theorem dX9_fair_54 : decode cX9_fair 54 = .ok (.ireturn, 1) := by decide +kernel
theorem ce_X9_fair : CeV RX9 yX9_fair cX9_fair 4 (some .int) 3 := ⟨tb_1005, tb_1006, tb_1, tb_1007, rfl, by decide, by decide, by decide +kernel⟩
set_option maxHeartbeats 4000000 in
set_option maxRecDepth 20000 in
theorem V_X9_fair (l : Launch) (D : va_G) (A : Nat → Prop) (ad : Nat → Nat) (ns : List Nat) (I : MI) (L : ML) (G : MG) (a0 : Int32) (a1 : Int32) (a2 : Int32) (hG : SGC ns G) (hI : INV I) : Met l yX9_fair (wd yX9_fair cX9_fair 4 (some .int)) ({ frames := 5, cells := 0, slots := 0, locals := 134 }) (va_Pc [.ref (ad (0)), .int a0, .int a1, .int a2] (PM D A ad ns I L G)) (va_Qi (fun r u => ∃ I2 L2, u = (ad, ns, I2, L2, G) ∧ INV I2 ∧ Kp [(11, 15), (31, 35), (107, 108)] [(10, 2), (10, 3), (10, 4), (10, 5), (10, 6), (10, 7), (10, 11), (10, 12), (30, 5), (30, 6)] I I2) (BM D A) A) 0 0 A := by
  refine m_ofW (by decide) (Nat.le_of_ble_eq_true rfl) ?_
  intro p e s m below meth c ls args hC hE hM hA hS hl
  obtain ⟨hx, hb, hml, hown, hts, hr, hlocks, hin⟩ := hC
  have km1 : (-1 : Int32).toInt = -1 := by decide
  have k0 : (0 : Int32).toInt = 0 := by decide
  have hK : Kp [(11, 15), (31, 35), (107, 108)] [(10, 2), (10, 3), (10, 4), (10, 5), (10, 6), (10, 7), (10, 11), (10, 12), (30, 5), (30, 6)] I I := Kp.rf
  have hl : lv_has ls 4 [(0, .ref (ad (0))), (1, .int (a0)), (2, .int (a1)), (3, .int (a2))] := hl
  refine lv_aload_n hx hb dX9_fair_0 rfl (lv_at hl 0 rfl) ?_
  refine m_getr (0) 0 (100) hx hb hts hown hE oc9 hM (hG.1 0 (by decide)) rfl (by decide) rfl (hG.2 (0, 0, 100) (by decide)) (by decide) tb_398 dX9_fair_1 ?_
  refine lv_iload_n hx hb dX9_fair_4 rfl (lv_at hl 1 rfl) ?_
  refine m_calli (m_runV (100) (As := [.int (a0)]) (rest := []) hx hb hml hown hts hE hM hS hA ce_X8_isLit tb_906 (V_X8_isLit_100 l D A ad ns I L G (a0) hG hI) rfl rfl ⟨Nat.le_of_ble_eq_true rfl, Nat.le_of_ble_eq_true rfl⟩ (hG.1 100 (by decide)) rfl rfl (by decide) rfl hl.1 rfl (Nat.le_of_ble_eq_true rfl) dX9_fair_5 ⟨Nat.le_of_ble_eq_true rfl, Nat.le_of_ble_eq_true rfl⟩) hS (fun r1 u H locs hw hM hS => ?_)
  obtain ⟨rfl, xr1⟩ := hw
  have hM : Mem D A ad ns I L G H := hM
  have yr1 := bo01 xr1
  refine lv_if_eq (tgt := 30) hx hb dX9_fair_8 (by decide) (fun c2 => ?_) (fun c2 => ?_)
  · have hc2 := c2
    have q2 := xr1.f hc2
    refine lv_iconst (v := (-1)) hx hb dX9_fair_30 (by decide) ?_
    exact m_iret hx hb hr hlocks hM hS (Nat.le_of_ble_eq_true rfl) (Nat.le_of_ble_eq_true rfl) ⟨_, _, rfl, hI, hK⟩ dX9_fair_31
  · have hc2 := c2
    have q2 := xr1.t hc2
    have lh2 := q2.2.1
    refine lv_aload_n hx hb dX9_fair_11 rfl (lv_at hl 0 rfl) ?_
    refine m_getr (0) 0 (100) hx hb hts hown hE oc9 hM (hG.1 0 (by decide)) rfl (by decide) rfl (hG.2 (0, 0, 100) (by decide)) (by decide) tb_398 dX9_fair_12 ?_
    refine m_geti (100) 9 hx hb hts hown hE oc8 hM (hG.1 100 (by decide)) rfl (by decide) rfl tb_64 dX9_fair_15 ?_
    have g3 := hI.get (100) 9 (lo := 0) (hi := 8) rfl
    refine lv_if_eq (tgt := 30) hx hb dX9_fair_18 (by decide) (fun c4 => ?_) (fun c4 => ?_)
    · have hc4 := c4
      have q4 := q_eq hc4
      refine lv_iconst (v := (-1)) hx hb dX9_fair_30 (by decide) ?_
      exact m_iret hx hb hr hlocks hM hS (Nat.le_of_ble_eq_true rfl) (Nat.le_of_ble_eq_true rfl) ⟨_, _, rfl, hI, hK⟩ dX9_fair_31
    · have hc4 := c4
      have q4 := q_ne hc4
      refine lv_aload_n hx hb dX9_fair_21 rfl (lv_at hl 0 rfl) ?_
      refine lv_iload_n hx hb dX9_fair_22 rfl (lv_at hl 2 rfl) ?_
      refine lv_iload_n hx hb dX9_fair_23 rfl (lv_at hl 3 rfl) ?_
      refine m_calli (m_runV (0) (As := [.int (a1), .int (a2)]) (rest := []) hx hb hml hown hts hE hM hS hA ce_X9_isPlaceOfSet tb_956 (V_X9_isPlaceOfSet l D A ad ns I L G (a1) (a2) hG hI) rfl rfl ⟨Nat.le_of_ble_eq_true rfl, Nat.le_of_ble_eq_true rfl⟩ (hG.1 0 (by decide)) rfl rfl (by decide) rfl hl.1 rfl (Nat.le_of_ble_eq_true rfl) dX9_fair_24 ⟨Nat.le_of_ble_eq_true rfl, Nat.le_of_ble_eq_true rfl⟩) hS (fun r5 u H locs hw hM hS => ?_)
      obtain ⟨rfl, xr5⟩ := hw
      have hM : Mem D A ad ns I L G H := hM
      refine lv_if_ne (tgt := 32) hx hb dX9_fair_27 (by decide) (fun c6 => ?_) (fun c6 => ?_)
      · have hc6 := c6
        have q6 := q_ne hc6
        refine lv_aload_n hx hb dX9_fair_32 rfl (lv_at hl 0 rfl) ?_
        refine m_getr (0) 5 (30) hx hb hts hown hE oc9 hM (hG.1 0 (by decide)) rfl (by decide) rfl (hG.2 (0, 5, 30) (by decide)) (by decide) tb_403 dX9_fair_33 ?_
        refine lv_aload_n hx hb dX9_fair_36 rfl (lv_at hl 0 rfl) ?_
        refine m_getr (0) 0 (100) hx hb hts hown hE oc9 hM (hG.1 0 (by decide)) rfl (by decide) rfl (hG.2 (0, 0, 100) (by decide)) (by decide) tb_398 dX9_fair_37 ?_
        refine lv_iload_n hx hb dX9_fair_40 rfl (lv_at hl 1 rfl) ?_
        refine lv_iload_n hx hb dX9_fair_41 rfl (lv_at hl 2 rfl) ?_
        refine lv_iconst (v := (-1)) hx hb dX9_fair_42 (by decide) ?_
        refine m_callv (m_runV (30) (As := [.ref (ad (100)), .int (a0), .int (a1), .int ((-1 : Int32))]) (rest := []) hx hb hml hown hts hE hM hS hA ce_X0_search tb_966 (V_X0_search l D A ad ns I L G (a0) (a1) ((-1 : Int32)) hG hI (q2.2) (by first | omega | decide) (by first | omega | decide)) rfl rfl ⟨Nat.le_of_ble_eq_true rfl, Nat.le_of_ble_eq_true rfl⟩ (hG.1 30 (by decide)) rfl rfl (by decide) rfl hl.1 rfl (Nat.le_of_ble_eq_true rfl) dX9_fair_43 ⟨Nat.le_of_ble_eq_true rfl, Nat.le_of_ble_eq_true rfl⟩) hS (fun u H locs hw hM hS => ?_)
        obtain ⟨I7, L8, rfl, hI, hkI7⟩ := hw
        have hM : Mem D A ad ns I7 L8 G H := hM
        have hK := hK.trans hkI7 rfl
        refine lv_aload_n hx hb dX9_fair_46 rfl (lv_at hl 0 rfl) ?_
        refine m_getr (0) 5 (30) hx hb hts hown hE oc9 hM (hG.1 0 (by decide)) rfl (by decide) rfl (hG.2 (0, 5, 30) (by decide)) (by decide) tb_403 dX9_fair_47 ?_
        refine lv_iload_n hx hb dX9_fair_50 rfl (lv_at hl 3 rfl) ?_
        refine m_calli (m_runV (30) (As := [.int (a2)]) (rest := []) hx hb hml hown hts hE hM hS hA ce_X0_answer tb_999 (V_X0_answer l D A ad ns I7 L8 G (a2) hG hI) rfl rfl ⟨Nat.le_of_ble_eq_true rfl, Nat.le_of_ble_eq_true rfl⟩ (hG.1 30 (by decide)) rfl rfl (by decide) rfl hl.1 rfl (Nat.le_of_ble_eq_true rfl) dX9_fair_51 ⟨Nat.le_of_ble_eq_true rfl, Nat.le_of_ble_eq_true rfl⟩) hS (fun r9 u H locs hw hM hS => ?_)
        obtain ⟨rfl, xr9⟩ := hw
        have hM : Mem D A ad ns I7 L8 G H := hM
        exact m_iret hx hb hr hlocks hM hS (Nat.le_of_ble_eq_true rfl) (Nat.le_of_ble_eq_true rfl) ⟨_, _, rfl, hI, hK⟩ dX9_fair_54
      · have hc6 := c6
        have q6 := q_eq hc6
        refine lv_iconst (v := (-1)) hx hb dX9_fair_30 (by decide) ?_
        exact m_iret hx hb hr hlocks hM hS (Nat.le_of_ble_eq_true rfl) (Nat.le_of_ble_eq_true rfl) ⟨_, _, rfl, hI, hK⟩ dX9_fair_31
theorem dX9_second_0 : decode cX9_second 0 = .ok (.aload_n 0, 1) := by decide +kernel
theorem dX9_second_1 : decode cX9_second 1 = .ok (.getfield 10, 3) := by decide +kernel
theorem dX9_second_4 : decode cX9_second 4 = .ok (.iload_n 1, 1) := by decide +kernel
theorem dX9_second_5 : decode cX9_second 5 = .ok (.invokevirtual 216, 3) := by decide +kernel
theorem dX9_second_8 : decode cX9_second 8 = .ok (.ifCond .eq 12, 3) := by decide +kernel
theorem dX9_second_11 : decode cX9_second 11 = .ok (.iload_n 2, 1) := by decide +kernel
theorem dX9_second_12 : decode cX9_second 12 = .ok (.iconst 0, 1) := by decide +kernel
theorem dX9_second_13 : decode cX9_second 13 = .ok (.iconst 2, 1) := by decide +kernel
theorem dX9_second_14 : decode cX9_second 14 = .ok (.invokestatic 95, 3) := by decide +kernel
theorem dX9_second_17 : decode cX9_second 17 = .ok (.ifCond .ne 5, 3) := by decide +kernel
theorem dX9_second_20 : decode cX9_second 20 = .ok (.iconst (-1), 1) := by decide +kernel
theorem dX9_second_21 : decode cX9_second 21 = .ok (.ireturn, 1) := by decide +kernel
theorem dX9_second_22 : decode cX9_second 22 = .ok (.aload_n 0, 1) := by decide +kernel
theorem dX9_second_23 : decode cX9_second 23 = .ok (.getfield 58, 3) := by decide +kernel
theorem dX9_second_26 : decode cX9_second 26 = .ok (.aload_n 0, 1) := by decide +kernel
theorem dX9_second_27 : decode cX9_second 27 = .ok (.getfield 10, 3) := by decide +kernel
theorem dX9_second_30 : decode cX9_second 30 = .ok (.iload_n 1, 1) := by decide +kernel
theorem dX9_second_31 : decode cX9_second 31 = .ok (.invokevirtual 296, 3) := by decide +kernel
theorem dX9_second_34 : decode cX9_second 34 = .ok (.iload_n 2, 1) := by decide +kernel
theorem dX9_second_35 : decode cX9_second 35 = .ok (.ifCond .ne 11, 3) := by decide +kernel
theorem dX9_second_38 : decode cX9_second 38 = .ok (.aload_n 0, 1) := by decide +kernel
theorem dX9_second_39 : decode cX9_second 39 = .ok (.getfield 58, 3) := by decide +kernel
theorem dX9_second_42 : decode cX9_second 42 = .ok (.getfield 298, 3) := by decide +kernel
theorem dX9_second_45 : decode cX9_second 45 = .ok (.ireturn, 1) := by decide +kernel
theorem dX9_second_46 : decode cX9_second 46 = .ok (.iload_n 2, 1) := by decide +kernel
theorem dX9_second_47 : decode cX9_second 47 = .ok (.iconst 1, 1) := by decide +kernel
theorem dX9_second_48 : decode cX9_second 48 = .ok (.if_icmp .ne 13, 3) := by decide +kernel
theorem dX9_second_51 : decode cX9_second 51 = .ok (.aload_n 0, 1) := by decide +kernel
theorem dX9_second_52 : decode cX9_second 52 = .ok (.getfield 58, 3) := by decide +kernel
theorem dX9_second_55 : decode cX9_second 55 = .ok (.getfield 301, 3) := by decide +kernel
theorem dX9_second_58 : decode cX9_second 58 = .ok (.goto 10, 3) := by decide +kernel
theorem dX9_second_61 : decode cX9_second 61 = .ok (.aload_n 0, 1) := by decide +kernel
theorem dX9_second_62 : decode cX9_second 62 = .ok (.getfield 58, 3) := by decide +kernel
theorem dX9_second_65 : decode cX9_second 65 = .ok (.getfield 304, 3) := by decide +kernel
theorem dX9_second_68 : decode cX9_second 68 = .ok (.ireturn, 1) := by decide +kernel
theorem ce_X9_second : CeV RX9 yX9_second cX9_second 3 (some .int) 2 := ⟨tb_1060, tb_1061, tb_1, tb_1062, rfl, by decide, by decide, by decide +kernel⟩
set_option maxHeartbeats 4000000 in
set_option maxRecDepth 20000 in
theorem V_X9_second (l : Launch) (D : va_G) (A : Nat → Prop) (ad : Nat → Nat) (ns : List Nat) (I : MI) (L : ML) (G : MG) (a0 : Int32) (a1 : Int32) (hG : SGC ns G) (hI : INV I) : Met l yX9_second (wd yX9_second cX9_second 3 (some .int)) ({ frames := 6, cells := 0, slots := 0, locals := 158 }) (va_Pc [.ref (ad (0)), .int a0, .int a1] (PM D A ad ns I L G)) (va_Qi (fun r u => ∃ I2 L2, u = (ad, ns, I2, L2, G) ∧ INV I2 ∧ Kp [(11, 15), (105, 106)] [(10, 2), (10, 3), (10, 4), (10, 5), (10, 6), (10, 7), (10, 11), (10, 12), (50, 0), (50, 1), (50, 2), (100, 2), (100, 3)] I I2) (BM D A) A) 0 0 A := by
  refine m_ofW (by decide) (Nat.le_of_ble_eq_true rfl) ?_
  intro p e s m below meth c ls args hC hE hM hA hS hl
  obtain ⟨hx, hb, hml, hown, hts, hr, hlocks, hin⟩ := hC
  have km1 : (-1 : Int32).toInt = -1 := by decide
  have k0 : (0 : Int32).toInt = 0 := by decide
  have k1 : (1 : Int32).toInt = 1 := by decide
  have k2 : (2 : Int32).toInt = 2 := by decide
  have hK : Kp [(11, 15), (105, 106)] [(10, 2), (10, 3), (10, 4), (10, 5), (10, 6), (10, 7), (10, 11), (10, 12), (50, 0), (50, 1), (50, 2), (100, 2), (100, 3)] I I := Kp.rf
  have hl : lv_has ls 3 [(0, .ref (ad (0))), (1, .int (a0)), (2, .int (a1))] := hl
  refine lv_aload_n hx hb dX9_second_0 rfl (lv_at hl 0 rfl) ?_
  refine m_getr (0) 0 (100) hx hb hts hown hE oc9 hM (hG.1 0 (by decide)) rfl (by decide) rfl (hG.2 (0, 0, 100) (by decide)) (by decide) tb_398 dX9_second_1 ?_
  refine lv_iload_n hx hb dX9_second_4 rfl (lv_at hl 1 rfl) ?_
  refine m_calli (m_runV (100) (As := [.int (a0)]) (rest := []) hx hb hml hown hts hE hM hS hA ce_X8_isLit tb_906 (V_X8_isLit_100 l D A ad ns I L G (a0) hG hI) rfl rfl ⟨Nat.le_of_ble_eq_true rfl, Nat.le_of_ble_eq_true rfl⟩ (hG.1 100 (by decide)) rfl rfl (by decide) rfl hl.1 rfl (Nat.le_of_ble_eq_true rfl) dX9_second_5 ⟨Nat.le_of_ble_eq_true rfl, Nat.le_of_ble_eq_true rfl⟩) hS (fun r1 u H locs hw hM hS => ?_)
  obtain ⟨rfl, xr1⟩ := hw
  have hM : Mem D A ad ns I L G H := hM
  have yr1 := bo01 xr1
  refine lv_if_eq (tgt := 20) hx hb dX9_second_8 (by decide) (fun c2 => ?_) (fun c2 => ?_)
  · have hc2 := c2
    have q2 := xr1.f hc2
    refine lv_iconst (v := (-1)) hx hb dX9_second_20 (by decide) ?_
    exact m_iret hx hb hr hlocks hM hS (Nat.le_of_ble_eq_true rfl) (Nat.le_of_ble_eq_true rfl) ⟨_, _, rfl, hI, hK⟩ dX9_second_21
  · have hc2 := c2
    have q2 := xr1.t hc2
    have lh2 := q2.2.1
    refine lv_iload_n hx hb dX9_second_11 rfl (lv_at hl 2 rfl) ?_
    refine lv_iconst (v := (0)) hx hb dX9_second_12 (by decide) ?_
    refine lv_iconst (v := (2)) hx hb dX9_second_13 (by decide) ?_
    refine m_calli (m_runS (As := [.int (a1), .int (0), .int (2)]) (rest := []) hx hb hml hown hts hE hM hS hA ce_X9_isWithin tb_451 (V_X9_isWithin l D A ad ns I L G (a1) (0) (2) hI) rfl rfl ⟨Nat.le_of_ble_eq_true rfl, Nat.le_of_ble_eq_true rfl⟩  rfl hl.1 rfl (Nat.le_of_ble_eq_true rfl) dX9_second_14 ⟨Nat.le_of_ble_eq_true rfl, Nat.le_of_ble_eq_true rfl⟩) hS (fun r3 u H locs hw hM hS => ?_)
    obtain ⟨rfl, xr3⟩ := hw
    have hM : Mem D A ad ns I L G H := hM
    have yr3 := bo01 xr3
    refine lv_if_ne (tgt := 22) hx hb dX9_second_17 (by decide) (fun c4 => ?_) (fun c4 => ?_)
    · have hc4 := c4
      have q4 := xr3.t hc4
      refine lv_aload_n hx hb dX9_second_22 rfl (lv_at hl 0 rfl) ?_
      refine m_getr (0) 7 (50) hx hb hts hown hE oc9 hM (hG.1 0 (by decide)) rfl (by decide) rfl (hG.2 (0, 7, 50) (by decide)) (by decide) tb_405 dX9_second_23 ?_
      refine lv_aload_n hx hb dX9_second_26 rfl (lv_at hl 0 rfl) ?_
      refine m_getr (0) 0 (100) hx hb hts hown hE oc9 hM (hG.1 0 (by decide)) rfl (by decide) rfl (hG.2 (0, 0, 100) (by decide)) (by decide) tb_398 dX9_second_27 ?_
      refine lv_iload_n hx hb dX9_second_30 rfl (lv_at hl 1 rfl) ?_
      refine m_callv (m_runV (50) (As := [.ref (ad (100)), .int (a0)]) (rest := []) hx hb hml hown hts hE hM hS hA ce_X6_search tb_1063 (V_X6_search l D A ad ns I L G (a0) hG hI (by first | omega | decide)) rfl rfl ⟨Nat.le_of_ble_eq_true rfl, Nat.le_of_ble_eq_true rfl⟩ (hG.1 50 (by decide)) rfl rfl (by decide) rfl hl.1 rfl (Nat.le_of_ble_eq_true rfl) dX9_second_31 ⟨Nat.le_of_ble_eq_true rfl, Nat.le_of_ble_eq_true rfl⟩) hS (fun u H locs hw hM hS => ?_)
      obtain ⟨I5, L6, rfl, hI, hkI5⟩ := hw
      have hM : Mem D A ad ns I5 L6 G H := hM
      have hK := hK.trans hkI5 rfl
      refine lv_iload_n hx hb dX9_second_34 rfl (lv_at hl 2 rfl) ?_
      refine lv_if_ne (tgt := 46) hx hb dX9_second_35 (by decide) (fun c7 => ?_) (fun c7 => ?_)
      · have hc7 := c7
        have q7 := q_ne hc7
        refine lv_iload_n hx hb dX9_second_46 rfl (lv_at hl 2 rfl) ?_
        refine lv_iconst (v := (1)) hx hb dX9_second_47 (by decide) ?_
        refine lv_icmp_ne (tgt := 61) hx hb dX9_second_48 (by decide) (fun c8 => ?_) (fun c8 => ?_)
        · have hc8 := c8
          have q8 := q_ne hc8
          refine lv_aload_n hx hb dX9_second_61 rfl (lv_at hl 0 rfl) ?_
          refine m_getr (0) 7 (50) hx hb hts hown hE oc9 hM (hG.1 0 (by decide)) rfl (by decide) rfl (hG.2 (0, 7, 50) (by decide)) (by decide) tb_405 dX9_second_62 ?_
          refine m_geti (50) 2 hx hb hts hown hE oc6 hM (hG.1 50 (by decide)) rfl (by decide) rfl tb_273 dX9_second_65 ?_
          exact m_iret hx hb hr hlocks hM hS (Nat.le_of_ble_eq_true rfl) (Nat.le_of_ble_eq_true rfl) ⟨_, _, rfl, hI, hK⟩ dX9_second_68
        · have hc8 := c8
          have q8 := q_eq hc8
          refine lv_aload_n hx hb dX9_second_51 rfl (lv_at hl 0 rfl) ?_
          refine m_getr (0) 7 (50) hx hb hts hown hE oc9 hM (hG.1 0 (by decide)) rfl (by decide) rfl (hG.2 (0, 7, 50) (by decide)) (by decide) tb_405 dX9_second_52 ?_
          refine m_geti (50) 1 hx hb hts hown hE oc6 hM (hG.1 50 (by decide)) rfl (by decide) rfl tb_271 dX9_second_55 ?_
          refine lv_goto (tgt := 68) hx hb dX9_second_58 (by decide) ?_
          exact m_iret hx hb hr hlocks hM hS (Nat.le_of_ble_eq_true rfl) (Nat.le_of_ble_eq_true rfl) ⟨_, _, rfl, hI, hK⟩ dX9_second_68
      · have hc7 := c7
        have q7 := q_eq hc7
        refine lv_aload_n hx hb dX9_second_38 rfl (lv_at hl 0 rfl) ?_
        refine m_getr (0) 7 (50) hx hb hts hown hE oc9 hM (hG.1 0 (by decide)) rfl (by decide) rfl (hG.2 (0, 7, 50) (by decide)) (by decide) tb_405 dX9_second_39 ?_
        refine m_geti (50) 0 hx hb hts hown hE oc6 hM (hG.1 50 (by decide)) rfl (by decide) rfl tb_269 dX9_second_42 ?_
        exact m_iret hx hb hr hlocks hM hS (Nat.le_of_ble_eq_true rfl) (Nat.le_of_ble_eq_true rfl) ⟨_, _, rfl, hI, hK⟩ dX9_second_45
    · have hc4 := c4
      have q4 := xr3.f hc4
      refine lv_iconst (v := (-1)) hx hb dX9_second_20 (by decide) ?_
      exact m_iret hx hb hr hlocks hM hS (Nat.le_of_ble_eq_true rfl) (Nat.le_of_ble_eq_true rfl) ⟨_, _, rfl, hI, hK⟩ dX9_second_21
theorem dX9_thief_0 : decode cX9_thief 0 = .ok (.aload_n 0, 1) := by decide +kernel
theorem dX9_thief_1 : decode cX9_thief 1 = .ok (.getfield 10, 3) := by decide +kernel
theorem dX9_thief_4 : decode cX9_thief 4 = .ok (.iload_n 1, 1) := by decide +kernel
theorem dX9_thief_5 : decode cX9_thief 5 = .ok (.invokevirtual 216, 3) := by decide +kernel
theorem dX9_thief_8 : decode cX9_thief 8 = .ok (.ifCond .eq 12, 3) := by decide +kernel
theorem dX9_thief_11 : decode cX9_thief 11 = .ok (.iload_n 2, 1) := by decide +kernel
theorem dX9_thief_12 : decode cX9_thief 12 = .ok (.iconst 0, 1) := by decide +kernel
theorem dX9_thief_13 : decode cX9_thief 13 = .ok (.iconst 2, 1) := by decide +kernel
theorem dX9_thief_14 : decode cX9_thief 14 = .ok (.invokestatic 95, 3) := by decide +kernel
theorem dX9_thief_17 : decode cX9_thief 17 = .ok (.ifCond .ne 5, 3) := by decide +kernel
theorem dX9_thief_20 : decode cX9_thief 20 = .ok (.iconst (-1), 1) := by decide +kernel
theorem dX9_thief_21 : decode cX9_thief 21 = .ok (.ireturn, 1) := by decide +kernel
theorem dX9_thief_22 : decode cX9_thief 22 = .ok (.aload_n 0, 1) := by decide +kernel
theorem dX9_thief_23 : decode cX9_thief 23 = .ok (.getfield 65, 3) := by decide +kernel
theorem dX9_thief_26 : decode cX9_thief 26 = .ok (.aload_n 0, 1) := by decide +kernel
theorem dX9_thief_27 : decode cX9_thief 27 = .ok (.getfield 10, 3) := by decide +kernel
theorem dX9_thief_30 : decode cX9_thief 30 = .ok (.iload_n 1, 1) := by decide +kernel
theorem dX9_thief_31 : decode cX9_thief 31 = .ok (.invokevirtual 307, 3) := by decide +kernel
theorem dX9_thief_34 : decode cX9_thief 34 = .ok (.iload_n 2, 1) := by decide +kernel
theorem dX9_thief_35 : decode cX9_thief 35 = .ok (.ifCond .ne 11, 3) := by decide +kernel
theorem dX9_thief_38 : decode cX9_thief 38 = .ok (.aload_n 0, 1) := by decide +kernel
theorem dX9_thief_39 : decode cX9_thief 39 = .ok (.getfield 65, 3) := by decide +kernel
theorem dX9_thief_42 : decode cX9_thief 42 = .ok (.getfield 308, 3) := by decide +kernel
theorem dX9_thief_45 : decode cX9_thief 45 = .ok (.ireturn, 1) := by decide +kernel
theorem dX9_thief_46 : decode cX9_thief 46 = .ok (.iload_n 2, 1) := by decide +kernel
theorem dX9_thief_47 : decode cX9_thief 47 = .ok (.iconst 1, 1) := by decide +kernel
theorem dX9_thief_48 : decode cX9_thief 48 = .ok (.if_icmp .ne 13, 3) := by decide +kernel
theorem dX9_thief_51 : decode cX9_thief 51 = .ok (.aload_n 0, 1) := by decide +kernel
theorem dX9_thief_52 : decode cX9_thief 52 = .ok (.getfield 65, 3) := by decide +kernel
theorem dX9_thief_55 : decode cX9_thief 55 = .ok (.getfield 311, 3) := by decide +kernel
theorem dX9_thief_58 : decode cX9_thief 58 = .ok (.goto 10, 3) := by decide +kernel
theorem dX9_thief_61 : decode cX9_thief 61 = .ok (.aload_n 0, 1) := by decide +kernel
theorem dX9_thief_62 : decode cX9_thief 62 = .ok (.getfield 65, 3) := by decide +kernel
theorem dX9_thief_65 : decode cX9_thief 65 = .ok (.getfield 314, 3) := by decide +kernel
theorem dX9_thief_68 : decode cX9_thief 68 = .ok (.ireturn, 1) := by decide +kernel
theorem ce_X9_thief : CeV RX9 yX9_thief cX9_thief 3 (some .int) 2 := ⟨tb_1087, tb_1088, tb_1, tb_1089, rfl, by decide, by decide, by decide +kernel⟩
set_option maxHeartbeats 4000000 in
set_option maxRecDepth 20000 in
theorem V_X9_thief (l : Launch) (D : va_G) (A : Nat → Prop) (ad : Nat → Nat) (ns : List Nat) (I : MI) (L : ML) (G : MG) (a0 : Int32) (a1 : Int32) (hG : SGC ns G) (hI : INV I) : Met l yX9_thief (wd yX9_thief cX9_thief 3 (some .int)) ({ frames := 5, cells := 0, slots := 0, locals := 123 }) (va_Pc [.ref (ad (0)), .int a0, .int a1] (PM D A ad ns I L G)) (va_Qi (fun r u => ∃ I2 L2, u = (ad, ns, I2, L2, G) ∧ INV I2 ∧ Kp [(61, 63)] [(60, 0), (60, 1), (60, 2), (60, 5)] I I2) (BM D A) A) 0 0 A := by
  refine m_ofW (by decide) (Nat.le_of_ble_eq_true rfl) ?_
  intro p e s m below meth c ls args hC hE hM hA hS hl
  obtain ⟨hx, hb, hml, hown, hts, hr, hlocks, hin⟩ := hC
  have km1 : (-1 : Int32).toInt = -1 := by decide
  have k0 : (0 : Int32).toInt = 0 := by decide
  have k1 : (1 : Int32).toInt = 1 := by decide
  have k2 : (2 : Int32).toInt = 2 := by decide
  have hK : Kp [(61, 63)] [(60, 0), (60, 1), (60, 2), (60, 5)] I I := Kp.rf
  have hl : lv_has ls 3 [(0, .ref (ad (0))), (1, .int (a0)), (2, .int (a1))] := hl
  refine lv_aload_n hx hb dX9_thief_0 rfl (lv_at hl 0 rfl) ?_
  refine m_getr (0) 0 (100) hx hb hts hown hE oc9 hM (hG.1 0 (by decide)) rfl (by decide) rfl (hG.2 (0, 0, 100) (by decide)) (by decide) tb_398 dX9_thief_1 ?_
  refine lv_iload_n hx hb dX9_thief_4 rfl (lv_at hl 1 rfl) ?_
  refine m_calli (m_runV (100) (As := [.int (a0)]) (rest := []) hx hb hml hown hts hE hM hS hA ce_X8_isLit tb_906 (V_X8_isLit_100 l D A ad ns I L G (a0) hG hI) rfl rfl ⟨Nat.le_of_ble_eq_true rfl, Nat.le_of_ble_eq_true rfl⟩ (hG.1 100 (by decide)) rfl rfl (by decide) rfl hl.1 rfl (Nat.le_of_ble_eq_true rfl) dX9_thief_5 ⟨Nat.le_of_ble_eq_true rfl, Nat.le_of_ble_eq_true rfl⟩) hS (fun r1 u H locs hw hM hS => ?_)
  obtain ⟨rfl, xr1⟩ := hw
  have hM : Mem D A ad ns I L G H := hM
  have yr1 := bo01 xr1
  refine lv_if_eq (tgt := 20) hx hb dX9_thief_8 (by decide) (fun c2 => ?_) (fun c2 => ?_)
  · have hc2 := c2
    have q2 := xr1.f hc2
    refine lv_iconst (v := (-1)) hx hb dX9_thief_20 (by decide) ?_
    exact m_iret hx hb hr hlocks hM hS (Nat.le_of_ble_eq_true rfl) (Nat.le_of_ble_eq_true rfl) ⟨_, _, rfl, hI, hK⟩ dX9_thief_21
  · have hc2 := c2
    have q2 := xr1.t hc2
    have lh2 := q2.2.1
    refine lv_iload_n hx hb dX9_thief_11 rfl (lv_at hl 2 rfl) ?_
    refine lv_iconst (v := (0)) hx hb dX9_thief_12 (by decide) ?_
    refine lv_iconst (v := (2)) hx hb dX9_thief_13 (by decide) ?_
    refine m_calli (m_runS (As := [.int (a1), .int (0), .int (2)]) (rest := []) hx hb hml hown hts hE hM hS hA ce_X9_isWithin tb_451 (V_X9_isWithin l D A ad ns I L G (a1) (0) (2) hI) rfl rfl ⟨Nat.le_of_ble_eq_true rfl, Nat.le_of_ble_eq_true rfl⟩  rfl hl.1 rfl (Nat.le_of_ble_eq_true rfl) dX9_thief_14 ⟨Nat.le_of_ble_eq_true rfl, Nat.le_of_ble_eq_true rfl⟩) hS (fun r3 u H locs hw hM hS => ?_)
    obtain ⟨rfl, xr3⟩ := hw
    have hM : Mem D A ad ns I L G H := hM
    have yr3 := bo01 xr3
    refine lv_if_ne (tgt := 22) hx hb dX9_thief_17 (by decide) (fun c4 => ?_) (fun c4 => ?_)
    · have hc4 := c4
      have q4 := xr3.t hc4
      refine lv_aload_n hx hb dX9_thief_22 rfl (lv_at hl 0 rfl) ?_
      refine m_getr (0) 8 (60) hx hb hts hown hE oc9 hM (hG.1 0 (by decide)) rfl (by decide) rfl (hG.2 (0, 8, 60) (by decide)) (by decide) tb_406 dX9_thief_23 ?_
      refine lv_aload_n hx hb dX9_thief_26 rfl (lv_at hl 0 rfl) ?_
      refine m_getr (0) 0 (100) hx hb hts hown hE oc9 hM (hG.1 0 (by decide)) rfl (by decide) rfl (hG.2 (0, 0, 100) (by decide)) (by decide) tb_398 dX9_thief_27 ?_
      refine lv_iload_n hx hb dX9_thief_30 rfl (lv_at hl 1 rfl) ?_
      refine m_callv (m_runV (60) (As := [.ref (ad (100)), .int (a0)]) (rest := []) hx hb hml hown hts hE hM hS hA ce_X7_search tb_1090 (V_X7_search l D A ad ns I L G (a0) hG hI (q2.2) (by first | omega | decide)) rfl rfl ⟨Nat.le_of_ble_eq_true rfl, Nat.le_of_ble_eq_true rfl⟩ (hG.1 60 (by decide)) rfl rfl (by decide) rfl hl.1 rfl (Nat.le_of_ble_eq_true rfl) dX9_thief_31 ⟨Nat.le_of_ble_eq_true rfl, Nat.le_of_ble_eq_true rfl⟩) hS (fun u H locs hw hM hS => ?_)
      obtain ⟨I5, L6, rfl, hI, hkI5⟩ := hw
      have hM : Mem D A ad ns I5 L6 G H := hM
      have hK := hK.trans hkI5 rfl
      refine lv_iload_n hx hb dX9_thief_34 rfl (lv_at hl 2 rfl) ?_
      refine lv_if_ne (tgt := 46) hx hb dX9_thief_35 (by decide) (fun c7 => ?_) (fun c7 => ?_)
      · have hc7 := c7
        have q7 := q_ne hc7
        refine lv_iload_n hx hb dX9_thief_46 rfl (lv_at hl 2 rfl) ?_
        refine lv_iconst (v := (1)) hx hb dX9_thief_47 (by decide) ?_
        refine lv_icmp_ne (tgt := 61) hx hb dX9_thief_48 (by decide) (fun c8 => ?_) (fun c8 => ?_)
        · have hc8 := c8
          have q8 := q_ne hc8
          refine lv_aload_n hx hb dX9_thief_61 rfl (lv_at hl 0 rfl) ?_
          refine m_getr (0) 8 (60) hx hb hts hown hE oc9 hM (hG.1 0 (by decide)) rfl (by decide) rfl (hG.2 (0, 8, 60) (by decide)) (by decide) tb_406 dX9_thief_62 ?_
          refine m_geti (60) 2 hx hb hts hown hE oc7 hM (hG.1 60 (by decide)) rfl (by decide) rfl tb_295 dX9_thief_65 ?_
          exact m_iret hx hb hr hlocks hM hS (Nat.le_of_ble_eq_true rfl) (Nat.le_of_ble_eq_true rfl) ⟨_, _, rfl, hI, hK⟩ dX9_thief_68
        · have hc8 := c8
          have q8 := q_eq hc8
          refine lv_aload_n hx hb dX9_thief_51 rfl (lv_at hl 0 rfl) ?_
          refine m_getr (0) 8 (60) hx hb hts hown hE oc9 hM (hG.1 0 (by decide)) rfl (by decide) rfl (hG.2 (0, 8, 60) (by decide)) (by decide) tb_406 dX9_thief_52 ?_
          refine m_geti (60) 1 hx hb hts hown hE oc7 hM (hG.1 60 (by decide)) rfl (by decide) rfl tb_293 dX9_thief_55 ?_
          refine lv_goto (tgt := 68) hx hb dX9_thief_58 (by decide) ?_
          exact m_iret hx hb hr hlocks hM hS (Nat.le_of_ble_eq_true rfl) (Nat.le_of_ble_eq_true rfl) ⟨_, _, rfl, hI, hK⟩ dX9_thief_68
      · have hc7 := c7
        have q7 := q_eq hc7
        refine lv_aload_n hx hb dX9_thief_38 rfl (lv_at hl 0 rfl) ?_
        refine m_getr (0) 8 (60) hx hb hts hown hE oc9 hM (hG.1 0 (by decide)) rfl (by decide) rfl (hG.2 (0, 8, 60) (by decide)) (by decide) tb_406 dX9_thief_39 ?_
        refine m_geti (60) 0 hx hb hts hown hE oc7 hM (hG.1 60 (by decide)) rfl (by decide) rfl tb_291 dX9_thief_42 ?_
        exact m_iret hx hb hr hlocks hM hS (Nat.le_of_ble_eq_true rfl) (Nat.le_of_ble_eq_true rfl) ⟨_, _, rfl, hI, hK⟩ dX9_thief_45
    · have hc4 := c4
      have q4 := xr3.f hc4
      refine lv_iconst (v := (-1)) hx hb dX9_thief_20 (by decide) ?_
      exact m_iret hx hb hr hlocks hM hS (Nat.le_of_ble_eq_true rfl) (Nat.le_of_ble_eq_true rfl) ⟨_, _, rfl, hI, hK⟩ dX9_thief_21
theorem dX9_dusty_0 : decode cX9_dusty 0 = .ok (.aload_n 0, 1) := by decide +kernel
theorem dX9_dusty_1 : decode cX9_dusty 1 = .ok (.getfield 10, 3) := by decide +kernel
theorem dX9_dusty_4 : decode cX9_dusty 4 = .ok (.iload_n 1, 1) := by decide +kernel
theorem dX9_dusty_5 : decode cX9_dusty 5 = .ok (.invokevirtual 216, 3) := by decide +kernel
theorem dX9_dusty_8 : decode cX9_dusty 8 = .ok (.ifCond .eq 36, 3) := by decide +kernel
theorem dX9_dusty_11 : decode cX9_dusty 11 = .ok (.aload_n 0, 1) := by decide +kernel
theorem dX9_dusty_12 : decode cX9_dusty 12 = .ok (.getfield 10, 3) := by decide +kernel
theorem dX9_dusty_15 : decode cX9_dusty 15 = .ok (.iload_n 2, 1) := by decide +kernel
theorem dX9_dusty_16 : decode cX9_dusty 16 = .ok (.invokevirtual 144, 3) := by decide +kernel
theorem dX9_dusty_19 : decode cX9_dusty 19 = .ok (.ifCond .eq 25, 3) := by decide +kernel
theorem dX9_dusty_22 : decode cX9_dusty 22 = .ok (.aload_n 0, 1) := by decide +kernel
theorem dX9_dusty_23 : decode cX9_dusty 23 = .ok (.getfield 10, 3) := by decide +kernel
theorem dX9_dusty_26 : decode cX9_dusty 26 = .ok (.iload_n 3, 1) := by decide +kernel
theorem dX9_dusty_27 : decode cX9_dusty 27 = .ok (.invokevirtual 204, 3) := by decide +kernel
theorem dX9_dusty_30 : decode cX9_dusty 30 = .ok (.ifCond .eq 14, 3) := by decide +kernel
theorem dX9_dusty_33 : decode cX9_dusty 33 = .ok (.iload 4, 2) := by decide +kernel
theorem dX9_dusty_35 : decode cX9_dusty 35 = .ok (.iconst 0, 1) := by decide +kernel
theorem dX9_dusty_36 : decode cX9_dusty 36 = .ok (.ldc 155, 2) := by decide +kernel
theorem dX9_dusty_38 : decode cX9_dusty 38 = .ok (.invokestatic 95, 3) := by decide +kernel
theorem dX9_dusty_41 : decode cX9_dusty 41 = .ok (.ifCond .ne 5, 3) := by decide +kernel
theorem dX9_dusty_44 : decode cX9_dusty 44 = .ok (.iconst (-1), 1) := by decide +kernel
theorem dX9_dusty_45 : decode cX9_dusty 45 = .ok (.ireturn, 1) := by decide +kernel
theorem dX9_dusty_46 : decode cX9_dusty 46 = .ok (.aload_n 0, 1) := by decide +kernel
theorem dX9_dusty_47 : decode cX9_dusty 47 = .ok (.getfield 10, 3) := by decide +kernel
theorem dX9_dusty_50 : decode cX9_dusty 50 = .ok (.iload_n 2, 1) := by decide +kernel
theorem dX9_dusty_51 : decode cX9_dusty 51 = .ok (.bipush 7, 2) := by decide +kernel
theorem dX9_dusty_53 : decode cX9_dusty 53 = .ok (.invokevirtual 201, 3) := by decide +kernel
theorem dX9_dusty_56 : decode cX9_dusty 56 = .ok (.istore 5, 2) := by decide +kernel
theorem dX9_dusty_58 : decode cX9_dusty 58 = .ok (.aload_n 0, 1) := by decide +kernel
theorem dX9_dusty_59 : decode cX9_dusty 59 = .ok (.iload_n 1, 1) := by decide +kernel
theorem dX9_dusty_60 : decode cX9_dusty 60 = .ok (.iload_n 2, 1) := by decide +kernel
theorem dX9_dusty_61 : decode cX9_dusty 61 = .ok (.iload_n 3, 1) := by decide +kernel
theorem dX9_dusty_62 : decode cX9_dusty 62 = .ok (.iload 4, 2) := by decide +kernel
theorem dX9_dusty_64 : decode cX9_dusty 64 = .ok (.invokevirtual 317, 3) := by decide +kernel
theorem dX9_dusty_67 : decode cX9_dusty 67 = .ok (.istore 6, 2) := by decide +kernel
theorem dX9_dusty_69 : decode cX9_dusty 69 = .ok (.aload_n 0, 1) := by decide +kernel
theorem dX9_dusty_70 : decode cX9_dusty 70 = .ok (.getfield 10, 3) := by decide +kernel
theorem dX9_dusty_73 : decode cX9_dusty 73 = .ok (.iload_n 2, 1) := by decide +kernel
theorem dX9_dusty_74 : decode cX9_dusty 74 = .ok (.bipush 7, 2) := by decide +kernel
theorem dX9_dusty_76 : decode cX9_dusty 76 = .ok (.iload 5, 2) := by decide +kernel
theorem dX9_dusty_78 : decode cX9_dusty 78 = .ok (.invokevirtual 140, 3) := by decide +kernel
theorem dX9_dusty_81 : decode cX9_dusty 81 = .ok (.iload 6, 2) := by decide +kernel
theorem dX9_dusty_83 : decode cX9_dusty 83 = .ok (.ireturn, 1) := by decide +kernel
theorem ce_X9_dusty : CeV RX9 yX9_dusty cX9_dusty 7 (some .int) 4 := ⟨tb_1123, tb_1124, tb_1, tb_1125, rfl, by decide, by decide, by decide +kernel⟩
set_option maxHeartbeats 4000000 in
set_option maxRecDepth 20000 in
theorem V_X9_dusty (l : Launch) (D : va_G) (A : Nat → Prop) (ad : Nat → Nat) (ns : List Nat) (I : MI) (L : ML) (G : MG) (a0 : Int32) (a1 : Int32) (a2 : Int32) (a3 : Int32) (hG : SGC ns G) (hI : INV I) : Met l yX9_dusty (wd yX9_dusty cX9_dusty 7 (some .int)) ({ frames := 7, cells := 0, slots := 0, locals := 183 }) (va_Pc [.ref (ad (0)), .int a0, .int a1, .int a2, .int a3] (PM D A ad ns I L G)) (va_Qi (fun r u => ∃ I2 L2, u = (ad, ns, I2, L2, G) ∧ INV I2 ∧ Kp [(11, 15), (107, 108)] [(10, 2), (10, 3), (10, 4), (10, 5), (10, 6), (10, 7), (10, 11), (10, 12)] I I2) (BM D A) A) 0 0 A := by
  refine m_ofW (by decide) (Nat.le_of_ble_eq_true rfl) ?_
  intro p e s m below meth c ls args hC hE hM hA hS hl
  obtain ⟨hx, hb, hml, hown, hts, hr, hlocks, hin⟩ := hC
  have km1 : (-1 : Int32).toInt = -1 := by decide
  have k0 : (0 : Int32).toInt = 0 := by decide
  have k7 : (7 : Int32).toInt = 7 := by decide
  have k9999999 : (9999999 : Int32).toInt = 9999999 := by decide
  have hK : Kp [(11, 15), (107, 108)] [(10, 2), (10, 3), (10, 4), (10, 5), (10, 6), (10, 7), (10, 11), (10, 12)] I I := Kp.rf
  have hl : lv_has ls 7 [(0, .ref (ad (0))), (1, .int (a0)), (2, .int (a1)), (3, .int (a2)), (4, .int (a3))] := hl
  refine lv_aload_n hx hb dX9_dusty_0 rfl (lv_at hl 0 rfl) ?_
  refine m_getr (0) 0 (100) hx hb hts hown hE oc9 hM (hG.1 0 (by decide)) rfl (by decide) rfl (hG.2 (0, 0, 100) (by decide)) (by decide) tb_398 dX9_dusty_1 ?_
  refine lv_iload_n hx hb dX9_dusty_4 rfl (lv_at hl 1 rfl) ?_
  refine m_calli (m_runV (100) (As := [.int (a0)]) (rest := []) hx hb hml hown hts hE hM hS hA ce_X8_isLit tb_906 (V_X8_isLit_100 l D A ad ns I L G (a0) hG hI) rfl rfl ⟨Nat.le_of_ble_eq_true rfl, Nat.le_of_ble_eq_true rfl⟩ (hG.1 100 (by decide)) rfl rfl (by decide) rfl hl.1 rfl (Nat.le_of_ble_eq_true rfl) dX9_dusty_5 ⟨Nat.le_of_ble_eq_true rfl, Nat.le_of_ble_eq_true rfl⟩) hS (fun r1 u H locs hw hM hS => ?_)
  obtain ⟨rfl, xr1⟩ := hw
  have hM : Mem D A ad ns I L G H := hM
  have yr1 := bo01 xr1
  refine lv_if_eq (tgt := 44) hx hb dX9_dusty_8 (by decide) (fun c2 => ?_) (fun c2 => ?_)
  · have hc2 := c2
    have q2 := xr1.f hc2
    refine lv_iconst (v := (-1)) hx hb dX9_dusty_44 (by decide) ?_
    exact m_iret hx hb hr hlocks hM hS (Nat.le_of_ble_eq_true rfl) (Nat.le_of_ble_eq_true rfl) ⟨_, _, rfl, hI, hK⟩ dX9_dusty_45
  · have hc2 := c2
    have q2 := xr1.t hc2
    have lh2 := q2.2.1
    refine lv_aload_n hx hb dX9_dusty_11 rfl (lv_at hl 0 rfl) ?_
    refine m_getr (0) 0 (100) hx hb hts hown hE oc9 hM (hG.1 0 (by decide)) rfl (by decide) rfl (hG.2 (0, 0, 100) (by decide)) (by decide) tb_398 dX9_dusty_12 ?_
    refine lv_iload_n hx hb dX9_dusty_15 rfl (lv_at hl 2 rfl) ?_
    refine m_calli (m_runV (100) (As := [.int (a1)]) (rest := []) hx hb hml hown hts hE hM hS hA ce_X8_hasMirror tb_508 (V_X8_hasMirror_100 l D A ad ns I L G (a1) hG hI) rfl rfl ⟨Nat.le_of_ble_eq_true rfl, Nat.le_of_ble_eq_true rfl⟩ (hG.1 100 (by decide)) rfl rfl (by decide) rfl hl.1 rfl (Nat.le_of_ble_eq_true rfl) dX9_dusty_16 ⟨Nat.le_of_ble_eq_true rfl, Nat.le_of_ble_eq_true rfl⟩) hS (fun r3 u H locs hw hM hS => ?_)
    obtain ⟨rfl, xr3⟩ := hw
    have hM : Mem D A ad ns I L G H := hM
    have yr3 := bo01 xr3
    have g4 := hI.get 100 8 (lo := 0) (hi := 24) rfl
    refine lv_if_eq (tgt := 44) hx hb dX9_dusty_19 (by decide) (fun c5 => ?_) (fun c5 => ?_)
    · have hc5 := c5
      have q5 := xr3.f hc5
      refine lv_iconst (v := (-1)) hx hb dX9_dusty_44 (by decide) ?_
      exact m_iret hx hb hr hlocks hM hS (Nat.le_of_ble_eq_true rfl) (Nat.le_of_ble_eq_true rfl) ⟨_, _, rfl, hI, hK⟩ dX9_dusty_45
    · have hc5 := c5
      have q5 := xr3.t hc5
      refine lv_aload_n hx hb dX9_dusty_22 rfl (lv_at hl 0 rfl) ?_
      refine m_getr (0) 0 (100) hx hb hts hown hE oc9 hM (hG.1 0 (by decide)) rfl (by decide) rfl (hG.2 (0, 0, 100) (by decide)) (by decide) tb_398 dX9_dusty_23 ?_
      refine lv_iload_n hx hb dX9_dusty_26 rfl (lv_at hl 3 rfl) ?_
      refine m_calli (m_runV (100) (As := [.int (a2)]) (rest := []) hx hb hml hown hts hE hM hS hA ce_X8_hasYard tb_893 (V_X8_hasYard_100 l D A ad ns I L G (a2) hG hI) rfl rfl ⟨Nat.le_of_ble_eq_true rfl, Nat.le_of_ble_eq_true rfl⟩ (hG.1 100 (by decide)) rfl rfl (by decide) rfl hl.1 rfl (Nat.le_of_ble_eq_true rfl) dX9_dusty_27 ⟨Nat.le_of_ble_eq_true rfl, Nat.le_of_ble_eq_true rfl⟩) hS (fun r6 u H locs hw hM hS => ?_)
      obtain ⟨rfl, xr6⟩ := hw
      have hM : Mem D A ad ns I L G H := hM
      have yr6 := bo01 xr6
      have g7 := hI.get 100 9 (lo := 0) (hi := 8) rfl
      refine lv_if_eq (tgt := 44) hx hb dX9_dusty_30 (by decide) (fun c8 => ?_) (fun c8 => ?_)
      · have hc8 := c8
        have q8 := xr6.f hc8
        refine lv_iconst (v := (-1)) hx hb dX9_dusty_44 (by decide) ?_
        exact m_iret hx hb hr hlocks hM hS (Nat.le_of_ble_eq_true rfl) (Nat.le_of_ble_eq_true rfl) ⟨_, _, rfl, hI, hK⟩ dX9_dusty_45
      · have hc8 := c8
        have q8 := xr6.t hc8
        refine lv_iload hx hb dX9_dusty_33 (lv_at hl 4 rfl) ?_
        refine lv_iconst (v := (0)) hx hb dX9_dusty_35 (by decide) ?_
        refine lv_ldc (v := (9999999)) hx hb hown (hts _ tb_524) dX9_dusty_36 ?_
        refine m_calli (m_runS (As := [.int (a3), .int (0), .int (9999999)]) (rest := []) hx hb hml hown hts hE hM hS hA ce_X9_isWithin tb_451 (V_X9_isWithin l D A ad ns I L G (a3) (0) (9999999) hI) rfl rfl ⟨Nat.le_of_ble_eq_true rfl, Nat.le_of_ble_eq_true rfl⟩  rfl hl.1 rfl (Nat.le_of_ble_eq_true rfl) dX9_dusty_38 ⟨Nat.le_of_ble_eq_true rfl, Nat.le_of_ble_eq_true rfl⟩) hS (fun r9 u H locs hw hM hS => ?_)
        obtain ⟨rfl, xr9⟩ := hw
        have hM : Mem D A ad ns I L G H := hM
        have yr9 := bo01 xr9
        refine lv_if_ne (tgt := 46) hx hb dX9_dusty_41 (by decide) (fun c10 => ?_) (fun c10 => ?_)
        · have hc10 := c10
          have q10 := xr9.t hc10
          refine lv_aload_n hx hb dX9_dusty_46 rfl (lv_at hl 0 rfl) ?_
          refine m_getr (0) 0 (100) hx hb hts hown hE oc9 hM (hG.1 0 (by decide)) rfl (by decide) rfl (hG.2 (0, 0, 100) (by decide)) (by decide) tb_398 dX9_dusty_47 ?_
          refine lv_iload_n hx hb dX9_dusty_50 rfl (lv_at hl 2 rfl) ?_
          refine lv_bipush (v := (7)) hx hb dX9_dusty_51 (by decide) ?_
          refine m_calli (m_runV (100) (As := [.int (a1), .int (7)]) (rest := []) hx hb hml hown hts hE hM hS hA ce_X8_ofMirror tb_516 (V_X8_ofMirror_100 l D A ad ns I L G (a1) (7) hG hI (by first | omega | decide) (by first | omega | decide)) rfl rfl ⟨Nat.le_of_ble_eq_true rfl, Nat.le_of_ble_eq_true rfl⟩ (hG.1 100 (by decide)) rfl rfl (by decide) rfl hl.1 rfl (Nat.le_of_ble_eq_true rfl) dX9_dusty_53 ⟨Nat.le_of_ble_eq_true rfl, Nat.le_of_ble_eq_true rfl⟩) hS (fun r11 u H locs hw hM hS => ?_)
          obtain ⟨rfl, xr11⟩ := hw
          have hM : Mem D A ad ns I L G H := hM
          refine lv_istore (lv' := [(5, .int (r11)), (0, .ref (ad (0))), (1, .int (a0)), (2, .int (a1)), (3, .int (a2)), (4, .int (a3))]) hx hb dX9_dusty_56 hl (by decide) rfl (fun ls hl => ?_)
          refine lv_aload_n hx hb dX9_dusty_58 rfl (lv_at hl 1 rfl) ?_
          refine lv_iload_n hx hb dX9_dusty_59 rfl (lv_at hl 2 rfl) ?_
          refine lv_iload_n hx hb dX9_dusty_60 rfl (lv_at hl 3 rfl) ?_
          refine lv_iload_n hx hb dX9_dusty_61 rfl (lv_at hl 4 rfl) ?_
          refine lv_iload hx hb dX9_dusty_62 (lv_at hl 5 rfl) ?_
          refine m_calli (m_runV (0) (As := [.int (a0), .int (a1), .int (a2), .int (a3)]) (rest := []) hx hb hml hown hts hE hM hS hA ce_X9_leastDust tb_1126 (V_X9_leastDust l D A ad ns I L G (a0) (a1) (a2) (a3) hG hI (q2.2) (by first | omega | decide) (by first | omega | decide) (by first | omega | decide)) rfl rfl ⟨Nat.le_of_ble_eq_true rfl, Nat.le_of_ble_eq_true rfl⟩ (hG.1 0 (by decide)) rfl rfl (by decide) rfl hl.1 rfl (Nat.le_of_ble_eq_true rfl) dX9_dusty_64 ⟨Nat.le_of_ble_eq_true rfl, Nat.le_of_ble_eq_true rfl⟩) hS (fun r12 u H locs hw hM hS => ?_)
          obtain ⟨I13, L14, rfl, hI, hkI13⟩ := hw
          have hM : Mem D A ad ns I13 L14 G H := hM
          have hK := hK.trans hkI13 rfl
          refine lv_istore (lv' := [(6, .int (r12)), (5, .int (r11)), (0, .ref (ad (0))), (1, .int (a0)), (2, .int (a1)), (3, .int (a2)), (4, .int (a3))]) hx hb dX9_dusty_67 hl (by decide) rfl (fun ls hl => ?_)
          refine lv_aload_n hx hb dX9_dusty_69 rfl (lv_at hl 2 rfl) ?_
          refine m_getr (0) 0 (100) hx hb hts hown hE oc9 hM (hG.1 0 (by decide)) rfl (by decide) rfl (hG.2 (0, 0, 100) (by decide)) (by decide) tb_398 dX9_dusty_70 ?_
          refine lv_iload_n hx hb dX9_dusty_73 rfl (lv_at hl 4 rfl) ?_
          refine lv_bipush (v := (7)) hx hb dX9_dusty_74 (by decide) ?_
          refine lv_iload hx hb dX9_dusty_76 (lv_at hl 1 rfl) ?_
          refine m_callv (m_runV (100) (As := [.int (a1), .int (7), .int (r11)]) (rest := []) hx hb hml hown hts hE hM hS hA ce_X8_setMirror tb_503 (V_X8_setMirror_100 l D A ad ns I13 L14 G (a1) (7) (r11) hG hI (by first | omega | decide) (by first | omega | decide)) rfl rfl ⟨Nat.le_of_ble_eq_true rfl, Nat.le_of_ble_eq_true rfl⟩ (hG.1 100 (by decide)) rfl rfl (by decide) rfl hl.1 rfl (Nat.le_of_ble_eq_true rfl) dX9_dusty_78 ⟨Nat.le_of_ble_eq_true rfl, Nat.le_of_ble_eq_true rfl⟩) hS (fun u H locs hw hM hS => ?_)
          obtain ⟨I15, L16, rfl, hI, hkI15⟩ := hw
          have hM : Mem D A ad ns I15 L16 G H := hM
          have hK := hK.trans hkI15 rfl
          refine lv_iload hx hb dX9_dusty_81 (lv_at hl 0 rfl) ?_
          exact m_iret hx hb hr hlocks hM hS (Nat.le_of_ble_eq_true rfl) (Nat.le_of_ble_eq_true rfl) ⟨_, _, rfl, hI, hK⟩ dX9_dusty_83
        · have hc10 := c10
          have q10 := xr9.f hc10
          refine lv_iconst (v := (-1)) hx hb dX9_dusty_44 (by decide) ?_
          exact m_iret hx hb hr hlocks hM hS (Nat.le_of_ble_eq_true rfl) (Nat.le_of_ble_eq_true rfl) ⟨_, _, rfl, hI, hK⟩ dX9_dusty_45
theorem dX9_count_0 : decode cX9_count 0 = .ok (.iload_n 1, 1) := by decide +kernel
theorem dX9_count_1 : decode cX9_count 1 = .ok (.bipush 8, 2) := by decide +kernel
theorem dX9_count_3 : decode cX9_count 3 = .ok (.if_icmp .ne 8, 3) := by decide +kernel
theorem dX9_count_6 : decode cX9_count 6 = .ok (.aload_n 0, 1) := by decide +kernel
theorem dX9_count_7 : decode cX9_count 7 = .ok (.getfield 179, 3) := by decide +kernel
theorem dX9_count_10 : decode cX9_count 10 = .ok (.ireturn, 1) := by decide +kernel
theorem dX9_count_11 : decode cX9_count 11 = .ok (.iload_n 1, 1) := by decide +kernel
theorem dX9_count_12 : decode cX9_count 12 = .ok (.bipush 9, 2) := by decide +kernel
theorem dX9_count_14 : decode cX9_count 14 = .ok (.if_icmp .ne 8, 3) := by decide +kernel
theorem dX9_count_17 : decode cX9_count 17 = .ok (.aload_n 0, 1) := by decide +kernel
theorem dX9_count_18 : decode cX9_count 18 = .ok (.getfield 172, 3) := by decide +kernel
theorem dX9_count_21 : decode cX9_count 21 = .ok (.ireturn, 1) := by decide +kernel
theorem dX9_count_22 : decode cX9_count 22 = .ok (.aload_n 0, 1) := by decide +kernel
theorem dX9_count_23 : decode cX9_count 23 = .ok (.getfield 10, 3) := by decide +kernel
theorem dX9_count_26 : decode cX9_count 26 = .ok (.invokevirtual 111, 3) := by decide +kernel
theorem dX9_count_29 : decode cX9_count 29 = .ok (.ifCond .eq 11, 3) := by decide +kernel
theorem dX9_count_32 : decode cX9_count 32 = .ok (.aload_n 0, 1) := by decide +kernel
theorem dX9_count_33 : decode cX9_count 33 = .ok (.iload_n 1, 1) := by decide +kernel
theorem dX9_count_34 : decode cX9_count 34 = .ok (.invokevirtual 324, 3) := by decide +kernel
theorem dX9_count_37 : decode cX9_count 37 = .ok (.goto 4, 3) := by decide +kernel
theorem dX9_count_40 : decode cX9_count 40 = .ok (.iconst (-1), 1) := by decide +kernel
theorem dX9_count_41 : decode cX9_count 41 = .ok (.ireturn, 1) := by decide +kernel
theorem ce_X9_count : CeV RX9 yX9_count cX9_count 2 (some .int) 1 := ⟨tb_1157, tb_1158, tb_1, tb_1159, rfl, by decide, by decide, by decide +kernel⟩
set_option maxHeartbeats 4000000 in
set_option maxRecDepth 20000 in
theorem V_X9_count (l : Launch) (D : va_G) (A : Nat → Prop) (ad : Nat → Nat) (ns : List Nat) (I : MI) (L : ML) (G : MG) (a0 : Int32) (hG : SGC ns G) (hI : INV I) : Met l yX9_count (wd yX9_count cX9_count 2 (some .int)) ({ frames := 3, cells := 0, slots := 0, locals := 65 }) (va_Pc [.ref (ad (0)), .int a0] (PM D A ad ns I L G)) (va_Qi (fun r u => u = (ad, ns, I, L, G) ∧ (True)) (BM D A) A) 0 0 A := by
  refine m_ofW (by decide) (Nat.le_of_ble_eq_true rfl) ?_
  intro p e s m below meth c ls args hC hE hM hA hS hl
  obtain ⟨hx, hb, hml, hown, hts, hr, hlocks, hin⟩ := hC
  have km1 : (-1 : Int32).toInt = -1 := by decide
  have k0 : (0 : Int32).toInt = 0 := by decide
  have k8 : (8 : Int32).toInt = 8 := by decide
  have k9 : (9 : Int32).toInt = 9 := by decide
  have hl : lv_has ls 2 [(0, .ref (ad (0))), (1, .int (a0))] := hl
  refine lv_iload_n hx hb dX9_count_0 rfl (lv_at hl 1 rfl) ?_
  refine lv_bipush (v := (8)) hx hb dX9_count_1 (by decide) ?_
  refine lv_icmp_ne (tgt := 11) hx hb dX9_count_3 (by decide) (fun c1 => ?_) (fun c1 => ?_)
  · have hc1 := c1
    have q1 := q_ne hc1
    refine lv_iload_n hx hb dX9_count_11 rfl (lv_at hl 1 rfl) ?_
    refine lv_bipush (v := (9)) hx hb dX9_count_12 (by decide) ?_
    refine lv_icmp_ne (tgt := 22) hx hb dX9_count_14 (by decide) (fun c2 => ?_) (fun c2 => ?_)
    · have hc2 := c2
      have q2 := q_ne hc2
      refine lv_aload_n hx hb dX9_count_22 rfl (lv_at hl 0 rfl) ?_
      refine m_getr (0) 0 (100) hx hb hts hown hE oc9 hM (hG.1 0 (by decide)) rfl (by decide) rfl (hG.2 (0, 0, 100) (by decide)) (by decide) tb_398 dX9_count_23 ?_
      refine m_calli (m_runV (100) (As := []) (rest := []) hx hb hml hown hts hE hM hS hA ce_X8_isBegun tb_484 (V_X8_isBegun_100 l D A ad ns I L G hG hI) rfl rfl ⟨Nat.le_of_ble_eq_true rfl, Nat.le_of_ble_eq_true rfl⟩ (hG.1 100 (by decide)) rfl rfl (by decide) rfl hl.1 rfl (Nat.le_of_ble_eq_true rfl) dX9_count_26 ⟨Nat.le_of_ble_eq_true rfl, Nat.le_of_ble_eq_true rfl⟩) hS (fun r3 u H locs hw hM hS => ?_)
      obtain ⟨rfl, xr3⟩ := hw
      have hM : Mem D A ad ns I L G H := hM
      have yr3 := bo01 xr3
      refine lv_if_eq (tgt := 40) hx hb dX9_count_29 (by decide) (fun c4 => ?_) (fun c4 => ?_)
      · have hc4 := c4
        have q4 := xr3.f hc4
        refine lv_iconst (v := (-1)) hx hb dX9_count_40 (by decide) ?_
        exact m_iret hx hb hr hlocks hM hS (Nat.le_of_ble_eq_true rfl) (Nat.le_of_ble_eq_true rfl) ⟨rfl, trivial⟩ dX9_count_41
      · have hc4 := c4
        have q4 := xr3.t hc4
        refine lv_aload_n hx hb dX9_count_32 rfl (lv_at hl 0 rfl) ?_
        refine lv_iload_n hx hb dX9_count_33 rfl (lv_at hl 1 rfl) ?_
        refine m_calli (m_runV (0) (As := [.int (a0)]) (rest := []) hx hb hml hown hts hE hM hS hA ce_X9_countOfTown tb_1160 (V_X9_countOfTown l D A ad ns I L G (a0) hG hI) rfl rfl ⟨Nat.le_of_ble_eq_true rfl, Nat.le_of_ble_eq_true rfl⟩ (hG.1 0 (by decide)) rfl rfl (by decide) rfl hl.1 rfl (Nat.le_of_ble_eq_true rfl) dX9_count_34 ⟨Nat.le_of_ble_eq_true rfl, Nat.le_of_ble_eq_true rfl⟩) hS (fun r5 u H locs hw hM hS => ?_)
        obtain ⟨rfl, xr5⟩ := hw
        have hM : Mem D A ad ns I L G H := hM
        refine lv_goto (tgt := 41) hx hb dX9_count_37 (by decide) ?_
        exact m_iret hx hb hr hlocks hM hS (Nat.le_of_ble_eq_true rfl) (Nat.le_of_ble_eq_true rfl) ⟨rfl, trivial⟩ dX9_count_41
    · have hc2 := c2
      have q2 := q_eq hc2
      refine lv_aload_n hx hb dX9_count_17 rfl (lv_at hl 0 rfl) ?_
      refine m_geti (0) 15 hx hb hts hown hE oc9 hM (hG.1 0 (by decide)) rfl (by decide) rfl tb_413 dX9_count_18 ?_
      have g6 := hI.get (0) 15 (lo := 0) (hi := 400) rfl
      exact m_iret hx hb hr hlocks hM hS (Nat.le_of_ble_eq_true rfl) (Nat.le_of_ble_eq_true rfl) ⟨rfl, trivial⟩ dX9_count_21
  · have hc1 := c1
    have q1 := q_eq hc1
    refine lv_aload_n hx hb dX9_count_6 rfl (lv_at hl 0 rfl) ?_
    refine m_geti (0) 14 hx hb hts hown hE oc9 hM (hG.1 0 (by decide)) rfl (by decide) rfl tb_412 dX9_count_7 ?_
    have g7 := hI.get (0) 14 (lo := 0) (hi := 6) rfl
    exact m_iret hx hb hr hlocks hM hS (Nat.le_of_ble_eq_true rfl) (Nat.le_of_ble_eq_true rfl) ⟨rfl, trivial⟩ dX9_count_10
theorem dX9_sees_0 : decode cX9_sees 0 = .ok (.aload_n 0, 1) := by decide +kernel
theorem dX9_sees_1 : decode cX9_sees 1 = .ok (.getfield 10, 3) := by decide +kernel
theorem dX9_sees_4 : decode cX9_sees 4 = .ok (.iload_n 1, 1) := by decide +kernel
theorem dX9_sees_5 : decode cX9_sees 5 = .ok (.invokevirtual 216, 3) := by decide +kernel
theorem dX9_sees_8 : decode cX9_sees 8 = .ok (.ifCond .eq 14, 3) := by decide +kernel
theorem dX9_sees_11 : decode cX9_sees 11 = .ok (.aload_n 0, 1) := by decide +kernel
theorem dX9_sees_12 : decode cX9_sees 12 = .ok (.getfield 10, 3) := by decide +kernel
theorem dX9_sees_15 : decode cX9_sees 15 = .ok (.iload_n 2, 1) := by decide +kernel
theorem dX9_sees_16 : decode cX9_sees 16 = .ok (.invokevirtual 144, 3) := by decide +kernel
theorem dX9_sees_19 : decode cX9_sees 19 = .ok (.ifCond .ne 5, 3) := by decide +kernel
theorem dX9_sees_22 : decode cX9_sees 22 = .ok (.iconst (-1), 1) := by decide +kernel
theorem dX9_sees_23 : decode cX9_sees 23 = .ok (.ireturn, 1) := by decide +kernel
theorem dX9_sees_24 : decode cX9_sees 24 = .ok (.aload_n 0, 1) := by decide +kernel
theorem dX9_sees_25 : decode cX9_sees 25 = .ok (.getfield 26, 3) := by decide +kernel
theorem dX9_sees_28 : decode cX9_sees 28 = .ok (.aload_n 0, 1) := by decide +kernel
theorem dX9_sees_29 : decode cX9_sees 29 = .ok (.getfield 10, 3) := by decide +kernel
theorem dX9_sees_32 : decode cX9_sees 32 = .ok (.iload_n 1, 1) := by decide +kernel
theorem dX9_sees_33 : decode cX9_sees 33 = .ok (.invokevirtual 219, 3) := by decide +kernel
theorem dX9_sees_36 : decode cX9_sees 36 = .ok (.aload_n 0, 1) := by decide +kernel
theorem dX9_sees_37 : decode cX9_sees 37 = .ok (.getfield 26, 3) := by decide +kernel
theorem dX9_sees_40 : decode cX9_sees 40 = .ok (.getfield 223, 3) := by decide +kernel
theorem dX9_sees_43 : decode cX9_sees 43 = .ok (.iconst 0, 1) := by decide +kernel
theorem dX9_sees_44 : decode cX9_sees 44 = .ok (.aload_n 0, 1) := by decide +kernel
theorem dX9_sees_45 : decode cX9_sees 45 = .ok (.getfield 86, 3) := by decide +kernel
theorem dX9_sees_48 : decode cX9_sees 48 = .ok (.iconst 0, 1) := by decide +kernel
theorem dX9_sees_49 : decode cX9_sees 49 = .ok (.bipush 8, 2) := by decide +kernel
theorem dX9_sees_51 : decode cX9_sees 51 = .ok (.invokestatic 254, 3) := by decide +kernel
theorem dX9_sees_54 : decode cX9_sees 54 = .ok (.aload_n 0, 1) := by decide +kernel
theorem dX9_sees_55 : decode cX9_sees 55 = .ok (.getfield 10, 3) := by decide +kernel
theorem dX9_sees_58 : decode cX9_sees 58 = .ok (.iload_n 2, 1) := by decide +kernel
theorem dX9_sees_59 : decode cX9_sees 59 = .ok (.iconst 2, 1) := by decide +kernel
theorem dX9_sees_60 : decode cX9_sees 60 = .ok (.invokevirtual 201, 3) := by decide +kernel
theorem dX9_sees_63 : decode cX9_sees 63 = .ok (.istore_n 3, 1) := by decide +kernel
theorem dX9_sees_64 : decode cX9_sees 64 = .ok (.aload_n 0, 1) := by decide +kernel
theorem dX9_sees_65 : decode cX9_sees 65 = .ok (.getfield 10, 3) := by decide +kernel
theorem dX9_sees_68 : decode cX9_sees 68 = .ok (.iload_n 2, 1) := by decide +kernel
theorem dX9_sees_69 : decode cX9_sees 69 = .ok (.iconst 2, 1) := by decide +kernel
theorem dX9_sees_70 : decode cX9_sees 70 = .ok (.iload_n 3, 1) := by decide +kernel
theorem dX9_sees_71 : decode cX9_sees 71 = .ok (.iconst 1, 1) := by decide +kernel
theorem dX9_sees_72 : decode cX9_sees 72 = .ok (.iadd, 1) := by decide +kernel
theorem dX9_sees_73 : decode cX9_sees 73 = .ok (.bipush 8, 2) := by decide +kernel
theorem dX9_sees_75 : decode cX9_sees 75 = .ok (.irem, 1) := by decide +kernel
theorem dX9_sees_76 : decode cX9_sees 76 = .ok (.invokevirtual 140, 3) := by decide +kernel
theorem dX9_sees_79 : decode cX9_sees 79 = .ok (.aload_n 0, 1) := by decide +kernel
theorem dX9_sees_80 : decode cX9_sees 80 = .ok (.getfield 26, 3) := by decide +kernel
theorem dX9_sees_83 : decode cX9_sees 83 = .ok (.aload_n 0, 1) := by decide +kernel
theorem dX9_sees_84 : decode cX9_sees 84 = .ok (.getfield 10, 3) := by decide +kernel
theorem dX9_sees_87 : decode cX9_sees 87 = .ok (.iload_n 1, 1) := by decide +kernel
theorem dX9_sees_88 : decode cX9_sees 88 = .ok (.invokevirtual 219, 3) := by decide +kernel
theorem dX9_sees_91 : decode cX9_sees 91 = .ok (.aload_n 0, 1) := by decide +kernel
theorem dX9_sees_92 : decode cX9_sees 92 = .ok (.getfield 10, 3) := by decide +kernel
theorem dX9_sees_95 : decode cX9_sees 95 = .ok (.iload_n 2, 1) := by decide +kernel
theorem dX9_sees_96 : decode cX9_sees 96 = .ok (.iconst 2, 1) := by decide +kernel
theorem dX9_sees_97 : decode cX9_sees 97 = .ok (.iload_n 3, 1) := by decide +kernel
theorem dX9_sees_98 : decode cX9_sees 98 = .ok (.invokevirtual 140, 3) := by decide +kernel
theorem dX9_sees_101 : decode cX9_sees 101 = .ok (.iconst 0, 1) := by decide +kernel
theorem dX9_sees_102 : decode cX9_sees 102 = .ok (.istore 4, 2) := by decide +kernel
theorem dX9_sees_104 : decode cX9_sees 104 = .ok (.iconst 0, 1) := by decide +kernel
theorem dX9_sees_105 : decode cX9_sees 105 = .ok (.istore 5, 2) := by decide +kernel
theorem dX9_sees_107 : decode cX9_sees 107 = .ok (.iload 5, 2) := by decide +kernel
theorem dX9_sees_109 : decode cX9_sees 109 = .ok (.bipush 8, 2) := by decide +kernel
theorem dX9_sees_111 : decode cX9_sees 111 = .ok (.if_icmp .ge 38, 3) := by decide +kernel
theorem dX9_sees_114 : decode cX9_sees 114 = .ok (.aload_n 0, 1) := by decide +kernel
theorem dX9_sees_115 : decode cX9_sees 115 = .ok (.getfield 26, 3) := by decide +kernel
theorem dX9_sees_118 : decode cX9_sees 118 = .ok (.getfield 223, 3) := by decide +kernel
theorem dX9_sees_121 : decode cX9_sees 121 = .ok (.iload 5, 2) := by decide +kernel
theorem dX9_sees_123 : decode cX9_sees 123 = .ok (.iaload, 1) := by decide +kernel
theorem dX9_sees_124 : decode cX9_sees 124 = .ok (.aload_n 0, 1) := by decide +kernel
theorem dX9_sees_125 : decode cX9_sees 125 = .ok (.getfield 86, 3) := by decide +kernel
theorem dX9_sees_128 : decode cX9_sees 128 = .ok (.iload 5, 2) := by decide +kernel
theorem dX9_sees_130 : decode cX9_sees 130 = .ok (.iaload, 1) := by decide +kernel
theorem dX9_sees_131 : decode cX9_sees 131 = .ok (.if_icmp .eq 12, 3) := by decide +kernel
theorem dX9_sees_134 : decode cX9_sees 134 = .ok (.iload 4, 2) := by decide +kernel
theorem dX9_sees_136 : decode cX9_sees 136 = .ok (.iconst 1, 1) := by decide +kernel
theorem dX9_sees_137 : decode cX9_sees 137 = .ok (.iload 5, 2) := by decide +kernel
theorem dX9_sees_139 : decode cX9_sees 139 = .ok (.ishl, 1) := by decide +kernel
theorem dX9_sees_140 : decode cX9_sees 140 = .ok (.ior, 1) := by decide +kernel
theorem dX9_sees_141 : decode cX9_sees 141 = .ok (.istore 4, 2) := by decide +kernel
theorem dX9_sees_143 : decode cX9_sees 143 = .ok (.iinc 5 1, 3) := by decide +kernel
theorem dX9_sees_146 : decode cX9_sees 146 = .ok (.goto (-39), 3) := by decide +kernel
theorem dX9_sees_149 : decode cX9_sees 149 = .ok (.iload 4, 2) := by decide +kernel
theorem dX9_sees_151 : decode cX9_sees 151 = .ok (.ireturn, 1) := by decide +kernel
theorem ce_X9_sees : CeV RX9 yX9_sees cX9_sees 6 (some .int) 2 := ⟨tb_927, tb_928, tb_1, tb_929, rfl, by decide, by decide, by decide +kernel⟩
set_option maxHeartbeats 4000000 in
set_option maxRecDepth 20000 in
theorem V_X9_sees (l : Launch) (D : va_G) (A : Nat → Prop) (ad : Nat → Nat) (ns : List Nat) (I : MI) (L : ML) (G : MG) (a0 : Int32) (a1 : Int32) (hG : SGC ns G) (hI : INV I) : Met l yX9_sees (wd yX9_sees cX9_sees 6 (some .int)) ({ frames := 4, cells := 0, slots := 0, locals := 107 }) (va_Pc [.ref (ad (0)), .int a0, .int a1] (PM D A ad ns I L G)) (va_Qi (fun r u => ∃ I2 L2, u = (ad, ns, I2, L2, G) ∧ INV I2 ∧ Kp [(4, 5), (11, 15), (107, 108)] [(10, 2), (10, 3), (10, 4), (10, 5), (10, 6), (10, 7), (10, 11), (10, 12)] I I2) (BM D A) A) 0 0 A := by
  refine m_ofW (by decide) (Nat.le_of_ble_eq_true rfl) ?_
  intro p e s m below meth c ls args hC hE hM hA hS hl
  obtain ⟨hx, hb, hml, hown, hts, hr, hlocks, hin⟩ := hC
  have km1 : (-1 : Int32).toInt = -1 := by decide
  have k0 : (0 : Int32).toInt = 0 := by decide
  have k1 : (1 : Int32).toInt = 1 := by decide
  have k2 : (2 : Int32).toInt = 2 := by decide
  have k8 : (8 : Int32).toInt = 8 := by decide
  have hK : Kp [(4, 5), (11, 15), (107, 108)] [(10, 2), (10, 3), (10, 4), (10, 5), (10, 6), (10, 7), (10, 11), (10, 12)] I I := Kp.rf
  have hl : lv_has ls 6 [(0, .ref (ad (0))), (1, .int (a0)), (2, .int (a1))] := hl
  refine lv_aload_n hx hb dX9_sees_0 rfl (lv_at hl 0 rfl) ?_
  refine m_getr (0) 0 (100) hx hb hts hown hE oc9 hM (hG.1 0 (by decide)) rfl (by decide) rfl (hG.2 (0, 0, 100) (by decide)) (by decide) tb_398 dX9_sees_1 ?_
  refine lv_iload_n hx hb dX9_sees_4 rfl (lv_at hl 1 rfl) ?_
  refine m_calli (m_runV (100) (As := [.int (a0)]) (rest := []) hx hb hml hown hts hE hM hS hA ce_X8_isLit tb_906 (V_X8_isLit_100 l D A ad ns I L G (a0) hG hI) rfl rfl ⟨Nat.le_of_ble_eq_true rfl, Nat.le_of_ble_eq_true rfl⟩ (hG.1 100 (by decide)) rfl rfl (by decide) rfl hl.1 rfl (Nat.le_of_ble_eq_true rfl) dX9_sees_5 ⟨Nat.le_of_ble_eq_true rfl, Nat.le_of_ble_eq_true rfl⟩) hS (fun r1 u H locs hw hM hS => ?_)
  obtain ⟨rfl, xr1⟩ := hw
  have hM : Mem D A ad ns I L G H := hM
  have yr1 := bo01 xr1
  refine lv_if_eq (tgt := 22) hx hb dX9_sees_8 (by decide) (fun c2 => ?_) (fun c2 => ?_)
  · have hc2 := c2
    have q2 := xr1.f hc2
    refine lv_iconst (v := (-1)) hx hb dX9_sees_22 (by decide) ?_
    exact m_iret hx hb hr hlocks hM hS (Nat.le_of_ble_eq_true rfl) (Nat.le_of_ble_eq_true rfl) ⟨_, _, rfl, hI, hK⟩ dX9_sees_23
  · have hc2 := c2
    have q2 := xr1.t hc2
    have lh2 := q2.2.1
    refine lv_aload_n hx hb dX9_sees_11 rfl (lv_at hl 0 rfl) ?_
    refine m_getr (0) 0 (100) hx hb hts hown hE oc9 hM (hG.1 0 (by decide)) rfl (by decide) rfl (hG.2 (0, 0, 100) (by decide)) (by decide) tb_398 dX9_sees_12 ?_
    refine lv_iload_n hx hb dX9_sees_15 rfl (lv_at hl 2 rfl) ?_
    refine m_calli (m_runV (100) (As := [.int (a1)]) (rest := []) hx hb hml hown hts hE hM hS hA ce_X8_hasMirror tb_508 (V_X8_hasMirror_100 l D A ad ns I L G (a1) hG hI) rfl rfl ⟨Nat.le_of_ble_eq_true rfl, Nat.le_of_ble_eq_true rfl⟩ (hG.1 100 (by decide)) rfl rfl (by decide) rfl hl.1 rfl (Nat.le_of_ble_eq_true rfl) dX9_sees_16 ⟨Nat.le_of_ble_eq_true rfl, Nat.le_of_ble_eq_true rfl⟩) hS (fun r3 u H locs hw hM hS => ?_)
    obtain ⟨rfl, xr3⟩ := hw
    have hM : Mem D A ad ns I L G H := hM
    have yr3 := bo01 xr3
    have g4 := hI.get 100 8 (lo := 0) (hi := 24) rfl
    refine lv_if_ne (tgt := 24) hx hb dX9_sees_19 (by decide) (fun c5 => ?_) (fun c5 => ?_)
    · have hc5 := c5
      have q5 := xr3.t hc5
      refine lv_aload_n hx hb dX9_sees_24 rfl (lv_at hl 0 rfl) ?_
      refine m_getr (0) 3 (10) hx hb hts hown hE oc9 hM (hG.1 0 (by decide)) rfl (by decide) rfl (hG.2 (0, 3, 10) (by decide)) (by decide) tb_401 dX9_sees_25 ?_
      refine lv_aload_n hx hb dX9_sees_28 rfl (lv_at hl 0 rfl) ?_
      refine m_getr (0) 0 (100) hx hb hts hown hE oc9 hM (hG.1 0 (by decide)) rfl (by decide) rfl (hG.2 (0, 0, 100) (by decide)) (by decide) tb_398 dX9_sees_29 ?_
      refine lv_iload_n hx hb dX9_sees_32 rfl (lv_at hl 1 rfl) ?_
      refine m_callv (m_runV (10) (As := [.ref (ad (100)), .int (a0)]) (rest := []) hx hb hml hown hts hE hM hS hA ce_X1_shine tb_907 (V_X1_shine_100 l D A ad ns I L G (a0) hG hI (q2.2) (by first | omega | decide)) rfl rfl ⟨Nat.le_of_ble_eq_true rfl, Nat.le_of_ble_eq_true rfl⟩ (hG.1 10 (by decide)) rfl rfl (by decide) rfl hl.1 rfl (Nat.le_of_ble_eq_true rfl) dX9_sees_33 ⟨Nat.le_of_ble_eq_true rfl, Nat.le_of_ble_eq_true rfl⟩) hS (fun u H locs hw hM hS => ?_)
      obtain ⟨I6, L7, rfl, hI, hkI6⟩ := hw
      have hM : Mem D A ad ns I6 L7 G H := hM
      have hK := hK.trans hkI6 rfl
      refine lv_aload_n hx hb dX9_sees_36 rfl (lv_at hl 0 rfl) ?_
      refine m_getr (0) 3 (10) hx hb hts hown hE oc9 hM (hG.1 0 (by decide)) rfl (by decide) rfl (hG.2 (0, 3, 10) (by decide)) (by decide) tb_401 dX9_sees_37 ?_
      refine m_getr (10) 0 (11) hx hb hts hown hE oc1 hM (hG.1 10 (by decide)) rfl (by decide) rfl (hG.2 (10, 0, 11) (by decide)) (by decide) tb_133 dX9_sees_40 ?_
      refine lv_iconst (v := (0)) hx hb dX9_sees_43 (by decide) ?_
      refine lv_aload_n hx hb dX9_sees_44 rfl (lv_at hl 0 rfl) ?_
      refine m_getr (0) 12 (4) hx hb hts hown hE oc9 hM (hG.1 0 (by decide)) rfl (by decide) rfl (hG.2 (0, 12, 4) (by decide)) (by decide) tb_410 dX9_sees_45 ?_
      refine lv_iconst (v := (0)) hx hb dX9_sees_48 (by decide) ?_
      refine lv_bipush (v := (8)) hx hb dX9_sees_49 (by decide) ?_
      refine m_copyi (11) (4) hx hb (hml.trans hl.1.symm) hown hE hM hS (hG.1 11 (by decide)) rfl (hG.1 4 (by decide)) rfl (hts _ tb_930) (hts _ tb_568) (hts _ tb_567) (hts _ tb_13) ⟨⟨by decide, by decide, by decide⟩, by decide, by decide⟩ (Nat.le_of_ble_eq_true rfl) (Nat.le_of_ble_eq_true rfl) dX9_sees_51 (fun H locs I8 eI8 hM hS => ?_)
      have hI : INV I8 := by rw [eI8]; exact hI.cpy (by intro i hi; left; rfl)
      have hK : Kp [(4, 5), (11, 15), (107, 108)] [(10, 2), (10, 3), (10, 4), (10, 5), (10, 6), (10, 7), (10, 11), (10, 12)] I I8 := by rw [eI8]; exact hK.cpy rfl
      refine lv_aload_n hx hb dX9_sees_54 rfl (lv_at hl 0 rfl) ?_
      refine m_getr (0) 0 (100) hx hb hts hown hE oc9 hM (hG.1 0 (by decide)) rfl (by decide) rfl (hG.2 (0, 0, 100) (by decide)) (by decide) tb_398 dX9_sees_55 ?_
      refine lv_iload_n hx hb dX9_sees_58 rfl (lv_at hl 2 rfl) ?_
      refine lv_iconst (v := (2)) hx hb dX9_sees_59 (by decide) ?_
      refine m_calli (m_runV (100) (As := [.int (a1), .int (2)]) (rest := []) hx hb hml hown hts hE hM hS hA ce_X8_ofMirror tb_516 (V_X8_ofMirror_100 l D A ad ns I8 L7 G (a1) (2) hG hI (by first | omega | decide) (by first | omega | decide)) rfl rfl ⟨Nat.le_of_ble_eq_true rfl, Nat.le_of_ble_eq_true rfl⟩ (hG.1 100 (by decide)) rfl rfl (by decide) rfl hl.1 rfl (Nat.le_of_ble_eq_true rfl) dX9_sees_60 ⟨Nat.le_of_ble_eq_true rfl, Nat.le_of_ble_eq_true rfl⟩) hS (fun r9 u H locs hw hM hS => ?_)
      obtain ⟨rfl, xr9⟩ := hw
      have hM : Mem D A ad ns I8 L7 G H := hM
      refine lv_istore_n (lv' := [(3, .int (r9)), (0, .ref (ad (0))), (1, .int (a0)), (2, .int (a1))]) hx hb dX9_sees_63 rfl hl (by decide) rfl (fun ls hl => ?_)
      refine lv_aload_n hx hb dX9_sees_64 rfl (lv_at hl 1 rfl) ?_
      refine m_getr (0) 0 (100) hx hb hts hown hE oc9 hM (hG.1 0 (by decide)) rfl (by decide) rfl (hG.2 (0, 0, 100) (by decide)) (by decide) tb_398 dX9_sees_65 ?_
      refine lv_iload_n hx hb dX9_sees_68 rfl (lv_at hl 3 rfl) ?_
      refine lv_iconst (v := (2)) hx hb dX9_sees_69 (by decide) ?_
      refine lv_iload_n hx hb dX9_sees_70 rfl (lv_at hl 0 rfl) ?_
      refine lv_iconst (v := (1)) hx hb dX9_sees_71 (by decide) ?_
      refine lv_iadd hx hb dX9_sees_72 ?_
      refine lv_topi (fun v10 ev10 => ?_)
      refine lv_bipush (v := (8)) hx hb dX9_sees_73 (by decide) ?_
      refine lv_irem hx hb dX9_sees_75 (by decide) ?_
      refine lv_topi (fun v11 ev11 => ?_)
      refine m_callv (m_runV (100) (As := [.int (a1), .int (2), .int (v11)]) (rest := []) hx hb hml hown hts hE hM hS hA ce_X8_setMirror tb_503 (V_X8_setMirror_100 l D A ad ns I8 L7 G (a1) (2) (v11) hG hI (by first | omega | decide) (by first | omega | decide)) rfl rfl ⟨Nat.le_of_ble_eq_true rfl, Nat.le_of_ble_eq_true rfl⟩ (hG.1 100 (by decide)) rfl rfl (by decide) rfl hl.1 rfl (Nat.le_of_ble_eq_true rfl) dX9_sees_76 ⟨Nat.le_of_ble_eq_true rfl, Nat.le_of_ble_eq_true rfl⟩) hS (fun u H locs hw hM hS => ?_)
      obtain ⟨I12, L13, rfl, hI, hkI12⟩ := hw
      have hM : Mem D A ad ns I12 L13 G H := hM
      have hK := hK.trans hkI12 rfl
      refine lv_aload_n hx hb dX9_sees_79 rfl (lv_at hl 1 rfl) ?_
      refine m_getr (0) 3 (10) hx hb hts hown hE oc9 hM (hG.1 0 (by decide)) rfl (by decide) rfl (hG.2 (0, 3, 10) (by decide)) (by decide) tb_401 dX9_sees_80 ?_
      refine lv_aload_n hx hb dX9_sees_83 rfl (lv_at hl 1 rfl) ?_
      refine m_getr (0) 0 (100) hx hb hts hown hE oc9 hM (hG.1 0 (by decide)) rfl (by decide) rfl (hG.2 (0, 0, 100) (by decide)) (by decide) tb_398 dX9_sees_84 ?_
      refine lv_iload_n hx hb dX9_sees_87 rfl (lv_at hl 2 rfl) ?_
      refine m_callv (m_runV (10) (As := [.ref (ad (100)), .int (a0)]) (rest := []) hx hb hml hown hts hE hM hS hA ce_X1_shine tb_907 (V_X1_shine_100 l D A ad ns I12 L13 G (a0) hG hI ((q2.2).kp hK rfl) (by first | omega | decide)) rfl rfl ⟨Nat.le_of_ble_eq_true rfl, Nat.le_of_ble_eq_true rfl⟩ (hG.1 10 (by decide)) rfl rfl (by decide) rfl hl.1 rfl (Nat.le_of_ble_eq_true rfl) dX9_sees_88 ⟨Nat.le_of_ble_eq_true rfl, Nat.le_of_ble_eq_true rfl⟩) hS (fun u H locs hw hM hS => ?_)
      obtain ⟨I14, L15, rfl, hI, hkI14⟩ := hw
      have hM : Mem D A ad ns I14 L15 G H := hM
      have hK := hK.trans hkI14 rfl
      refine lv_aload_n hx hb dX9_sees_91 rfl (lv_at hl 1 rfl) ?_
      refine m_getr (0) 0 (100) hx hb hts hown hE oc9 hM (hG.1 0 (by decide)) rfl (by decide) rfl (hG.2 (0, 0, 100) (by decide)) (by decide) tb_398 dX9_sees_92 ?_
      refine lv_iload_n hx hb dX9_sees_95 rfl (lv_at hl 3 rfl) ?_
      refine lv_iconst (v := (2)) hx hb dX9_sees_96 (by decide) ?_
      refine lv_iload_n hx hb dX9_sees_97 rfl (lv_at hl 0 rfl) ?_
      refine m_callv (m_runV (100) (As := [.int (a1), .int (2), .int (r9)]) (rest := []) hx hb hml hown hts hE hM hS hA ce_X8_setMirror tb_503 (V_X8_setMirror_100 l D A ad ns I14 L15 G (a1) (2) (r9) hG hI (by first | omega | decide) (by first | omega | decide)) rfl rfl ⟨Nat.le_of_ble_eq_true rfl, Nat.le_of_ble_eq_true rfl⟩ (hG.1 100 (by decide)) rfl rfl (by decide) rfl hl.1 rfl (Nat.le_of_ble_eq_true rfl) dX9_sees_98 ⟨Nat.le_of_ble_eq_true rfl, Nat.le_of_ble_eq_true rfl⟩) hS (fun u H locs hw hM hS => ?_)
      obtain ⟨I16, L17, rfl, hI, hkI16⟩ := hw
      have hM : Mem D A ad ns I16 L17 G H := hM
      have hK := hK.trans hkI16 rfl
      refine lv_iconst (v := (0)) hx hb dX9_sees_101 (by decide) ?_
      refine lv_istore (lv' := [(4, .int (0)), (3, .int (r9)), (0, .ref (ad (0))), (1, .int (a0)), (2, .int (a1))]) hx hb dX9_sees_102 hl (by decide) rfl (fun ls hl => ?_)
      refine lv_iconst (v := (0)) hx hb dX9_sees_104 (by decide) ?_
      refine lv_istore (lv' := [(5, .int (0)), (4, .int (0)), (3, .int (r9)), (0, .ref (ad (0))), (1, .int (a0)), (2, .int (a1))]) hx hb dX9_sees_105 hl (by decide) rfl (fun ls hl => ?_)
      have loop107 : ∀ (n : Nat) (x5_107 : Int32) (x4_107 : Int32) (Ia107 : MI) (La107 : ML) (H : Heap) (locs : List Loc) (ls : Array Slot), INV Ia107 → Kp [(4, 5), (11, 15), (107, 108)] [(10, 2), (10, 3), (10, 4), (10, 5), (10, 6), (10, 7), (10, 11), (10, 12)] I Ia107 → (0 ≤ x5_107.toInt ∧ x5_107.toInt ≤ 8) → (8 - x5_107.toInt).toNat < n → Mem D A ad ns Ia107 La107 G H → va_S A s.heap H locs → lv_has ls 6 [(5, .int (x5_107)), (4, .int (x4_107)), (3, .int (r9)), (0, .ref (ad (0))), (1, .int (a0)), (2, .int (a1))] → W p l e ({ frames := 4, cells := 0, slots := 0, locals := 107 } : Room) s m args below meth c H locs 0 0 (MQ below (va_Qi (fun r u => ∃ I2 L2, u = (ad, ns, I2, L2, G) ∧ INV I2 ∧ Kp [(4, 5), (11, 15), (107, 108)] [(10, 2), (10, 3), (10, 4), (10, 5), (10, 6), (10, 7), (10, 11), (10, 12)] I I2) (BM D A) A) args s 0 0 A) (F0 m 107 ls []) := by
        intro n
        induction n with
        | zero =>
          intro x5_107 x4_107 Ia107 La107 H locs ls hI hK hr5_107 hmu
          exact absurd hmu (Nat.not_lt_zero _)
        | succ n ih107 =>
          intro x5_107 x4_107 Ia107 La107 H locs ls hI hK hr5_107 hmu107 hM hS hl
          refine lv_iload hx hb dX9_sees_107 (lv_at hl 0 rfl) ?_
          refine lv_bipush (v := (8)) hx hb dX9_sees_109 (by decide) ?_
          refine lv_icmp_ge (tgt := 149) hx hb dX9_sees_111 (by decide) (fun c18 => ?_) (fun c18 => ?_)
          · have hc18 := c18
            have q18 := q_le hc18
            refine lv_iload hx hb dX9_sees_149 (lv_at hl 1 rfl) ?_
            exact m_iret hx hb hr hlocks hM hS (Nat.le_of_ble_eq_true rfl) (Nat.le_of_ble_eq_true rfl) ⟨_, _, rfl, hI, hK⟩ dX9_sees_151
          · have hc18 := c18
            have q18 := q_nle hc18
            refine lv_aload_n hx hb dX9_sees_114 rfl (lv_at hl 3 rfl) ?_
            refine m_getr (0) 3 (10) hx hb hts hown hE oc9 hM (hG.1 0 (by decide)) rfl (by decide) rfl (hG.2 (0, 3, 10) (by decide)) (by decide) tb_401 dX9_sees_115 ?_
            refine m_getr (10) 0 (11) hx hb hts hown hE oc1 hM (hG.1 10 (by decide)) rfl (by decide) rfl (hG.2 (10, 0, 11) (by decide)) (by decide) tb_133 dX9_sees_118 ?_
            refine lv_iload hx hb dX9_sees_121 (lv_at hl 0 rfl) ?_
            refine m_iald (11) hx hb hE hM (hG.1 11 (by decide)) rfl (vp_in_iff.mpr (by omega)) dX9_sees_123 ?_
            refine lv_aload_n hx hb dX9_sees_124 rfl (lv_at hl 3 rfl) ?_
            refine m_getr (0) 12 (4) hx hb hts hown hE oc9 hM (hG.1 0 (by decide)) rfl (by decide) rfl (hG.2 (0, 12, 4) (by decide)) (by decide) tb_410 dX9_sees_125 ?_
            refine lv_iload hx hb dX9_sees_128 (lv_at hl 0 rfl) ?_
            refine m_iald (4) hx hb hE hM (hG.1 4 (by decide)) rfl (vp_in_iff.mpr (by omega)) dX9_sees_130 ?_
            refine lv_icmp_eq (tgt := 143) hx hb dX9_sees_131 (by decide) (fun c19 => ?_) (fun c19 => ?_)
            · have hc19 := c19
              have q19 := q_eq hc19
              obtain ⟨v20, ev20⟩ : ∃ z : Int32, z = x5_107 + Int32.ofInt (1) := ⟨_, rfl⟩
              have tv20 := a_inc ev20 (by decide) (by omega) (by omega)
              refine lv_iinc (v := v20) (lv' := [(5, .int (v20)), (4, .int (x4_107)), (3, .int (r9)), (0, .ref (ad (0))), (1, .int (a0)), (2, .int (a1))]) hx hb dX9_sees_143 hl (k := 0) rfl ev20.symm (by decide) rfl (fun ls hl => ?_)
              refine lv_goto (tgt := 107) hx hb dX9_sees_146 (by decide) ?_
              exact ih107 (v20) (x4_107) Ia107 La107 _ _ ls hI hK (by first | omega | decide) (by omega) hM hS (lv_sub hl [0, 1, 2, 3, 4, 5] rfl)
            · have hc19 := c19
              have q19 := q_ne hc19
              refine lv_iload hx hb dX9_sees_134 (lv_at hl 1 rfl) ?_
              refine lv_iconst (v := (1)) hx hb dX9_sees_136 (by decide) ?_
              refine lv_iload hx hb dX9_sees_137 (lv_at hl 0 rfl) ?_
              refine lv_ishl hx hb dX9_sees_139 ?_
              refine lv_topi (fun v21 ev21 => ?_)
              refine lv_ior hx hb dX9_sees_140 ?_
              refine lv_topi (fun v22 ev22 => ?_)
              refine lv_istore (lv' := [(4, .int (v22)), (5, .int (x5_107)), (3, .int (r9)), (0, .ref (ad (0))), (1, .int (a0)), (2, .int (a1))]) hx hb dX9_sees_141 hl (by decide) rfl (fun ls hl => ?_)
              obtain ⟨v23, ev23⟩ : ∃ z : Int32, z = x5_107 + Int32.ofInt (1) := ⟨_, rfl⟩
              have tv23 := a_inc ev23 (by decide) (by omega) (by omega)
              refine lv_iinc (v := v23) (lv' := [(5, .int (v23)), (4, .int (v22)), (3, .int (r9)), (0, .ref (ad (0))), (1, .int (a0)), (2, .int (a1))]) hx hb dX9_sees_143 hl (k := 1) rfl ev23.symm (by decide) rfl (fun ls hl => ?_)
              refine lv_goto (tgt := 107) hx hb dX9_sees_146 (by decide) ?_
              exact ih107 (v23) (v22) Ia107 La107 _ _ ls hI hK (by first | omega | decide) (by omega) hM hS (lv_sub hl [0, 1, 2, 3, 4, 5] rfl)
      exact loop107 (_ + 1) (0) (0) I16 L17 _ _ ls hI hK (by first | omega | decide) (Nat.lt_succ_self _) hM hS (lv_sub hl [0, 1, 2, 3, 4, 5] rfl)
    · have hc5 := c5
      have q5 := xr3.f hc5
      refine lv_iconst (v := (-1)) hx hb dX9_sees_22 (by decide) ?_
      exact m_iret hx hb hr hlocks hM hS (Nat.le_of_ble_eq_true rfl) (Nat.le_of_ble_eq_true rfl) ⟨_, _, rfl, hI, hK⟩ dX9_sees_23
theorem dX9_mends_0 : decode cX9_mends 0 = .ok (.aload_n 0, 1) := by decide +kernel
theorem dX9_mends_1 : decode cX9_mends 1 = .ok (.getfield 10, 3) := by decide +kernel
theorem dX9_mends_4 : decode cX9_mends 4 = .ok (.iload_n 1, 1) := by decide +kernel
theorem dX9_mends_5 : decode cX9_mends 5 = .ok (.invokevirtual 216, 3) := by decide +kernel
theorem dX9_mends_8 : decode cX9_mends 8 = .ok (.ifCond .eq 23, 3) := by decide +kernel
theorem dX9_mends_11 : decode cX9_mends 11 = .ok (.aload_n 0, 1) := by decide +kernel
theorem dX9_mends_12 : decode cX9_mends 12 = .ok (.getfield 10, 3) := by decide +kernel
theorem dX9_mends_15 : decode cX9_mends 15 = .ok (.iload_n 2, 1) := by decide +kernel
theorem dX9_mends_16 : decode cX9_mends 16 = .ok (.invokevirtual 144, 3) := by decide +kernel
theorem dX9_mends_19 : decode cX9_mends 19 = .ok (.ifCond .eq 12, 3) := by decide +kernel
theorem dX9_mends_22 : decode cX9_mends 22 = .ok (.iload_n 3, 1) := by decide +kernel
theorem dX9_mends_23 : decode cX9_mends 23 = .ok (.iconst 0, 1) := by decide +kernel
theorem dX9_mends_24 : decode cX9_mends 24 = .ok (.iconst 4, 1) := by decide +kernel
theorem dX9_mends_25 : decode cX9_mends 25 = .ok (.invokestatic 95, 3) := by decide +kernel
theorem dX9_mends_28 : decode cX9_mends 28 = .ok (.ifCond .ne 5, 3) := by decide +kernel
theorem dX9_mends_31 : decode cX9_mends 31 = .ok (.iconst (-1), 1) := by decide +kernel
theorem dX9_mends_32 : decode cX9_mends 32 = .ok (.ireturn, 1) := by decide +kernel
theorem dX9_mends_33 : decode cX9_mends 33 = .ok (.aload_n 0, 1) := by decide +kernel
theorem dX9_mends_34 : decode cX9_mends 34 = .ok (.getfield 51, 3) := by decide +kernel
theorem dX9_mends_37 : decode cX9_mends 37 = .ok (.iload_n 1, 1) := by decide +kernel
theorem dX9_mends_38 : decode cX9_mends 38 = .ok (.iload_n 2, 1) := by decide +kernel
theorem dX9_mends_39 : decode cX9_mends 39 = .ok (.invokevirtual 278, 3) := by decide +kernel
theorem dX9_mends_42 : decode cX9_mends 42 = .ok (.aload_n 0, 1) := by decide +kernel
theorem dX9_mends_43 : decode cX9_mends 43 = .ok (.getfield 51, 3) := by decide +kernel
theorem dX9_mends_46 : decode cX9_mends 46 = .ok (.invokevirtual 281, 3) := by decide +kernel
theorem dX9_mends_49 : decode cX9_mends 49 = .ok (.ifCond .ne 20, 3) := by decide +kernel
theorem dX9_mends_52 : decode cX9_mends 52 = .ok (.aload_n 0, 1) := by decide +kernel
theorem dX9_mends_53 : decode cX9_mends 53 = .ok (.getfield 51, 3) := by decide +kernel
theorem dX9_mends_56 : decode cX9_mends 56 = .ok (.invokevirtual 284, 3) := by decide +kernel
theorem dX9_mends_59 : decode cX9_mends 59 = .ok (.ifCond .ne 10, 3) := by decide +kernel
theorem dX9_mends_62 : decode cX9_mends 62 = .ok (.aload_n 0, 1) := by decide +kernel
theorem dX9_mends_63 : decode cX9_mends 63 = .ok (.getfield 51, 3) := by decide +kernel
theorem dX9_mends_66 : decode cX9_mends 66 = .ok (.invokevirtual 287, 3) := by decide +kernel
theorem dX9_mends_69 : decode cX9_mends 69 = .ok (.aload_n 0, 1) := by decide +kernel
theorem dX9_mends_70 : decode cX9_mends 70 = .ok (.getfield 51, 3) := by decide +kernel
theorem dX9_mends_73 : decode cX9_mends 73 = .ok (.invokevirtual 290, 3) := by decide +kernel
theorem dX9_mends_76 : decode cX9_mends 76 = .ok (.aload_n 0, 1) := by decide +kernel
theorem dX9_mends_77 : decode cX9_mends 77 = .ok (.getfield 51, 3) := by decide +kernel
theorem dX9_mends_80 : decode cX9_mends 80 = .ok (.getfield 293, 3) := by decide +kernel
theorem dX9_mends_83 : decode cX9_mends 83 = .ok (.iload_n 3, 1) := by decide +kernel
theorem dX9_mends_84 : decode cX9_mends 84 = .ok (.iaload, 1) := by decide +kernel
theorem dX9_mends_85 : decode cX9_mends 85 = .ok (.ireturn, 1) := by decide +kernel
theorem ce_X9_mends : CeV RX9 yX9_mends cX9_mends 4 (some .int) 3 := ⟨tb_1009, tb_1010, tb_1, tb_1011, rfl, by decide, by decide, by decide +kernel⟩
set_option maxHeartbeats 4000000 in
set_option maxRecDepth 20000 in
theorem V_X9_mends (l : Launch) (D : va_G) (A : Nat → Prop) (ad : Nat → Nat) (ns : List Nat) (I : MI) (L : ML) (G : MG) (a0 : Int32) (a1 : Int32) (a2 : Int32) (hG : SGC ns G) (hI : INV I) : Met l yX9_mends (wd yX9_mends cX9_mends 4 (some .int)) ({ frames := 7, cells := 0, slots := 0, locals := 178 }) (va_Pc [.ref (ad (0)), .int a0, .int a1, .int a2] (PM D A ad ns I L G)) (va_Qi (fun r u => ∃ I2 L2, u = (ad, ns, I2, L2, G) ∧ INV I2 ∧ Kp [(11, 15), (41, 44), (107, 108)] [(10, 2), (10, 3), (10, 4), (10, 5), (10, 6), (10, 7), (10, 11), (10, 12), (40, 5), (40, 6), (40, 7), (40, 8)] I I2) (BM D A) A) 0 0 A := by
  refine m_ofW (by decide) (Nat.le_of_ble_eq_true rfl) ?_
  intro p e s m below meth c ls args hC hE hM hA hS hl
  obtain ⟨hx, hb, hml, hown, hts, hr, hlocks, hin⟩ := hC
  have km1 : (-1 : Int32).toInt = -1 := by decide
  have k0 : (0 : Int32).toInt = 0 := by decide
  have k4 : (4 : Int32).toInt = 4 := by decide
  have hK : Kp [(11, 15), (41, 44), (107, 108)] [(10, 2), (10, 3), (10, 4), (10, 5), (10, 6), (10, 7), (10, 11), (10, 12), (40, 5), (40, 6), (40, 7), (40, 8)] I I := Kp.rf
  have hl : lv_has ls 4 [(0, .ref (ad (0))), (1, .int (a0)), (2, .int (a1)), (3, .int (a2))] := hl
  refine lv_aload_n hx hb dX9_mends_0 rfl (lv_at hl 0 rfl) ?_
  refine m_getr (0) 0 (100) hx hb hts hown hE oc9 hM (hG.1 0 (by decide)) rfl (by decide) rfl (hG.2 (0, 0, 100) (by decide)) (by decide) tb_398 dX9_mends_1 ?_
  refine lv_iload_n hx hb dX9_mends_4 rfl (lv_at hl 1 rfl) ?_
  refine m_calli (m_runV (100) (As := [.int (a0)]) (rest := []) hx hb hml hown hts hE hM hS hA ce_X8_isLit tb_906 (V_X8_isLit_100 l D A ad ns I L G (a0) hG hI) rfl rfl ⟨Nat.le_of_ble_eq_true rfl, Nat.le_of_ble_eq_true rfl⟩ (hG.1 100 (by decide)) rfl rfl (by decide) rfl hl.1 rfl (Nat.le_of_ble_eq_true rfl) dX9_mends_5 ⟨Nat.le_of_ble_eq_true rfl, Nat.le_of_ble_eq_true rfl⟩) hS (fun r1 u H locs hw hM hS => ?_)
  obtain ⟨rfl, xr1⟩ := hw
  have hM : Mem D A ad ns I L G H := hM
  have yr1 := bo01 xr1
  refine lv_if_eq (tgt := 31) hx hb dX9_mends_8 (by decide) (fun c2 => ?_) (fun c2 => ?_)
  · have hc2 := c2
    have q2 := xr1.f hc2
    refine lv_iconst (v := (-1)) hx hb dX9_mends_31 (by decide) ?_
    exact m_iret hx hb hr hlocks hM hS (Nat.le_of_ble_eq_true rfl) (Nat.le_of_ble_eq_true rfl) ⟨_, _, rfl, hI, hK⟩ dX9_mends_32
  · have hc2 := c2
    have q2 := xr1.t hc2
    have lh2 := q2.2.1
    refine lv_aload_n hx hb dX9_mends_11 rfl (lv_at hl 0 rfl) ?_
    refine m_getr (0) 0 (100) hx hb hts hown hE oc9 hM (hG.1 0 (by decide)) rfl (by decide) rfl (hG.2 (0, 0, 100) (by decide)) (by decide) tb_398 dX9_mends_12 ?_
    refine lv_iload_n hx hb dX9_mends_15 rfl (lv_at hl 2 rfl) ?_
    refine m_calli (m_runV (100) (As := [.int (a1)]) (rest := []) hx hb hml hown hts hE hM hS hA ce_X8_hasMirror tb_508 (V_X8_hasMirror_100 l D A ad ns I L G (a1) hG hI) rfl rfl ⟨Nat.le_of_ble_eq_true rfl, Nat.le_of_ble_eq_true rfl⟩ (hG.1 100 (by decide)) rfl rfl (by decide) rfl hl.1 rfl (Nat.le_of_ble_eq_true rfl) dX9_mends_16 ⟨Nat.le_of_ble_eq_true rfl, Nat.le_of_ble_eq_true rfl⟩) hS (fun r3 u H locs hw hM hS => ?_)
    obtain ⟨rfl, xr3⟩ := hw
    have hM : Mem D A ad ns I L G H := hM
    have yr3 := bo01 xr3
    have g4 := hI.get 100 8 (lo := 0) (hi := 24) rfl
    refine lv_if_eq (tgt := 31) hx hb dX9_mends_19 (by decide) (fun c5 => ?_) (fun c5 => ?_)
    · have hc5 := c5
      have q5 := xr3.f hc5
      refine lv_iconst (v := (-1)) hx hb dX9_mends_31 (by decide) ?_
      exact m_iret hx hb hr hlocks hM hS (Nat.le_of_ble_eq_true rfl) (Nat.le_of_ble_eq_true rfl) ⟨_, _, rfl, hI, hK⟩ dX9_mends_32
    · have hc5 := c5
      have q5 := xr3.t hc5
      refine lv_iload_n hx hb dX9_mends_22 rfl (lv_at hl 3 rfl) ?_
      refine lv_iconst (v := (0)) hx hb dX9_mends_23 (by decide) ?_
      refine lv_iconst (v := (4)) hx hb dX9_mends_24 (by decide) ?_
      refine m_calli (m_runS (As := [.int (a2), .int (0), .int (4)]) (rest := []) hx hb hml hown hts hE hM hS hA ce_X9_isWithin tb_451 (V_X9_isWithin l D A ad ns I L G (a2) (0) (4) hI) rfl rfl ⟨Nat.le_of_ble_eq_true rfl, Nat.le_of_ble_eq_true rfl⟩  rfl hl.1 rfl (Nat.le_of_ble_eq_true rfl) dX9_mends_25 ⟨Nat.le_of_ble_eq_true rfl, Nat.le_of_ble_eq_true rfl⟩) hS (fun r6 u H locs hw hM hS => ?_)
      obtain ⟨rfl, xr6⟩ := hw
      have hM : Mem D A ad ns I L G H := hM
      have yr6 := bo01 xr6
      refine lv_if_ne (tgt := 33) hx hb dX9_mends_28 (by decide) (fun c7 => ?_) (fun c7 => ?_)
      · have hc7 := c7
        have q7 := xr6.t hc7
        refine lv_aload_n hx hb dX9_mends_33 rfl (lv_at hl 0 rfl) ?_
        refine m_getr (0) 6 (40) hx hb hts hown hE oc9 hM (hG.1 0 (by decide)) rfl (by decide) rfl (hG.2 (0, 6, 40) (by decide)) (by decide) tb_404 dX9_mends_34 ?_
        refine lv_iload_n hx hb dX9_mends_37 rfl (lv_at hl 1 rfl) ?_
        refine lv_iload_n hx hb dX9_mends_38 rfl (lv_at hl 2 rfl) ?_
        refine m_callv (m_runV (40) (As := [.int (a0), .int (a1)]) (rest := []) hx hb hml hown hts hE hM hS hA ce_X5_begin tb_1012 (V_X5_begin l D A ad ns I L G (a0) (a1) hG hI (q2.2) (by first | omega | decide) (by first | omega | decide)) rfl rfl ⟨Nat.le_of_ble_eq_true rfl, Nat.le_of_ble_eq_true rfl⟩ (hG.1 40 (by decide)) rfl rfl (by decide) rfl hl.1 rfl (Nat.le_of_ble_eq_true rfl) dX9_mends_39 ⟨Nat.le_of_ble_eq_true rfl, Nat.le_of_ble_eq_true rfl⟩) hS (fun u H locs hw hM hS => ?_)
        obtain ⟨I8, L9, rfl, hI, hkI8, xI8⟩ := hw
        have hM : Mem D A ad ns I8 L9 G H := hM
        have hK := hK.trans hkI8 rfl
        refine lv_aload_n hx hb dX9_mends_42 rfl (lv_at hl 0 rfl) ?_
        refine m_getr (0) 6 (40) hx hb hts hown hE oc9 hM (hG.1 0 (by decide)) rfl (by decide) rfl (hG.2 (0, 6, 40) (by decide)) (by decide) tb_404 dX9_mends_43 ?_
        refine m_calli (m_runV (40) (As := []) (rest := []) hx hb hml hown hts hE hM hS hA ce_X5_needsNone tb_1020 (V_X5_needsNone l D A ad ns I8 L9 G hG hI (by rw [xI8]; exact (q2.2).kp hK rfl)) rfl rfl ⟨Nat.le_of_ble_eq_true rfl, Nat.le_of_ble_eq_true rfl⟩ (hG.1 40 (by decide)) rfl rfl (by decide) rfl hl.1 rfl (Nat.le_of_ble_eq_true rfl) dX9_mends_46 ⟨Nat.le_of_ble_eq_true rfl, Nat.le_of_ble_eq_true rfl⟩) hS (fun r10 u H locs hw hM hS => ?_)
        obtain ⟨I11, L12, rfl, hI, hkI11, xr10⟩ := hw
        have hM : Mem D A ad ns I11 L12 G H := hM
        have hK := hK.trans hkI11 rfl
        refine lv_if_ne (tgt := 69) hx hb dX9_mends_49 (by decide) (fun c13 => ?_) (fun c13 => ?_)
        · have hc13 := c13
          have q13 := q_ne hc13
          refine lv_aload_n hx hb dX9_mends_69 rfl (lv_at hl 0 rfl) ?_
          refine m_getr (0) 6 (40) hx hb hts hown hE oc9 hM (hG.1 0 (by decide)) rfl (by decide) rfl (hG.2 (0, 6, 40) (by decide)) (by decide) tb_404 dX9_mends_70 ?_
          refine m_callv (m_runV (40) (As := []) (rest := []) hx hb hml hown hts hE hM hS hA ce_X5_restore tb_1055 (V_X5_restore l D A ad ns I11 L12 G hG hI) rfl rfl ⟨Nat.le_of_ble_eq_true rfl, Nat.le_of_ble_eq_true rfl⟩ (hG.1 40 (by decide)) rfl rfl (by decide) rfl hl.1 rfl (Nat.le_of_ble_eq_true rfl) dX9_mends_73 ⟨Nat.le_of_ble_eq_true rfl, Nat.le_of_ble_eq_true rfl⟩) hS (fun u H locs hw hM hS => ?_)
          obtain ⟨I14, L15, rfl, hI, hkI14⟩ := hw
          have hM : Mem D A ad ns I14 L15 G H := hM
          have hK := hK.trans hkI14 rfl
          refine lv_aload_n hx hb dX9_mends_76 rfl (lv_at hl 0 rfl) ?_
          refine m_getr (0) 6 (40) hx hb hts hown hE oc9 hM (hG.1 0 (by decide)) rfl (by decide) rfl (hG.2 (0, 6, 40) (by decide)) (by decide) tb_404 dX9_mends_77 ?_
          refine m_getr (40) 0 (41) hx hb hts hown hE oc5 hM (hG.1 40 (by decide)) rfl (by decide) rfl (hG.2 (40, 0, 41) (by decide)) (by decide) tb_234 dX9_mends_80 ?_
          refine lv_iload_n hx hb dX9_mends_83 rfl (lv_at hl 3 rfl) ?_
          refine m_iald (41) hx hb hE hM (hG.1 41 (by decide)) rfl (vp_in_iff.mpr (by omega)) dX9_mends_84 ?_
          have z16 : I14 (41) (a2).toNatClampNeg = I11 (41) ((a2).toNatClampNeg) := (congrFun (hkI14.getA (41) rfl) ((a2).toNatClampNeg))
          rw [z16]
          exact m_iret hx hb hr hlocks hM hS (Nat.le_of_ble_eq_true rfl) (Nat.le_of_ble_eq_true rfl) ⟨_, _, rfl, hI, hK⟩ dX9_mends_85
        · have hc13 := c13
          have q13 := q_eq hc13
          refine lv_aload_n hx hb dX9_mends_52 rfl (lv_at hl 0 rfl) ?_
          refine m_getr (0) 6 (40) hx hb hts hown hE oc9 hM (hG.1 0 (by decide)) rfl (by decide) rfl (hG.2 (0, 6, 40) (by decide)) (by decide) tb_404 dX9_mends_53 ?_
          refine m_calli (m_runV (40) (As := []) (rest := []) hx hb hml hown hts hE hM hS hA ce_X5_findOne tb_1032 (V_X5_findOne l D A ad ns I11 L12 G hG hI (by rw [(hkI11.get (40) 5 rfl), xI8]; exact (q2.2).kp hK rfl)) rfl rfl ⟨Nat.le_of_ble_eq_true rfl, Nat.le_of_ble_eq_true rfl⟩ (hG.1 40 (by decide)) rfl rfl (by decide) rfl hl.1 rfl (Nat.le_of_ble_eq_true rfl) dX9_mends_56 ⟨Nat.le_of_ble_eq_true rfl, Nat.le_of_ble_eq_true rfl⟩) hS (fun r17 u H locs hw hM hS => ?_)
          obtain ⟨I18, L19, rfl, hI, hkI18, xr17⟩ := hw
          have hM : Mem D A ad ns I18 L19 G H := hM
          have hK := hK.trans hkI18 rfl
          refine lv_if_ne (tgt := 69) hx hb dX9_mends_59 (by decide) (fun c20 => ?_) (fun c20 => ?_)
          · have hc20 := c20
            have q20 := q_ne hc20
            refine lv_aload_n hx hb dX9_mends_69 rfl (lv_at hl 0 rfl) ?_
            refine m_getr (0) 6 (40) hx hb hts hown hE oc9 hM (hG.1 0 (by decide)) rfl (by decide) rfl (hG.2 (0, 6, 40) (by decide)) (by decide) tb_404 dX9_mends_70 ?_
            refine m_callv (m_runV (40) (As := []) (rest := []) hx hb hml hown hts hE hM hS hA ce_X5_restore tb_1055 (V_X5_restore l D A ad ns I18 L19 G hG hI) rfl rfl ⟨Nat.le_of_ble_eq_true rfl, Nat.le_of_ble_eq_true rfl⟩ (hG.1 40 (by decide)) rfl rfl (by decide) rfl hl.1 rfl (Nat.le_of_ble_eq_true rfl) dX9_mends_73 ⟨Nat.le_of_ble_eq_true rfl, Nat.le_of_ble_eq_true rfl⟩) hS (fun u H locs hw hM hS => ?_)
            obtain ⟨I21, L22, rfl, hI, hkI21⟩ := hw
            have hM : Mem D A ad ns I21 L22 G H := hM
            have hK := hK.trans hkI21 rfl
            refine lv_aload_n hx hb dX9_mends_76 rfl (lv_at hl 0 rfl) ?_
            refine m_getr (0) 6 (40) hx hb hts hown hE oc9 hM (hG.1 0 (by decide)) rfl (by decide) rfl (hG.2 (0, 6, 40) (by decide)) (by decide) tb_404 dX9_mends_77 ?_
            refine m_getr (40) 0 (41) hx hb hts hown hE oc5 hM (hG.1 40 (by decide)) rfl (by decide) rfl (hG.2 (40, 0, 41) (by decide)) (by decide) tb_234 dX9_mends_80 ?_
            refine lv_iload_n hx hb dX9_mends_83 rfl (lv_at hl 3 rfl) ?_
            refine m_iald (41) hx hb hE hM (hG.1 41 (by decide)) rfl (vp_in_iff.mpr (by omega)) dX9_mends_84 ?_
            have z23 : I21 (41) (a2).toNatClampNeg = I18 (41) ((a2).toNatClampNeg) := (congrFun (hkI21.getA (41) rfl) ((a2).toNatClampNeg))
            rw [z23]
            exact m_iret hx hb hr hlocks hM hS (Nat.le_of_ble_eq_true rfl) (Nat.le_of_ble_eq_true rfl) ⟨_, _, rfl, hI, hK⟩ dX9_mends_85
          · have hc20 := c20
            have q20 := q_eq hc20
            refine lv_aload_n hx hb dX9_mends_62 rfl (lv_at hl 0 rfl) ?_
            refine m_getr (0) 6 (40) hx hb hts hown hE oc9 hM (hG.1 0 (by decide)) rfl (by decide) rfl (hG.2 (0, 6, 40) (by decide)) (by decide) tb_404 dX9_mends_63 ?_
            refine m_callv (m_runV (40) (As := []) (rest := []) hx hb hml hown hts hE hM hS hA ce_X5_findTwo tb_1043 (V_X5_findTwo l D A ad ns I18 L19 G hG hI (by rw [((hkI18.get (40) 5 rfl)).trans (hkI11.get (40) 5 rfl), xI8]; exact (q2.2).kp hK rfl)) rfl rfl ⟨Nat.le_of_ble_eq_true rfl, Nat.le_of_ble_eq_true rfl⟩ (hG.1 40 (by decide)) rfl rfl (by decide) rfl hl.1 rfl (Nat.le_of_ble_eq_true rfl) dX9_mends_66 ⟨Nat.le_of_ble_eq_true rfl, Nat.le_of_ble_eq_true rfl⟩) hS (fun u H locs hw hM hS => ?_)
            obtain ⟨I24, L25, rfl, hI, hkI24⟩ := hw
            have hM : Mem D A ad ns I24 L25 G H := hM
            have hK := hK.trans hkI24 rfl
            refine lv_aload_n hx hb dX9_mends_69 rfl (lv_at hl 0 rfl) ?_
            refine m_getr (0) 6 (40) hx hb hts hown hE oc9 hM (hG.1 0 (by decide)) rfl (by decide) rfl (hG.2 (0, 6, 40) (by decide)) (by decide) tb_404 dX9_mends_70 ?_
            refine m_callv (m_runV (40) (As := []) (rest := []) hx hb hml hown hts hE hM hS hA ce_X5_restore tb_1055 (V_X5_restore l D A ad ns I24 L25 G hG hI) rfl rfl ⟨Nat.le_of_ble_eq_true rfl, Nat.le_of_ble_eq_true rfl⟩ (hG.1 40 (by decide)) rfl rfl (by decide) rfl hl.1 rfl (Nat.le_of_ble_eq_true rfl) dX9_mends_73 ⟨Nat.le_of_ble_eq_true rfl, Nat.le_of_ble_eq_true rfl⟩) hS (fun u H locs hw hM hS => ?_)
            obtain ⟨I26, L27, rfl, hI, hkI26⟩ := hw
            have hM : Mem D A ad ns I26 L27 G H := hM
            have hK := hK.trans hkI26 rfl
            refine lv_aload_n hx hb dX9_mends_76 rfl (lv_at hl 0 rfl) ?_
            refine m_getr (0) 6 (40) hx hb hts hown hE oc9 hM (hG.1 0 (by decide)) rfl (by decide) rfl (hG.2 (0, 6, 40) (by decide)) (by decide) tb_404 dX9_mends_77 ?_
            refine m_getr (40) 0 (41) hx hb hts hown hE oc5 hM (hG.1 40 (by decide)) rfl (by decide) rfl (hG.2 (40, 0, 41) (by decide)) (by decide) tb_234 dX9_mends_80 ?_
            refine lv_iload_n hx hb dX9_mends_83 rfl (lv_at hl 3 rfl) ?_
            refine m_iald (41) hx hb hE hM (hG.1 41 (by decide)) rfl (vp_in_iff.mpr (by omega)) dX9_mends_84 ?_
            have z28 : I26 (41) (a2).toNatClampNeg = I24 (41) ((a2).toNatClampNeg) := (congrFun (hkI26.getA (41) rfl) ((a2).toNatClampNeg))
            rw [z28]
            exact m_iret hx hb hr hlocks hM hS (Nat.le_of_ble_eq_true rfl) (Nat.le_of_ble_eq_true rfl) ⟨_, _, rfl, hI, hK⟩ dX9_mends_85
      · have hc7 := c7
        have q7 := xr6.f hc7
        refine lv_iconst (v := (-1)) hx hb dX9_mends_31 (by decide) ?_
        exact m_iret hx hb hr hlocks hM hS (Nat.le_of_ble_eq_true rfl) (Nat.le_of_ble_eq_true rfl) ⟨_, _, rfl, hI, hK⟩ dX9_mends_32
theorem dX9_putOnTape_0 : decode cX9_putOnTape 0 = .ok (.bipush 24, 2) := by decide +kernel
theorem dX9_putOnTape_2 : decode cX9_putOnTape 2 = .ok (.istore_n 2, 1) := by decide +kernel
theorem dX9_putOnTape_3 : decode cX9_putOnTape 3 = .ok (.iload_n 2, 1) := by decide +kernel
theorem dX9_putOnTape_4 : decode cX9_putOnTape 4 = .ok (.ifCond .lt 42, 3) := by decide +kernel
theorem dX9_putOnTape_7 : decode cX9_putOnTape 7 = .ok (.aload_n 0, 1) := by decide +kernel
theorem dX9_putOnTape_8 : decode cX9_putOnTape 8 = .ok (.getfield 172, 3) := by decide +kernel
theorem dX9_putOnTape_11 : decode cX9_putOnTape 11 = .ok (.sipush 400, 3) := by decide +kernel
theorem dX9_putOnTape_14 : decode cX9_putOnTape 14 = .ok (.if_icmp .ge 32, 3) := by decide +kernel
theorem dX9_putOnTape_17 : decode cX9_putOnTape 17 = .ok (.aload_n 0, 1) := by decide +kernel
theorem dX9_putOnTape_18 : decode cX9_putOnTape 18 = .ok (.getfield 82, 3) := by decide +kernel
theorem dX9_putOnTape_21 : decode cX9_putOnTape 21 = .ok (.aload_n 0, 1) := by decide +kernel
theorem dX9_putOnTape_22 : decode cX9_putOnTape 22 = .ok (.getfield 172, 3) := by decide +kernel
theorem dX9_putOnTape_25 : decode cX9_putOnTape 25 = .ok (.iload_n 1, 1) := by decide +kernel
theorem dX9_putOnTape_26 : decode cX9_putOnTape 26 = .ok (.iload_n 2, 1) := by decide +kernel
theorem dX9_putOnTape_27 : decode cX9_putOnTape 27 = .ok (.iushr, 1) := by decide +kernel
theorem dX9_putOnTape_28 : decode cX9_putOnTape 28 = .ok (.i2b, 1) := by decide +kernel
theorem dX9_putOnTape_29 : decode cX9_putOnTape 29 = .ok (.bastore, 1) := by decide +kernel
theorem dX9_putOnTape_30 : decode cX9_putOnTape 30 = .ok (.aload_n 0, 1) := by decide +kernel
theorem dX9_putOnTape_31 : decode cX9_putOnTape 31 = .ok (.dup, 1) := by decide +kernel
theorem dX9_putOnTape_32 : decode cX9_putOnTape 32 = .ok (.getfield 172, 3) := by decide +kernel
theorem dX9_putOnTape_35 : decode cX9_putOnTape 35 = .ok (.iconst 1, 1) := by decide +kernel
theorem dX9_putOnTape_36 : decode cX9_putOnTape 36 = .ok (.iadd, 1) := by decide +kernel
theorem dX9_putOnTape_37 : decode cX9_putOnTape 37 = .ok (.putfield 172, 3) := by decide +kernel
theorem dX9_putOnTape_40 : decode cX9_putOnTape 40 = .ok (.iinc 2 (-8), 3) := by decide +kernel
theorem dX9_putOnTape_43 : decode cX9_putOnTape 43 = .ok (.goto (-40), 3) := by decide +kernel
theorem dX9_putOnTape_46 : decode cX9_putOnTape 46 = .ok (.return_, 1) := by decide +kernel
theorem ce_X9_putOnTape : CeV RX9 yX9_putOnTape cX9_putOnTape 3 none 1 := ⟨tb_552, tp_1, tb_1, tb_553, rfl, by decide, by decide, by decide +kernel⟩
set_option maxHeartbeats 4000000 in
set_option maxRecDepth 20000 in
theorem V_X9_putOnTape (l : Launch) (D : va_G) (A : Nat → Prop) (ad : Nat → Nat) (ns : List Nat) (I : MI) (L : ML) (G : MG) (a0 : Int32) (hG : SGC ns G) (hI : INV I) (ht : (I 0 15).toInt ≤ 396) : Met l yX9_putOnTape (wd yX9_putOnTape cX9_putOnTape 3 none) ({ frames := 0, cells := 0, slots := 0, locals := 0 }) (va_Pc [.ref (ad (0)), .int a0] (PM D A ad ns I L G)) (va_Qv (fun u => ∃ I2 L2, u = (ad, ns, I2, L2, G) ∧ INV I2 ∧ Kp [(3, 4)] [(0, 15)] I I2 ∧ ((I2 0 15).toInt ≤ (I 0 15).toInt + 4)) (BM D A) A) 0 0 A := by
  refine m_ofW (by decide) (Nat.le_of_ble_eq_true rfl) ?_
  intro p e s m below meth c ls args hC hE hM hA hS hl
  obtain ⟨hx, hb, hml, hown, hts, hr, hlocks, hin⟩ := hC
  have k0 : (0 : Int32).toInt = 0 := by decide
  have k1 : (1 : Int32).toInt = 1 := by decide
  have k24 : (24 : Int32).toInt = 24 := by decide
  have k400 : (400 : Int32).toInt = 400 := by decide
  have hK : Kp [(3, 4)] [(0, 15)] I I := Kp.rf
  have hl : lv_has ls 3 [(0, .ref (ad (0))), (1, .int (a0))] := hl
  refine lv_bipush (v := (24)) hx hb dX9_putOnTape_0 (by decide) ?_
  refine lv_istore_n (lv' := [(2, .int (24)), (0, .ref (ad (0))), (1, .int (a0))]) hx hb dX9_putOnTape_2 rfl hl (by decide) rfl (fun ls hl => ?_)
  refine lv_iload_n hx hb dX9_putOnTape_3 rfl (lv_at hl 0 rfl) ?_
  refine lv_if_lt (tgt := 46) hx hb dX9_putOnTape_4 (by decide) (fun c1 => ?_) (fun c1 => ?_)
  · exact absurd c1 (by decide)
  · have hc1 := c1
    have q1 := q_nlt hc1
    refine lv_aload_n hx hb dX9_putOnTape_7 rfl (lv_at hl 1 rfl) ?_
    refine m_geti (0) 15 hx hb hts hown hE oc9 hM (hG.1 0 (by decide)) rfl (by decide) rfl tb_413 dX9_putOnTape_8 ?_
    have g2 := hI.get (0) 15 (lo := 0) (hi := 400) rfl
    refine lv_sipush (v := (400)) hx hb dX9_putOnTape_11 (by decide) ?_
    refine lv_icmp_ge (tgt := 46) hx hb dX9_putOnTape_14 (by decide) (fun c3 => ?_) (fun c3 => ?_)
    · exact absurd (q_le c3) (by omega)
    · have hc3 := c3
      have q3 := q_nle hc3
      refine lv_aload_n hx hb dX9_putOnTape_17 rfl (lv_at hl 1 rfl) ?_
      refine m_getr (0) 11 (3) hx hb hts hown hE oc9 hM (hG.1 0 (by decide)) rfl (by decide) rfl (hG.2 (0, 11, 3) (by decide)) (by decide) tb_409 dX9_putOnTape_18 ?_
      refine lv_aload_n hx hb dX9_putOnTape_21 rfl (lv_at hl 1 rfl) ?_
      refine m_geti (0) 15 hx hb hts hown hE oc9 hM (hG.1 0 (by decide)) rfl (by decide) rfl tb_413 dX9_putOnTape_22 ?_
      refine lv_iload_n hx hb dX9_putOnTape_25 rfl (lv_at hl 2 rfl) ?_
      refine lv_iload_n hx hb dX9_putOnTape_26 rfl (lv_at hl 0 rfl) ?_
      refine lv_iushr hx hb dX9_putOnTape_27 rfl ?_
      refine lv_topi (fun v4 ev4 => ?_)
      refine lv_i2b hx hb dX9_putOnTape_28 rfl ?_
      refine lv_topi (fun v5 ev5 => ?_)
      refine m_bast (3) hx hb hE hM hS (hG.1 3 (by decide)) rfl (vp_in_iff.mpr (by omega)) dX9_putOnTape_29 (fun H locs I6 eI6 hM hS => ?_)
      subst eI6
      have hI := hI.put (n := 3) (k := ((I (0) 15).toNatClampNeg)) (v := vp_nar .byte (v5)) (lo := -128) (hi := 127) rfl (nar_byte _)
      have hK := hK.put (n := 3) (k := ((I (0) 15).toNatClampNeg)) (v := vp_nar .byte (v5)) (by first | rfl | simp [inR])
      refine lv_aload_n hx hb dX9_putOnTape_30 rfl (lv_at hl 1 rfl) ?_
      refine lv_dup hx hb dX9_putOnTape_31 rfl ?_
      refine m_geti (0) 15 hx hb hts hown hE oc9 hM (hG.1 0 (by decide)) rfl (by decide) rfl tb_413 dX9_putOnTape_32 ?_
      have z7 : (u2 I (3) ((I (0) 15).toNatClampNeg) (vp_nar .byte (v5))) (0) 15 = I (0) 15 := (show (u2 I (3) ((I (0) 15).toNatClampNeg) (vp_nar .byte (v5))) (0) 15 = I (0) 15 from by simp [u2_v])
      rw [z7]
      refine lv_iconst (v := (1)) hx hb dX9_putOnTape_35 (by decide) ?_
      refine lv_iadd hx hb dX9_putOnTape_36 ?_
      refine lv_topi (fun v8 ev8 => ?_)
      have tv8 := a_add ev8 (by omega) (by omega)
      refine m_puti (0) 15 hx hb hts hown hE oc9 hM hS (hG.1 0 (by decide)) rfl (by decide) rfl rfl rfl rfl tb_413 dX9_putOnTape_37 (fun H locs I9 eI9 hM hS => ?_)
      subst eI9
      have hI := hI.put (n := 0) (k := 15) (v := v8) (lo := 0) (hi := 400) rfl (by first | omega | decide)
      have hK := hK.put (n := 0) (k := 15) (v := v8) (by first | rfl | simp [inR])
      refine lv_iinc (v := 16) (lv' := [(2, .int (16)), (0, .ref (ad (0))), (1, .int (a0))]) hx hb dX9_putOnTape_40 hl (k := 0) rfl (by decide) (by decide) rfl (fun ls hl => ?_)
      refine lv_goto (tgt := 3) hx hb dX9_putOnTape_43 (by decide) ?_
      refine lv_iload_n hx hb dX9_putOnTape_3 rfl (lv_at hl 0 rfl) ?_
      refine lv_if_lt (tgt := 46) hx hb dX9_putOnTape_4 (by decide) (fun c11 => ?_) (fun c11 => ?_)
      · exact absurd c11 (by decide)
      · have hc11 := c11
        have q11 := q_nlt hc11
        refine lv_aload_n hx hb dX9_putOnTape_7 rfl (lv_at hl 1 rfl) ?_
        refine m_geti (0) 15 hx hb hts hown hE oc9 hM (hG.1 0 (by decide)) rfl (by decide) rfl tb_413 dX9_putOnTape_8 ?_
        have g12 := hI.get (0) 15 (lo := 0) (hi := 400) rfl
        have z13 : (u2 (u2 I (3) ((I (0) 15).toNatClampNeg) (vp_nar .byte (v5))) (0) 15 (v8)) (0) 15 = v8 := (show (u2 (u2 I (3) ((I (0) 15).toNatClampNeg) (vp_nar .byte (v5))) (0) 15 (v8)) (0) 15 = v8 from by simp [u2_v])
        rw [z13] at g12 ⊢
        refine lv_sipush (v := (400)) hx hb dX9_putOnTape_11 (by decide) ?_
        refine lv_icmp_ge (tgt := 46) hx hb dX9_putOnTape_14 (by decide) (fun c14 => ?_) (fun c14 => ?_)
        · exact absurd (q_le c14) (by omega)
        · have hc14 := c14
          have q14 := q_nle hc14
          refine lv_aload_n hx hb dX9_putOnTape_17 rfl (lv_at hl 1 rfl) ?_
          refine m_getr (0) 11 (3) hx hb hts hown hE oc9 hM (hG.1 0 (by decide)) rfl (by decide) rfl (hG.2 (0, 11, 3) (by decide)) (by decide) tb_409 dX9_putOnTape_18 ?_
          refine lv_aload_n hx hb dX9_putOnTape_21 rfl (lv_at hl 1 rfl) ?_
          refine m_geti (0) 15 hx hb hts hown hE oc9 hM (hG.1 0 (by decide)) rfl (by decide) rfl tb_413 dX9_putOnTape_22 ?_
          have z15 : (u2 (u2 I (3) ((I (0) 15).toNatClampNeg) (vp_nar .byte (v5))) (0) 15 (v8)) (0) 15 = v8 := (show (u2 (u2 I (3) ((I (0) 15).toNatClampNeg) (vp_nar .byte (v5))) (0) 15 (v8)) (0) 15 = v8 from by simp [u2_v])
          rw [z15]
          refine lv_iload_n hx hb dX9_putOnTape_25 rfl (lv_at hl 2 rfl) ?_
          refine lv_iload_n hx hb dX9_putOnTape_26 rfl (lv_at hl 0 rfl) ?_
          refine lv_iushr hx hb dX9_putOnTape_27 rfl ?_
          refine lv_topi (fun v16 ev16 => ?_)
          refine lv_i2b hx hb dX9_putOnTape_28 rfl ?_
          refine lv_topi (fun v17 ev17 => ?_)
          refine m_bast (3) hx hb hE hM hS (hG.1 3 (by decide)) rfl (vp_in_iff.mpr (by omega)) dX9_putOnTape_29 (fun H locs I18 eI18 hM hS => ?_)
          subst eI18
          have hI := hI.put (n := 3) (k := ((v8).toNatClampNeg)) (v := vp_nar .byte (v17)) (lo := -128) (hi := 127) rfl (nar_byte _)
          have hK := hK.put (n := 3) (k := ((v8).toNatClampNeg)) (v := vp_nar .byte (v17)) (by first | rfl | simp [inR])
          refine lv_aload_n hx hb dX9_putOnTape_30 rfl (lv_at hl 1 rfl) ?_
          refine lv_dup hx hb dX9_putOnTape_31 rfl ?_
          refine m_geti (0) 15 hx hb hts hown hE oc9 hM (hG.1 0 (by decide)) rfl (by decide) rfl tb_413 dX9_putOnTape_32 ?_
          have z19 : (u2 (u2 (u2 I (3) ((I (0) 15).toNatClampNeg) (vp_nar .byte (v5))) (0) 15 (v8)) (3) ((v8).toNatClampNeg) (vp_nar .byte (v17))) (0) 15 = v8 := (show (u2 (u2 (u2 I (3) ((I (0) 15).toNatClampNeg) (vp_nar .byte (v5))) (0) 15 (v8)) (3) ((v8).toNatClampNeg) (vp_nar .byte (v17))) (0) 15 = v8 from by simp [u2_v])
          rw [z19]
          refine lv_iconst (v := (1)) hx hb dX9_putOnTape_35 (by decide) ?_
          refine lv_iadd hx hb dX9_putOnTape_36 ?_
          refine lv_topi (fun v20 ev20 => ?_)
          have tv20 := a_add ev20 (by omega) (by omega)
          refine m_puti (0) 15 hx hb hts hown hE oc9 hM hS (hG.1 0 (by decide)) rfl (by decide) rfl rfl rfl rfl tb_413 dX9_putOnTape_37 (fun H locs I21 eI21 hM hS => ?_)
          subst eI21
          have hI := hI.put (n := 0) (k := 15) (v := v20) (lo := 0) (hi := 400) rfl (by first | omega | decide)
          have hK := hK.put (n := 0) (k := 15) (v := v20) (by first | rfl | simp [inR])
          refine lv_iinc (v := 8) (lv' := [(2, .int (8)), (0, .ref (ad (0))), (1, .int (a0))]) hx hb dX9_putOnTape_40 hl (k := 0) rfl (by decide) (by decide) rfl (fun ls hl => ?_)
          refine lv_goto (tgt := 3) hx hb dX9_putOnTape_43 (by decide) ?_
          refine lv_iload_n hx hb dX9_putOnTape_3 rfl (lv_at hl 0 rfl) ?_
          refine lv_if_lt (tgt := 46) hx hb dX9_putOnTape_4 (by decide) (fun c23 => ?_) (fun c23 => ?_)
          · exact absurd c23 (by decide)
          · have hc23 := c23
            have q23 := q_nlt hc23
            refine lv_aload_n hx hb dX9_putOnTape_7 rfl (lv_at hl 1 rfl) ?_
            refine m_geti (0) 15 hx hb hts hown hE oc9 hM (hG.1 0 (by decide)) rfl (by decide) rfl tb_413 dX9_putOnTape_8 ?_
            have g24 := hI.get (0) 15 (lo := 0) (hi := 400) rfl
            have z25 : (u2 (u2 (u2 (u2 I (3) ((I (0) 15).toNatClampNeg) (vp_nar .byte (v5))) (0) 15 (v8)) (3) ((v8).toNatClampNeg) (vp_nar .byte (v17))) (0) 15 (v20)) (0) 15 = v20 := (show (u2 (u2 (u2 (u2 I (3) ((I (0) 15).toNatClampNeg) (vp_nar .byte (v5))) (0) 15 (v8)) (3) ((v8).toNatClampNeg) (vp_nar .byte (v17))) (0) 15 (v20)) (0) 15 = v20 from by simp [u2_v])
            rw [z25] at g24 ⊢
            refine lv_sipush (v := (400)) hx hb dX9_putOnTape_11 (by decide) ?_
            refine lv_icmp_ge (tgt := 46) hx hb dX9_putOnTape_14 (by decide) (fun c26 => ?_) (fun c26 => ?_)
            · exact absurd (q_le c26) (by omega)
            · have hc26 := c26
              have q26 := q_nle hc26
              refine lv_aload_n hx hb dX9_putOnTape_17 rfl (lv_at hl 1 rfl) ?_
              refine m_getr (0) 11 (3) hx hb hts hown hE oc9 hM (hG.1 0 (by decide)) rfl (by decide) rfl (hG.2 (0, 11, 3) (by decide)) (by decide) tb_409 dX9_putOnTape_18 ?_
              refine lv_aload_n hx hb dX9_putOnTape_21 rfl (lv_at hl 1 rfl) ?_
              refine m_geti (0) 15 hx hb hts hown hE oc9 hM (hG.1 0 (by decide)) rfl (by decide) rfl tb_413 dX9_putOnTape_22 ?_
              have z27 : (u2 (u2 (u2 (u2 I (3) ((I (0) 15).toNatClampNeg) (vp_nar .byte (v5))) (0) 15 (v8)) (3) ((v8).toNatClampNeg) (vp_nar .byte (v17))) (0) 15 (v20)) (0) 15 = v20 := (show (u2 (u2 (u2 (u2 I (3) ((I (0) 15).toNatClampNeg) (vp_nar .byte (v5))) (0) 15 (v8)) (3) ((v8).toNatClampNeg) (vp_nar .byte (v17))) (0) 15 (v20)) (0) 15 = v20 from by simp [u2_v])
              rw [z27]
              refine lv_iload_n hx hb dX9_putOnTape_25 rfl (lv_at hl 2 rfl) ?_
              refine lv_iload_n hx hb dX9_putOnTape_26 rfl (lv_at hl 0 rfl) ?_
              refine lv_iushr hx hb dX9_putOnTape_27 rfl ?_
              refine lv_topi (fun v28 ev28 => ?_)
              refine lv_i2b hx hb dX9_putOnTape_28 rfl ?_
              refine lv_topi (fun v29 ev29 => ?_)
              refine m_bast (3) hx hb hE hM hS (hG.1 3 (by decide)) rfl (vp_in_iff.mpr (by omega)) dX9_putOnTape_29 (fun H locs I30 eI30 hM hS => ?_)
              subst eI30
              have hI := hI.put (n := 3) (k := ((v20).toNatClampNeg)) (v := vp_nar .byte (v29)) (lo := -128) (hi := 127) rfl (nar_byte _)
              have hK := hK.put (n := 3) (k := ((v20).toNatClampNeg)) (v := vp_nar .byte (v29)) (by first | rfl | simp [inR])
              refine lv_aload_n hx hb dX9_putOnTape_30 rfl (lv_at hl 1 rfl) ?_
              refine lv_dup hx hb dX9_putOnTape_31 rfl ?_
              refine m_geti (0) 15 hx hb hts hown hE oc9 hM (hG.1 0 (by decide)) rfl (by decide) rfl tb_413 dX9_putOnTape_32 ?_
              have z31 : (u2 (u2 (u2 (u2 (u2 I (3) ((I (0) 15).toNatClampNeg) (vp_nar .byte (v5))) (0) 15 (v8)) (3) ((v8).toNatClampNeg) (vp_nar .byte (v17))) (0) 15 (v20)) (3) ((v20).toNatClampNeg) (vp_nar .byte (v29))) (0) 15 = v20 := (show (u2 (u2 (u2 (u2 (u2 I (3) ((I (0) 15).toNatClampNeg) (vp_nar .byte (v5))) (0) 15 (v8)) (3) ((v8).toNatClampNeg) (vp_nar .byte (v17))) (0) 15 (v20)) (3) ((v20).toNatClampNeg) (vp_nar .byte (v29))) (0) 15 = v20 from by simp [u2_v])
              rw [z31]
              refine lv_iconst (v := (1)) hx hb dX9_putOnTape_35 (by decide) ?_
              refine lv_iadd hx hb dX9_putOnTape_36 ?_
              refine lv_topi (fun v32 ev32 => ?_)
              have tv32 := a_add ev32 (by omega) (by omega)
              refine m_puti (0) 15 hx hb hts hown hE oc9 hM hS (hG.1 0 (by decide)) rfl (by decide) rfl rfl rfl rfl tb_413 dX9_putOnTape_37 (fun H locs I33 eI33 hM hS => ?_)
              subst eI33
              have hI := hI.put (n := 0) (k := 15) (v := v32) (lo := 0) (hi := 400) rfl (by first | omega | decide)
              have hK := hK.put (n := 0) (k := 15) (v := v32) (by first | rfl | simp [inR])
              refine lv_iinc (v := 0) (lv' := [(2, .int (0)), (0, .ref (ad (0))), (1, .int (a0))]) hx hb dX9_putOnTape_40 hl (k := 0) rfl (by decide) (by decide) rfl (fun ls hl => ?_)
              refine lv_goto (tgt := 3) hx hb dX9_putOnTape_43 (by decide) ?_
              refine lv_iload_n hx hb dX9_putOnTape_3 rfl (lv_at hl 0 rfl) ?_
              refine lv_if_lt (tgt := 46) hx hb dX9_putOnTape_4 (by decide) (fun c35 => ?_) (fun c35 => ?_)
              · exact absurd c35 (by decide)
              · have hc35 := c35
                have q35 := q_nlt hc35
                refine lv_aload_n hx hb dX9_putOnTape_7 rfl (lv_at hl 1 rfl) ?_
                refine m_geti (0) 15 hx hb hts hown hE oc9 hM (hG.1 0 (by decide)) rfl (by decide) rfl tb_413 dX9_putOnTape_8 ?_
                have g36 := hI.get (0) 15 (lo := 0) (hi := 400) rfl
                have z37 : (u2 (u2 (u2 (u2 (u2 (u2 I (3) ((I (0) 15).toNatClampNeg) (vp_nar .byte (v5))) (0) 15 (v8)) (3) ((v8).toNatClampNeg) (vp_nar .byte (v17))) (0) 15 (v20)) (3) ((v20).toNatClampNeg) (vp_nar .byte (v29))) (0) 15 (v32)) (0) 15 = v32 := (show (u2 (u2 (u2 (u2 (u2 (u2 I (3) ((I (0) 15).toNatClampNeg) (vp_nar .byte (v5))) (0) 15 (v8)) (3) ((v8).toNatClampNeg) (vp_nar .byte (v17))) (0) 15 (v20)) (3) ((v20).toNatClampNeg) (vp_nar .byte (v29))) (0) 15 (v32)) (0) 15 = v32 from by simp [u2_v])
                rw [z37] at g36 ⊢
                refine lv_sipush (v := (400)) hx hb dX9_putOnTape_11 (by decide) ?_
                refine lv_icmp_ge (tgt := 46) hx hb dX9_putOnTape_14 (by decide) (fun c38 => ?_) (fun c38 => ?_)
                · exact absurd (q_le c38) (by omega)
                · have hc38 := c38
                  have q38 := q_nle hc38
                  refine lv_aload_n hx hb dX9_putOnTape_17 rfl (lv_at hl 1 rfl) ?_
                  refine m_getr (0) 11 (3) hx hb hts hown hE oc9 hM (hG.1 0 (by decide)) rfl (by decide) rfl (hG.2 (0, 11, 3) (by decide)) (by decide) tb_409 dX9_putOnTape_18 ?_
                  refine lv_aload_n hx hb dX9_putOnTape_21 rfl (lv_at hl 1 rfl) ?_
                  refine m_geti (0) 15 hx hb hts hown hE oc9 hM (hG.1 0 (by decide)) rfl (by decide) rfl tb_413 dX9_putOnTape_22 ?_
                  have z39 : (u2 (u2 (u2 (u2 (u2 (u2 I (3) ((I (0) 15).toNatClampNeg) (vp_nar .byte (v5))) (0) 15 (v8)) (3) ((v8).toNatClampNeg) (vp_nar .byte (v17))) (0) 15 (v20)) (3) ((v20).toNatClampNeg) (vp_nar .byte (v29))) (0) 15 (v32)) (0) 15 = v32 := (show (u2 (u2 (u2 (u2 (u2 (u2 I (3) ((I (0) 15).toNatClampNeg) (vp_nar .byte (v5))) (0) 15 (v8)) (3) ((v8).toNatClampNeg) (vp_nar .byte (v17))) (0) 15 (v20)) (3) ((v20).toNatClampNeg) (vp_nar .byte (v29))) (0) 15 (v32)) (0) 15 = v32 from by simp [u2_v])
                  rw [z39]
                  refine lv_iload_n hx hb dX9_putOnTape_25 rfl (lv_at hl 2 rfl) ?_
                  refine lv_iload_n hx hb dX9_putOnTape_26 rfl (lv_at hl 0 rfl) ?_
                  refine lv_iushr hx hb dX9_putOnTape_27 rfl ?_
                  refine lv_topi (fun v40 ev40 => ?_)
                  refine lv_i2b hx hb dX9_putOnTape_28 rfl ?_
                  refine lv_topi (fun v41 ev41 => ?_)
                  refine m_bast (3) hx hb hE hM hS (hG.1 3 (by decide)) rfl (vp_in_iff.mpr (by omega)) dX9_putOnTape_29 (fun H locs I42 eI42 hM hS => ?_)
                  subst eI42
                  have hI := hI.put (n := 3) (k := ((v32).toNatClampNeg)) (v := vp_nar .byte (v41)) (lo := -128) (hi := 127) rfl (nar_byte _)
                  have hK := hK.put (n := 3) (k := ((v32).toNatClampNeg)) (v := vp_nar .byte (v41)) (by first | rfl | simp [inR])
                  refine lv_aload_n hx hb dX9_putOnTape_30 rfl (lv_at hl 1 rfl) ?_
                  refine lv_dup hx hb dX9_putOnTape_31 rfl ?_
                  refine m_geti (0) 15 hx hb hts hown hE oc9 hM (hG.1 0 (by decide)) rfl (by decide) rfl tb_413 dX9_putOnTape_32 ?_
                  have z43 : (u2 (u2 (u2 (u2 (u2 (u2 (u2 I (3) ((I (0) 15).toNatClampNeg) (vp_nar .byte (v5))) (0) 15 (v8)) (3) ((v8).toNatClampNeg) (vp_nar .byte (v17))) (0) 15 (v20)) (3) ((v20).toNatClampNeg) (vp_nar .byte (v29))) (0) 15 (v32)) (3) ((v32).toNatClampNeg) (vp_nar .byte (v41))) (0) 15 = v32 := (show (u2 (u2 (u2 (u2 (u2 (u2 (u2 I (3) ((I (0) 15).toNatClampNeg) (vp_nar .byte (v5))) (0) 15 (v8)) (3) ((v8).toNatClampNeg) (vp_nar .byte (v17))) (0) 15 (v20)) (3) ((v20).toNatClampNeg) (vp_nar .byte (v29))) (0) 15 (v32)) (3) ((v32).toNatClampNeg) (vp_nar .byte (v41))) (0) 15 = v32 from by simp [u2_v])
                  rw [z43]
                  refine lv_iconst (v := (1)) hx hb dX9_putOnTape_35 (by decide) ?_
                  refine lv_iadd hx hb dX9_putOnTape_36 ?_
                  refine lv_topi (fun v44 ev44 => ?_)
                  have tv44 := a_add ev44 (by omega) (by omega)
                  refine m_puti (0) 15 hx hb hts hown hE oc9 hM hS (hG.1 0 (by decide)) rfl (by decide) rfl rfl rfl rfl tb_413 dX9_putOnTape_37 (fun H locs I45 eI45 hM hS => ?_)
                  subst eI45
                  have hI := hI.put (n := 0) (k := 15) (v := v44) (lo := 0) (hi := 400) rfl (by first | omega | decide)
                  have hK := hK.put (n := 0) (k := 15) (v := v44) (by first | rfl | simp [inR])
                  refine lv_iinc (v := (-8 : Int32)) (lv' := [(2, .int ((-8 : Int32))), (0, .ref (ad (0))), (1, .int (a0))]) hx hb dX9_putOnTape_40 hl (k := 0) rfl (by decide) (by decide) rfl (fun ls hl => ?_)
                  refine lv_goto (tgt := 3) hx hb dX9_putOnTape_43 (by decide) ?_
                  refine lv_iload_n hx hb dX9_putOnTape_3 rfl (lv_at hl 0 rfl) ?_
                  refine lv_if_lt (tgt := 46) hx hb dX9_putOnTape_4 (by decide) (fun c47 => ?_) (fun c47 => ?_)
                  · have hc47 := c47
                    have q47 := q_lt hc47
                    exact m_vret hx hb hr hlocks hM hS (Nat.le_of_ble_eq_true rfl) (Nat.le_of_ble_eq_true rfl) ⟨_, _, rfl, hI, hK, (by rw [u2_self]; omega)⟩ dX9_putOnTape_46
                  · exact absurd c47 (by decide)
theorem dX9_feed_0 : decode cX9_feed 0 = .ok (.aload_n 0, 1) := by decide +kernel
theorem dX9_feed_1 : decode cX9_feed 1 = .ok (.getfield 172, 3) := by decide +kernel
theorem dX9_feed_4 : decode cX9_feed 4 = .ok (.sipush 380, 3) := by decide +kernel
theorem dX9_feed_7 : decode cX9_feed 7 = .ok (.if_icmp .le 5, 3) := by decide +kernel
theorem dX9_feed_10 : decode cX9_feed 10 = .ok (.iconst (-1), 1) := by decide +kernel
theorem dX9_feed_11 : decode cX9_feed 11 = .ok (.ireturn, 1) := by decide +kernel
theorem dX9_feed_12 : decode cX9_feed 12 = .ok (.aload_n 0, 1) := by decide +kernel
theorem dX9_feed_13 : decode cX9_feed 13 = .ok (.iload_n 1, 1) := by decide +kernel
theorem dX9_feed_14 : decode cX9_feed 14 = .ok (.invokevirtual 175, 3) := by decide +kernel
theorem dX9_feed_17 : decode cX9_feed 17 = .ok (.aload_n 0, 1) := by decide +kernel
theorem dX9_feed_18 : decode cX9_feed 18 = .ok (.iload_n 2, 1) := by decide +kernel
theorem dX9_feed_19 : decode cX9_feed 19 = .ok (.invokevirtual 175, 3) := by decide +kernel
theorem dX9_feed_22 : decode cX9_feed 22 = .ok (.aload_n 0, 1) := by decide +kernel
theorem dX9_feed_23 : decode cX9_feed 23 = .ok (.iload_n 3, 1) := by decide +kernel
theorem dX9_feed_24 : decode cX9_feed 24 = .ok (.invokevirtual 175, 3) := by decide +kernel
theorem dX9_feed_27 : decode cX9_feed 27 = .ok (.aload_n 0, 1) := by decide +kernel
theorem dX9_feed_28 : decode cX9_feed 28 = .ok (.iload 4, 2) := by decide +kernel
theorem dX9_feed_30 : decode cX9_feed 30 = .ok (.invokevirtual 175, 3) := by decide +kernel
theorem dX9_feed_33 : decode cX9_feed 33 = .ok (.aload_n 0, 1) := by decide +kernel
theorem dX9_feed_34 : decode cX9_feed 34 = .ok (.iload 5, 2) := by decide +kernel
theorem dX9_feed_36 : decode cX9_feed 36 = .ok (.invokevirtual 175, 3) := by decide +kernel
theorem dX9_feed_39 : decode cX9_feed 39 = .ok (.aload_n 0, 1) := by decide +kernel
theorem dX9_feed_40 : decode cX9_feed 40 = .ok (.getfield 172, 3) := by decide +kernel
theorem dX9_feed_43 : decode cX9_feed 43 = .ok (.ireturn, 1) := by decide +kernel
theorem ce_X9_feed : CeV RX9 yX9_feed cX9_feed 6 (some .int) 5 := ⟨tb_547, tb_548, tb_1, tb_549, rfl, by decide, by decide, by decide +kernel⟩
set_option maxHeartbeats 4000000 in
set_option maxRecDepth 20000 in
theorem V_X9_feed (l : Launch) (D : va_G) (A : Nat → Prop) (ad : Nat → Nat) (ns : List Nat) (I : MI) (L : ML) (G : MG) (a0 : Int32) (a1 : Int32) (a2 : Int32) (a3 : Int32) (a4 : Int32) (hG : SGC ns G) (hI : INV I) : Met l yX9_feed (wd yX9_feed cX9_feed 6 (some .int)) ({ frames := 1, cells := 0, slots := 0, locals := 22 }) (va_Pc [.ref (ad (0)), .int a0, .int a1, .int a2, .int a3, .int a4] (PM D A ad ns I L G)) (va_Qi (fun r u => ∃ I2 L2, u = (ad, ns, I2, L2, G) ∧ INV I2 ∧ Kp [(3, 4)] [(0, 15)] I I2) (BM D A) A) 0 0 A := by
  refine m_ofW (by decide) (Nat.le_of_ble_eq_true rfl) ?_
  intro p e s m below meth c ls args hC hE hM hA hS hl
  obtain ⟨hx, hb, hml, hown, hts, hr, hlocks, hin⟩ := hC
  have km1 : (-1 : Int32).toInt = -1 := by decide
  have k0 : (0 : Int32).toInt = 0 := by decide
  have k380 : (380 : Int32).toInt = 380 := by decide
  have hK : Kp [(3, 4)] [(0, 15)] I I := Kp.rf
  have hl : lv_has ls 6 [(0, .ref (ad (0))), (1, .int (a0)), (2, .int (a1)), (3, .int (a2)), (4, .int (a3)), (5, .int (a4))] := hl
  refine lv_aload_n hx hb dX9_feed_0 rfl (lv_at hl 0 rfl) ?_
  refine m_geti (0) 15 hx hb hts hown hE oc9 hM (hG.1 0 (by decide)) rfl (by decide) rfl tb_413 dX9_feed_1 ?_
  have g1 := hI.get (0) 15 (lo := 0) (hi := 400) rfl
  refine lv_sipush (v := (380)) hx hb dX9_feed_4 (by decide) ?_
  refine lv_icmp_le (tgt := 12) hx hb dX9_feed_7 (by decide) (fun c2 => ?_) (fun c2 => ?_)
  · have hc2 := c2
    have q2 := q_le hc2
    refine lv_aload_n hx hb dX9_feed_12 rfl (lv_at hl 0 rfl) ?_
    refine lv_iload_n hx hb dX9_feed_13 rfl (lv_at hl 1 rfl) ?_
    refine m_callv (m_runV (0) (As := [.int (a0)]) (rest := []) hx hb hml hown hts hE hM hS hA ce_X9_putOnTape tb_550 (V_X9_putOnTape l D A ad ns I L G (a0) hG hI (by first | omega | decide)) rfl rfl ⟨Nat.le_of_ble_eq_true rfl, Nat.le_of_ble_eq_true rfl⟩ (hG.1 0 (by decide)) rfl rfl (by decide) rfl hl.1 rfl (Nat.le_of_ble_eq_true rfl) dX9_feed_14 ⟨Nat.le_of_ble_eq_true rfl, Nat.le_of_ble_eq_true rfl⟩) hS (fun u H locs hw hM hS => ?_)
    obtain ⟨I3, L4, rfl, hI, hkI3, xI3⟩ := hw
    have hM : Mem D A ad ns I3 L4 G H := hM
    have hK := hK.trans hkI3 rfl
    refine lv_aload_n hx hb dX9_feed_17 rfl (lv_at hl 0 rfl) ?_
    refine lv_iload_n hx hb dX9_feed_18 rfl (lv_at hl 2 rfl) ?_
    refine m_callv (m_runV (0) (As := [.int (a1)]) (rest := []) hx hb hml hown hts hE hM hS hA ce_X9_putOnTape tb_550 (V_X9_putOnTape l D A ad ns I3 L4 G (a1) hG hI (by first | omega | decide)) rfl rfl ⟨Nat.le_of_ble_eq_true rfl, Nat.le_of_ble_eq_true rfl⟩ (hG.1 0 (by decide)) rfl rfl (by decide) rfl hl.1 rfl (Nat.le_of_ble_eq_true rfl) dX9_feed_19 ⟨Nat.le_of_ble_eq_true rfl, Nat.le_of_ble_eq_true rfl⟩) hS (fun u H locs hw hM hS => ?_)
    obtain ⟨I5, L6, rfl, hI, hkI5, xI5⟩ := hw
    have hM : Mem D A ad ns I5 L6 G H := hM
    have hK := hK.trans hkI5 rfl
    refine lv_aload_n hx hb dX9_feed_22 rfl (lv_at hl 0 rfl) ?_
    refine lv_iload_n hx hb dX9_feed_23 rfl (lv_at hl 3 rfl) ?_
    refine m_callv (m_runV (0) (As := [.int (a2)]) (rest := []) hx hb hml hown hts hE hM hS hA ce_X9_putOnTape tb_550 (V_X9_putOnTape l D A ad ns I5 L6 G (a2) hG hI (by first | omega | decide)) rfl rfl ⟨Nat.le_of_ble_eq_true rfl, Nat.le_of_ble_eq_true rfl⟩ (hG.1 0 (by decide)) rfl rfl (by decide) rfl hl.1 rfl (Nat.le_of_ble_eq_true rfl) dX9_feed_24 ⟨Nat.le_of_ble_eq_true rfl, Nat.le_of_ble_eq_true rfl⟩) hS (fun u H locs hw hM hS => ?_)
    obtain ⟨I7, L8, rfl, hI, hkI7, xI7⟩ := hw
    have hM : Mem D A ad ns I7 L8 G H := hM
    have hK := hK.trans hkI7 rfl
    refine lv_aload_n hx hb dX9_feed_27 rfl (lv_at hl 0 rfl) ?_
    refine lv_iload hx hb dX9_feed_28 (lv_at hl 4 rfl) ?_
    refine m_callv (m_runV (0) (As := [.int (a3)]) (rest := []) hx hb hml hown hts hE hM hS hA ce_X9_putOnTape tb_550 (V_X9_putOnTape l D A ad ns I7 L8 G (a3) hG hI (by first | omega | decide)) rfl rfl ⟨Nat.le_of_ble_eq_true rfl, Nat.le_of_ble_eq_true rfl⟩ (hG.1 0 (by decide)) rfl rfl (by decide) rfl hl.1 rfl (Nat.le_of_ble_eq_true rfl) dX9_feed_30 ⟨Nat.le_of_ble_eq_true rfl, Nat.le_of_ble_eq_true rfl⟩) hS (fun u H locs hw hM hS => ?_)
    obtain ⟨I9, L10, rfl, hI, hkI9, xI9⟩ := hw
    have hM : Mem D A ad ns I9 L10 G H := hM
    have hK := hK.trans hkI9 rfl
    refine lv_aload_n hx hb dX9_feed_33 rfl (lv_at hl 0 rfl) ?_
    refine lv_iload hx hb dX9_feed_34 (lv_at hl 5 rfl) ?_
    refine m_callv (m_runV (0) (As := [.int (a4)]) (rest := []) hx hb hml hown hts hE hM hS hA ce_X9_putOnTape tb_550 (V_X9_putOnTape l D A ad ns I9 L10 G (a4) hG hI (by first | omega | decide)) rfl rfl ⟨Nat.le_of_ble_eq_true rfl, Nat.le_of_ble_eq_true rfl⟩ (hG.1 0 (by decide)) rfl rfl (by decide) rfl hl.1 rfl (Nat.le_of_ble_eq_true rfl) dX9_feed_36 ⟨Nat.le_of_ble_eq_true rfl, Nat.le_of_ble_eq_true rfl⟩) hS (fun u H locs hw hM hS => ?_)
    obtain ⟨I11, L12, rfl, hI, hkI11, xI11⟩ := hw
    have hM : Mem D A ad ns I11 L12 G H := hM
    have hK := hK.trans hkI11 rfl
    refine lv_aload_n hx hb dX9_feed_39 rfl (lv_at hl 0 rfl) ?_
    refine m_geti (0) 15 hx hb hts hown hE oc9 hM (hG.1 0 (by decide)) rfl (by decide) rfl tb_413 dX9_feed_40 ?_
    have g13 := hI.get (0) 15 (lo := 0) (hi := 400) rfl
    exact m_iret hx hb hr hlocks hM hS (Nat.le_of_ble_eq_true rfl) (Nat.le_of_ble_eq_true rfl) ⟨_, _, rfl, hI, hK⟩ dX9_feed_43
  · have hc2 := c2
    have q2 := q_nle hc2
    refine lv_iconst (v := (-1)) hx hb dX9_feed_10 (by decide) ?_
    exact m_iret hx hb hr hlocks hM hS (Nat.le_of_ble_eq_true rfl) (Nat.le_of_ble_eq_true rfl) ⟨_, _, rfl, hI, hK⟩ dX9_feed_11
