theorem dX9_findLaw_0 : decode cX9_findLaw 0 = .ok (.iload_n 1, 1) := by decide +kernel
theorem dX9_findLaw_1 : decode cX9_findLaw 1 = .ok (.iconst 0, 1) := by decide +kernel
theorem dX9_findLaw_2 : decode cX9_findLaw 2 = .ok (.aload_n 0, 1) := by decide +kernel
theorem dX9_findLaw_3 : decode cX9_findLaw 3 = .ok (.getfield 179, 3) := by decide +kernel
theorem dX9_findLaw_6 : decode cX9_findLaw 6 = .ok (.iconst 1, 1) := by decide +kernel
theorem dX9_findLaw_7 : decode cX9_findLaw 7 = .ok (.isub, 1) := by decide +kernel
theorem dX9_findLaw_8 : decode cX9_findLaw 8 = .ok (.invokestatic 95, 3) := by decide +kernel
theorem dX9_findLaw_11 : decode cX9_findLaw 11 = .ok (.ifCond .eq 12, 3) := by decide +kernel
theorem dX9_findLaw_14 : decode cX9_findLaw 14 = .ok (.aload_n 0, 1) := by decide +kernel
theorem dX9_findLaw_15 : decode cX9_findLaw 15 = .ok (.getfield 78, 3) := by decide +kernel
theorem dX9_findLaw_18 : decode cX9_findLaw 18 = .ok (.iload_n 1, 1) := by decide +kernel
theorem dX9_findLaw_19 : decode cX9_findLaw 19 = .ok (.aaload, 1) := by decide +kernel
theorem dX9_findLaw_20 : decode cX9_findLaw 20 = .ok (.goto 4, 3) := by decide +kernel
theorem dX9_findLaw_23 : decode cX9_findLaw 23 = .ok (.aconst_null, 1) := by decide +kernel
theorem dX9_findLaw_24 : decode cX9_findLaw 24 = .ok (.areturn, 1) := by decide +kernel
theorem ce_X9_findLaw : CeV RX9 yX9_findLaw cX9_findLaw 2 (some (.object "OneSunbeam$Law")) 1 := ⟨tb_742, tp_22, tb_1, tb_743, rfl, by decide, by decide, by decide +kernel⟩
set_option maxHeartbeats 4000000 in
set_option maxRecDepth 20000 in
theorem V_X9_findLaw (l : Launch) (D : va_G) (A : Nat → Prop) (ad : Nat → Nat) (ns : List Nat) (I : MI) (L : ML) (G : MG) (a0 : Int32) (hG : SGC ns G) (hI : INV I) (hL : LWS ns I G) : Met l yX9_findLaw (wd yX9_findLaw cX9_findLaw 2 (some (.object "OneSunbeam$Law"))) ({ frames := 1, cells := 0, slots := 0, locals := 22 }) (va_Pc [.ref (ad (0)), .int a0] (PM D A ad ns I L G)) (va_Qq (fun r u => u = (ad, ns, I, L, G) ∧ (r = none ∨ ∃ w, r = some (ad w) ∧ LOK ns G w)) (BM D A) A) 0 0 A := by
  refine m_ofW (by decide) (Nat.le_of_ble_eq_true rfl) ?_
  intro p e s m below meth c ls args hC hE hM hA hS hl
  obtain ⟨hx, hb, hml, hown, hts, hr, hlocks, hin⟩ := hC
  have k0 : (0 : Int32).toInt = 0 := by decide
  have k1 : (1 : Int32).toInt = 1 := by decide
  have hl : lv_has ls 2 [(0, .ref (ad (0))), (1, .int (a0))] := hl
  refine lv_iload_n hx hb dX9_findLaw_0 rfl (lv_at hl 1 rfl) ?_
  refine lv_iconst (v := (0)) hx hb dX9_findLaw_1 (by decide) ?_
  refine lv_aload_n hx hb dX9_findLaw_2 rfl (lv_at hl 0 rfl) ?_
  refine m_geti (0) 14 hx hb hts hown hE oc9 hM (hG.1 0 (by decide)) rfl (by decide) rfl tb_412 dX9_findLaw_3 ?_
  have g1 := hI.get (0) 14 (lo := 0) (hi := 6) rfl
  refine lv_iconst (v := (1)) hx hb dX9_findLaw_6 (by decide) ?_
  refine lv_isub hx hb dX9_findLaw_7 ?_
  refine lv_topi (fun v2 ev2 => ?_)
  have tv2 := a_sub ev2 (by omega) (by omega)
  refine m_calli (m_runS (As := [.int (a0), .int (0), .int (v2)]) (rest := []) hx hb hml hown hts hE hM hS hA ce_X9_isWithin tb_451 (V_X9_isWithin l D A ad ns I L G (a0) (0) (v2) hI) rfl rfl ⟨Nat.le_of_ble_eq_true rfl, Nat.le_of_ble_eq_true rfl⟩  rfl hl.1 rfl (Nat.le_of_ble_eq_true rfl) dX9_findLaw_8 ⟨Nat.le_of_ble_eq_true rfl, Nat.le_of_ble_eq_true rfl⟩) hS (fun r3 u H locs hw hM hS => ?_)
  obtain ⟨rfl, xr3⟩ := hw
  have hM : Mem D A ad ns I L G H := hM
  have yr3 := bo01 xr3
  refine lv_if_eq (tgt := 23) hx hb dX9_findLaw_11 (by decide) (fun c4 => ?_) (fun c4 => ?_)
  · have hc4 := c4
    have q4 := xr3.f hc4
    refine lv_null hx hb dX9_findLaw_23 ?_
    exact m_aret (r := none) hx hb hr ⟨_, rfl⟩ hlocks hM hS (Nat.le_of_ble_eq_true rfl) (Nat.le_of_ble_eq_true rfl) ⟨rfl, (Or.inl rfl)⟩ dX9_findLaw_24
  · have hc4 := c4
    have q4 := xr3.t hc4
    refine lv_aload_n hx hb dX9_findLaw_14 rfl (lv_at hl 0 rfl) ?_
    refine m_getr (0) 10 (2) hx hb hts hown hE oc9 hM (hG.1 0 (by decide)) rfl (by decide) rfl (hG.2 (0, 10, 2) (by decide)) (by decide) tb_408 dX9_findLaw_15 ?_
    refine lv_iload_n hx hb dX9_findLaw_18 rfl (lv_at hl 1 rfl) ?_
    refine m_aald (2) hx hb hE hM (hG.1 2 (by decide)) rfl (by decide) (vp_in_iff.mpr (by omega)) dX9_findLaw_19 ?_
    have hn0 := tn (i := a0) (by omega)
    obtain ⟨w5, hg0, hW0⟩ := hL (a0).toNatClampNeg (by omega)
    have hz0 : rn ad (G 2 (a0).toNatClampNeg) = some (ad w5) := by rw [hg0]; have := lbw hW0.1; simp [rn]; omega
    rw [hz0]
    refine lv_goto (tgt := 24) hx hb dX9_findLaw_20 (by decide) ?_
    exact m_aret (r := some (ad w5)) hx hb hr ⟨_, rfl⟩ hlocks hM hS (Nat.le_of_ble_eq_true rfl) (Nat.le_of_ble_eq_true rfl) ⟨rfl, (Or.inr ⟨w5, rfl, hW0⟩)⟩ dX9_findLaw_24
theorem dX9_days_0 : decode cX9_days 0 = .ok (.aload_n 0, 1) := by decide +kernel
theorem dX9_days_1 : decode cX9_days 1 = .ok (.iload_n 1, 1) := by decide +kernel
theorem dX9_days_2 : decode cX9_days 2 = .ok (.invokevirtual 186, 3) := by decide +kernel
theorem dX9_days_5 : decode cX9_days 5 = .ok (.astore_n 3, 1) := by decide +kernel
theorem dX9_days_6 : decode cX9_days 6 = .ok (.aload_n 3, 1) := by decide +kernel
theorem dX9_days_7 : decode cX9_days 7 = .ok (.ifnull 38, 3) := by decide +kernel
theorem dX9_days_10 : decode cX9_days 10 = .ok (.aload_n 0, 1) := by decide +kernel
theorem dX9_days_11 : decode cX9_days 11 = .ok (.getfield 10, 3) := by decide +kernel
theorem dX9_days_14 : decode cX9_days 14 = .ok (.invokevirtual 111, 3) := by decide +kernel
theorem dX9_days_17 : decode cX9_days 17 = .ok (.ifCond .eq 28, 3) := by decide +kernel
theorem dX9_days_20 : decode cX9_days 20 = .ok (.iload_n 2, 1) := by decide +kernel
theorem dX9_days_21 : decode cX9_days 21 = .ok (.iconst 1, 1) := by decide +kernel
theorem dX9_days_22 : decode cX9_days 22 = .ok (.bipush 30, 2) := by decide +kernel
theorem dX9_days_24 : decode cX9_days 24 = .ok (.invokestatic 95, 3) := by decide +kernel
theorem dX9_days_27 : decode cX9_days 27 = .ok (.ifCond .eq 18, 3) := by decide +kernel
theorem dX9_days_30 : decode cX9_days 30 = .ok (.aload_n 0, 1) := by decide +kernel
theorem dX9_days_31 : decode cX9_days 31 = .ok (.getfield 10, 3) := by decide +kernel
theorem dX9_days_34 : decode cX9_days 34 = .ok (.getfield 190, 3) := by decide +kernel
theorem dX9_days_37 : decode cX9_days 37 = .ok (.sipush 9999, 3) := by decide +kernel
theorem dX9_days_40 : decode cX9_days 40 = .ok (.iload_n 2, 1) := by decide +kernel
theorem dX9_days_41 : decode cX9_days 41 = .ok (.isub, 1) := by decide +kernel
theorem dX9_days_42 : decode cX9_days 42 = .ok (.if_icmp .le 5, 3) := by decide +kernel
theorem dX9_days_45 : decode cX9_days 45 = .ok (.iconst (-1), 1) := by decide +kernel
theorem dX9_days_46 : decode cX9_days 46 = .ok (.ireturn, 1) := by decide +kernel
theorem dX9_days_47 : decode cX9_days 47 = .ok (.iconst 0, 1) := by decide +kernel
theorem dX9_days_48 : decode cX9_days 48 = .ok (.istore 4, 2) := by decide +kernel
theorem dX9_days_50 : decode cX9_days 50 = .ok (.iload 4, 2) := by decide +kernel
theorem dX9_days_52 : decode cX9_days 52 = .ok (.iload_n 2, 1) := by decide +kernel
theorem dX9_days_53 : decode cX9_days 53 = .ok (.if_icmp .ge 23, 3) := by decide +kernel
theorem dX9_days_56 : decode cX9_days 56 = .ok (.aload_n 0, 1) := by decide +kernel
theorem dX9_days_57 : decode cX9_days 57 = .ok (.getfield 35, 3) := by decide +kernel
theorem dX9_days_60 : decode cX9_days 60 = .ok (.aload_n 0, 1) := by decide +kernel
theorem dX9_days_61 : decode cX9_days 61 = .ok (.getfield 10, 3) := by decide +kernel
theorem dX9_days_64 : decode cX9_days 64 = .ok (.aload_n 3, 1) := by decide +kernel
theorem dX9_days_65 : decode cX9_days 65 = .ok (.iconst 0, 1) := by decide +kernel
theorem dX9_days_66 : decode cX9_days 66 = .ok (.invokevirtual 193, 3) := by decide +kernel
theorem dX9_days_69 : decode cX9_days 69 = .ok (.pop, 1) := by decide +kernel
theorem dX9_days_70 : decode cX9_days 70 = .ok (.iinc 4 1, 3) := by decide +kernel
theorem dX9_days_73 : decode cX9_days 73 = .ok (.goto (-23), 3) := by decide +kernel
theorem dX9_days_76 : decode cX9_days 76 = .ok (.aload_n 0, 1) := by decide +kernel
theorem dX9_days_77 : decode cX9_days 77 = .ok (.getfield 10, 3) := by decide +kernel
theorem dX9_days_80 : decode cX9_days 80 = .ok (.invokevirtual 197, 3) := by decide +kernel
theorem dX9_days_83 : decode cX9_days 83 = .ok (.ireturn, 1) := by decide +kernel
theorem ce_X9_days : CeV RX9 yX9_days cX9_days 5 (some .int) 2 := ⟨tb_737, tb_738, tb_1, tb_739, rfl, by decide, by decide, by decide +kernel⟩
set_option maxHeartbeats 4000000 in
set_option maxRecDepth 20000 in
theorem V_X9_days (l : Launch) (D : va_G) (A : Nat → Prop) (ad : Nat → Nat) (ns : List Nat) (I : MI) (L : ML) (G : MG) (a0 : Int32) (a1 : Int32) (hG : SGC ns G) (hI : INV I) (hL : LWS ns I G) : Met l yX9_days (wd yX9_days cX9_days 5 (some .int)) ({ frames := 7, cells := 0, slots := 0, locals := 171 }) (va_Pc [.ref (ad (0)), .int a0, .int a1] (PM D A ad ns I L G)) (va_Qi (fun r u => ∃ I2 L2, u = (ad, ns, I2, L2, G) ∧ INV I2 ∧ Kp [(11, 15), (21, 22), (107, 109)] [(10, 2), (10, 3), (10, 4), (10, 5), (10, 6), (10, 7), (10, 8), (10, 11), (10, 12), (20, 3), (100, 6)] I I2) (BM D A) A) 0 0 A := by
  refine m_ofW (by decide) (Nat.le_of_ble_eq_true rfl) ?_
  intro p e s m below meth c ls args hC hE hM hA hS hl
  obtain ⟨hx, hb, hml, hown, hts, hr, hlocks, hin⟩ := hC
  have km1 : (-1 : Int32).toInt = -1 := by decide
  have k0 : (0 : Int32).toInt = 0 := by decide
  have k1 : (1 : Int32).toInt = 1 := by decide
  have k30 : (30 : Int32).toInt = 30 := by decide
  have k9999 : (9999 : Int32).toInt = 9999 := by decide
  have hK : Kp [(11, 15), (21, 22), (107, 109)] [(10, 2), (10, 3), (10, 4), (10, 5), (10, 6), (10, 7), (10, 8), (10, 11), (10, 12), (20, 3), (100, 6)] I I := Kp.rf
  have hl : lv_has ls 5 [(0, .ref (ad (0))), (1, .int (a0)), (2, .int (a1))] := hl
  refine lv_aload_n hx hb dX9_days_0 rfl (lv_at hl 0 rfl) ?_
  refine lv_iload_n hx hb dX9_days_1 rfl (lv_at hl 1 rfl) ?_
  refine m_callq (m_runV (0) (As := [.int (a0)]) (rest := []) hx hb hml hown hts hE hM hS hA ce_X9_findLaw tb_740 (V_X9_findLaw l D A ad ns I L G (a0) hG hI hL) rfl rfl ⟨Nat.le_of_ble_eq_true rfl, Nat.le_of_ble_eq_true rfl⟩ (hG.1 0 (by decide)) rfl rfl (by decide) rfl hl.1 rfl (Nat.le_of_ble_eq_true rfl) dX9_days_2 ⟨Nat.le_of_ble_eq_true rfl, Nat.le_of_ble_eq_true rfl⟩) hS (fun r1 u H locs hw hM hS => ?_)
  obtain ⟨rfl, xr1⟩ := hw
  have hM : Mem D A ad ns I L G H := hM
  rcases xr1 with rfl | ⟨w, rfl, hW⟩
  · have hM := hM
    refine lv_astore_nN (lv' := [(3, .null), (0, .ref (ad (0))), (1, .int (a0)), (2, .int (a1))]) hx hb dX9_days_5 rfl hl (by decide) rfl (fun ls hl => ?_)
    refine lv_aload_nN hx hb dX9_days_6 rfl (lv_at hl 0 rfl) ?_
    refine lv_ifnullN (tgt := 45) hx hb dX9_days_7 (by decide) ?_
    refine lv_iconst (v := (-1)) hx hb dX9_days_45 (by decide) ?_
    exact m_iret hx hb hr hlocks hM hS (Nat.le_of_ble_eq_true rfl) (Nat.le_of_ble_eq_true rfl) ⟨_, _, rfl, hI, hK⟩ dX9_days_46
  refine lv_astore_n (lv' := [(3, .ref (ad (w))), (0, .ref (ad (0))), (1, .int (a0)), (2, .int (a1))]) hx hb dX9_days_5 rfl hl (by decide) rfl (fun ls hl => ?_)
  refine lv_aload_n hx hb dX9_days_6 rfl (lv_at hl 0 rfl) ?_
  refine lv_ifnull hx hb dX9_days_7 ?_
  refine lv_aload_n hx hb dX9_days_10 rfl (lv_at hl 1 rfl) ?_
  refine m_getr (0) 0 (100) hx hb hts hown hE oc9 hM (hG.1 0 (by decide)) rfl (by decide) rfl (hG.2 (0, 0, 100) (by decide)) (by decide) tb_398 dX9_days_11 ?_
  refine m_calli (m_runV (100) (As := []) (rest := []) hx hb hml hown hts hE hM hS hA ce_X8_isBegun tb_484 (V_X8_isBegun_100 l D A ad ns I L G hG hI) rfl rfl ⟨Nat.le_of_ble_eq_true rfl, Nat.le_of_ble_eq_true rfl⟩ (hG.1 100 (by decide)) rfl rfl (by decide) rfl hl.1 rfl (Nat.le_of_ble_eq_true rfl) dX9_days_14 ⟨Nat.le_of_ble_eq_true rfl, Nat.le_of_ble_eq_true rfl⟩) hS (fun r2 u H locs hw hM hS => ?_)
  obtain ⟨rfl, xr2⟩ := hw
  have hM : Mem D A ad ns I L G H := hM
  have yr2 := bo01 xr2
  refine lv_if_eq (tgt := 45) hx hb dX9_days_17 (by decide) (fun c3 => ?_) (fun c3 => ?_)
  · have hc3 := c3
    have q3 := xr2.f hc3
    refine lv_iconst (v := (-1)) hx hb dX9_days_45 (by decide) ?_
    exact m_iret hx hb hr hlocks hM hS (Nat.le_of_ble_eq_true rfl) (Nat.le_of_ble_eq_true rfl) ⟨_, _, rfl, hI, hK⟩ dX9_days_46
  · have hc3 := c3
    have q3 := xr2.t hc3
    refine lv_iload_n hx hb dX9_days_20 rfl (lv_at hl 3 rfl) ?_
    refine lv_iconst (v := (1)) hx hb dX9_days_21 (by decide) ?_
    refine lv_bipush (v := (30)) hx hb dX9_days_22 (by decide) ?_
    refine m_calli (m_runS (As := [.int (a1), .int (1), .int (30)]) (rest := []) hx hb hml hown hts hE hM hS hA ce_X9_isWithin tb_451 (V_X9_isWithin l D A ad ns I L G (a1) (1) (30) hI) rfl rfl ⟨Nat.le_of_ble_eq_true rfl, Nat.le_of_ble_eq_true rfl⟩  rfl hl.1 rfl (Nat.le_of_ble_eq_true rfl) dX9_days_24 ⟨Nat.le_of_ble_eq_true rfl, Nat.le_of_ble_eq_true rfl⟩) hS (fun r4 u H locs hw hM hS => ?_)
    obtain ⟨rfl, xr4⟩ := hw
    have hM : Mem D A ad ns I L G H := hM
    have yr4 := bo01 xr4
    refine lv_if_eq (tgt := 45) hx hb dX9_days_27 (by decide) (fun c5 => ?_) (fun c5 => ?_)
    · have hc5 := c5
      have q5 := xr4.f hc5
      refine lv_iconst (v := (-1)) hx hb dX9_days_45 (by decide) ?_
      exact m_iret hx hb hr hlocks hM hS (Nat.le_of_ble_eq_true rfl) (Nat.le_of_ble_eq_true rfl) ⟨_, _, rfl, hI, hK⟩ dX9_days_46
    · have hc5 := c5
      have q5 := xr4.t hc5
      refine lv_aload_n hx hb dX9_days_30 rfl (lv_at hl 1 rfl) ?_
      refine m_getr (0) 0 (100) hx hb hts hown hE oc9 hM (hG.1 0 (by decide)) rfl (by decide) rfl (hG.2 (0, 0, 100) (by decide)) (by decide) tb_398 dX9_days_31 ?_
      refine m_geti (100) 6 hx hb hts hown hE oc8 hM (hG.1 100 (by decide)) rfl (by decide) rfl tb_56 dX9_days_34 ?_
      refine lv_sipush (v := (9999)) hx hb dX9_days_37 (by decide) ?_
      refine lv_iload_n hx hb dX9_days_40 rfl (lv_at hl 3 rfl) ?_
      refine lv_isub hx hb dX9_days_41 ?_
      refine lv_topi (fun v6 ev6 => ?_)
      have tv6 := a_sub ev6 (by omega) (by omega)
      refine lv_icmp_le (tgt := 47) hx hb dX9_days_42 (by decide) (fun c7 => ?_) (fun c7 => ?_)
      · have hc7 := c7
        have q7 := q_le hc7
        refine lv_iconst (v := (0)) hx hb dX9_days_47 (by decide) ?_
        refine lv_istore (lv' := [(4, .int (0)), (3, .ref (ad (w))), (0, .ref (ad (0))), (1, .int (a0)), (2, .int (a1))]) hx hb dX9_days_48 hl (by decide) rfl (fun ls hl => ?_)
        have loop50 : ∀ (n : Nat) (x4_50 : Int32) (Ia50 : MI) (La50 : ML) (H : Heap) (locs : List Loc) (ls : Array Slot), INV Ia50 → Kp [(11, 15), (21, 22), (107, 109)] [(10, 2), (10, 3), (10, 4), (10, 5), (10, 6), (10, 7), (10, 8), (10, 11), (10, 12), (20, 3), (100, 6)] I Ia50 → (0 ≤ x4_50.toInt ∧ x4_50.toInt ≤ 30) → (30 - x4_50.toInt).toNat < n → Mem D A ad ns Ia50 La50 G H → va_S A s.heap H locs → lv_has ls 5 [(4, .int (x4_50)), (3, .ref (ad (w))), (0, .ref (ad (0))), (1, .int (a0)), (2, .int (a1))] → W p l e ({ frames := 7, cells := 0, slots := 0, locals := 171 } : Room) s m args below meth c H locs 0 0 (MQ below (va_Qi (fun r u => ∃ I2 L2, u = (ad, ns, I2, L2, G) ∧ INV I2 ∧ Kp [(11, 15), (21, 22), (107, 109)] [(10, 2), (10, 3), (10, 4), (10, 5), (10, 6), (10, 7), (10, 8), (10, 11), (10, 12), (20, 3), (100, 6)] I I2) (BM D A) A) args s 0 0 A) (F0 m 50 ls []) := by
          intro n
          induction n with
          | zero =>
            intro x4_50 Ia50 La50 H locs ls hI hK hr4_50 hmu
            exact absurd hmu (Nat.not_lt_zero _)
          | succ n ih50 =>
            intro x4_50 Ia50 La50 H locs ls hI hK hr4_50 hmu50 hM hS hl
            refine lv_iload hx hb dX9_days_50 (lv_at hl 0 rfl) ?_
            refine lv_iload_n hx hb dX9_days_52 rfl (lv_at hl 4 rfl) ?_
            refine lv_icmp_ge (tgt := 76) hx hb dX9_days_53 (by decide) (fun c8 => ?_) (fun c8 => ?_)
            · have hc8 := c8
              have q8 := q_le hc8
              refine lv_aload_n hx hb dX9_days_76 rfl (lv_at hl 2 rfl) ?_
              refine m_getr (0) 0 (100) hx hb hts hown hE oc9 hM (hG.1 0 (by decide)) rfl (by decide) rfl (hG.2 (0, 0, 100) (by decide)) (by decide) tb_398 dX9_days_77 ?_
              refine m_calli (m_runV (100) (As := []) (rest := []) hx hb hml hown hts hE hM hS hA ce_X8_metCount tb_880 (V_X8_metCount_100 l D A ad ns Ia50 La50 G hG hI) rfl rfl ⟨Nat.le_of_ble_eq_true rfl, Nat.le_of_ble_eq_true rfl⟩ (hG.1 100 (by decide)) rfl rfl (by decide) rfl hl.1 rfl (Nat.le_of_ble_eq_true rfl) dX9_days_80 ⟨Nat.le_of_ble_eq_true rfl, Nat.le_of_ble_eq_true rfl⟩) hS (fun r9 u H locs hw hM hS => ?_)
              obtain ⟨rfl, xr9⟩ := hw
              have hM : Mem D A ad ns Ia50 La50 G H := hM
              exact m_iret hx hb hr hlocks hM hS (Nat.le_of_ble_eq_true rfl) (Nat.le_of_ble_eq_true rfl) ⟨_, _, rfl, hI, hK⟩ dX9_days_83
            · have hc8 := c8
              have q8 := q_nle hc8
              refine lv_aload_n hx hb dX9_days_56 rfl (lv_at hl 2 rfl) ?_
              refine m_getr (0) 4 (20) hx hb hts hown hE oc9 hM (hG.1 0 (by decide)) rfl (by decide) rfl (hG.2 (0, 4, 20) (by decide)) (by decide) tb_402 dX9_days_57 ?_
              refine lv_aload_n hx hb dX9_days_60 rfl (lv_at hl 2 rfl) ?_
              refine m_getr (0) 0 (100) hx hb hts hown hE oc9 hM (hG.1 0 (by decide)) rfl (by decide) rfl (hG.2 (0, 0, 100) (by decide)) (by decide) tb_398 dX9_days_61 ?_
              refine lv_aload_n hx hb dX9_days_64 rfl (lv_at hl 1 rfl) ?_
              refine lv_iconst (v := (0)) hx hb dX9_days_65 (by decide) ?_
              refine m_calli (m_runV (20) (As := [.ref (ad (100)), .ref (ad (w)), .int (0)]) (rest := []) hx hb hml hown hts hE hM hS hA ce_X2_passDay tb_744 (V_X2_passDay_100 l D A ad ns Ia50 La50 G (w) (0) hG hI hW (by first | omega | decide)) rfl rfl ⟨Nat.le_of_ble_eq_true rfl, Nat.le_of_ble_eq_true rfl⟩ (hG.1 20 (by decide)) rfl rfl (by decide) rfl hl.1 rfl (Nat.le_of_ble_eq_true rfl) dX9_days_66 ⟨Nat.le_of_ble_eq_true rfl, Nat.le_of_ble_eq_true rfl⟩) hS (fun r10 u H locs hw hM hS => ?_)
              obtain ⟨I11, L12, rfl, hI, hkI11⟩ := hw
              have hM : Mem D A ad ns I11 L12 G H := hM
              have hK := hK.trans hkI11 rfl
              refine lv_pop hx hb dX9_days_69 rfl ?_
              obtain ⟨v13, ev13⟩ : ∃ z : Int32, z = x4_50 + Int32.ofInt (1) := ⟨_, rfl⟩
              have tv13 := a_inc ev13 (by decide) (by omega) (by omega)
              refine lv_iinc (v := v13) (lv' := [(4, .int (v13)), (3, .ref (ad (w))), (0, .ref (ad (0))), (1, .int (a0)), (2, .int (a1))]) hx hb dX9_days_70 hl (k := 0) rfl ev13.symm (by decide) rfl (fun ls hl => ?_)
              refine lv_goto (tgt := 50) hx hb dX9_days_73 (by decide) ?_
              exact ih50 (v13) I11 L12 _ _ ls hI hK (by first | omega | decide) (by omega) hM hS (lv_sub hl [0, 1, 2, 3, 4] rfl)
        exact loop50 (_ + 1) (0) I L _ _ ls hI hK (by first | omega | decide) (Nat.lt_succ_self _) hM hS (lv_sub hl [0, 1, 2, 3, 4] rfl)
      · have hc7 := c7
        have q7 := q_nle hc7
        refine lv_iconst (v := (-1)) hx hb dX9_days_45 (by decide) ?_
        exact m_iret hx hb hr hlocks hM hS (Nat.le_of_ble_eq_true rfl) (Nat.le_of_ble_eq_true rfl) ⟨_, _, rfl, hI, hK⟩ dX9_days_46
theorem dX9_dark_0 : decode cX9_dark 0 = .ok (.aload_n 0, 1) := by decide +kernel
theorem dX9_dark_1 : decode cX9_dark 1 = .ok (.iload_n 1, 1) := by decide +kernel
theorem dX9_dark_2 : decode cX9_dark 2 = .ok (.invokevirtual 186, 3) := by decide +kernel
theorem dX9_dark_5 : decode cX9_dark 5 = .ok (.astore 4, 2) := by decide +kernel
theorem dX9_dark_7 : decode cX9_dark 7 = .ok (.aload 4, 2) := by decide +kernel
theorem dX9_dark_9 : decode cX9_dark 9 = .ok (.ifnull 18, 3) := by decide +kernel
theorem dX9_dark_12 : decode cX9_dark 12 = .ok (.aload_n 0, 1) := by decide +kernel
theorem dX9_dark_13 : decode cX9_dark 13 = .ok (.getfield 10, 3) := by decide +kernel
theorem dX9_dark_16 : decode cX9_dark 16 = .ok (.iload_n 2, 1) := by decide +kernel
theorem dX9_dark_17 : decode cX9_dark 17 = .ok (.invokevirtual 204, 3) := by decide +kernel
theorem dX9_dark_20 : decode cX9_dark 20 = .ok (.ifCond .eq 7, 3) := by decide +kernel
theorem dX9_dark_23 : decode cX9_dark 23 = .ok (.iload_n 3, 1) := by decide +kernel
theorem dX9_dark_24 : decode cX9_dark 24 = .ok (.ifCond .ge 5, 3) := by decide +kernel
theorem dX9_dark_27 : decode cX9_dark 27 = .ok (.iconst (-1), 1) := by decide +kernel
theorem dX9_dark_28 : decode cX9_dark 28 = .ok (.ireturn, 1) := by decide +kernel
theorem dX9_dark_29 : decode cX9_dark 29 = .ok (.iconst 0, 1) := by decide +kernel
theorem dX9_dark_30 : decode cX9_dark 30 = .ok (.istore 5, 2) := by decide +kernel
theorem dX9_dark_32 : decode cX9_dark 32 = .ok (.iconst 0, 1) := by decide +kernel
theorem dX9_dark_33 : decode cX9_dark 33 = .ok (.istore 6, 2) := by decide +kernel
theorem dX9_dark_35 : decode cX9_dark 35 = .ok (.iload 6, 2) := by decide +kernel
theorem dX9_dark_37 : decode cX9_dark 37 = .ok (.bipush 12, 2) := by decide +kernel
theorem dX9_dark_39 : decode cX9_dark 39 = .ok (.if_icmp .ge 66, 3) := by decide +kernel
theorem dX9_dark_42 : decode cX9_dark 42 = .ok (.aload_n 0, 1) := by decide +kernel
theorem dX9_dark_43 : decode cX9_dark 43 = .ok (.getfield 16, 3) := by decide +kernel
theorem dX9_dark_46 : decode cX9_dark 46 = .ok (.aload_n 0, 1) := by decide +kernel
theorem dX9_dark_47 : decode cX9_dark 47 = .ok (.getfield 10, 3) := by decide +kernel
theorem dX9_dark_50 : decode cX9_dark 50 = .ok (.invokevirtual 320, 3) := by decide +kernel
theorem dX9_dark_53 : decode cX9_dark 53 = .ok (.aload_n 0, 1) := by decide +kernel
theorem dX9_dark_54 : decode cX9_dark 54 = .ok (.getfield 16, 3) := by decide +kernel
theorem dX9_dark_57 : decode cX9_dark 57 = .ok (.iload 6, 2) := by decide +kernel
theorem dX9_dark_59 : decode cX9_dark 59 = .ok (.putfield 166, 3) := by decide +kernel
theorem dX9_dark_62 : decode cX9_dark 62 = .ok (.aload_n 0, 1) := by decide +kernel
theorem dX9_dark_63 : decode cX9_dark 63 = .ok (.getfield 35, 3) := by decide +kernel
theorem dX9_dark_66 : decode cX9_dark 66 = .ok (.aload_n 0, 1) := by decide +kernel
theorem dX9_dark_67 : decode cX9_dark 67 = .ok (.getfield 16, 3) := by decide +kernel
theorem dX9_dark_70 : decode cX9_dark 70 = .ok (.aload 4, 2) := by decide +kernel
theorem dX9_dark_72 : decode cX9_dark 72 = .ok (.iconst 0, 1) := by decide +kernel
theorem dX9_dark_73 : decode cX9_dark 73 = .ok (.invokevirtual 193, 3) := by decide +kernel
theorem dX9_dark_76 : decode cX9_dark 76 = .ok (.pop, 1) := by decide +kernel
theorem dX9_dark_77 : decode cX9_dark 77 = .ok (.aload_n 0, 1) := by decide +kernel
theorem dX9_dark_78 : decode cX9_dark 78 = .ok (.getfield 16, 3) := by decide +kernel
theorem dX9_dark_81 : decode cX9_dark 81 = .ok (.iload_n 2, 1) := by decide +kernel
theorem dX9_dark_82 : decode cX9_dark 82 = .ok (.iconst 0, 1) := by decide +kernel
theorem dX9_dark_83 : decode cX9_dark 83 = .ok (.invokevirtual 207, 3) := by decide +kernel
theorem dX9_dark_86 : decode cX9_dark 86 = .ok (.iload_n 3, 1) := by decide +kernel
theorem dX9_dark_87 : decode cX9_dark 87 = .ok (.if_icmp .ge 12, 3) := by decide +kernel
theorem dX9_dark_90 : decode cX9_dark 90 = .ok (.iload 5, 2) := by decide +kernel
theorem dX9_dark_92 : decode cX9_dark 92 = .ok (.iconst 1, 1) := by decide +kernel
theorem dX9_dark_93 : decode cX9_dark 93 = .ok (.iload 6, 2) := by decide +kernel
theorem dX9_dark_95 : decode cX9_dark 95 = .ok (.ishl, 1) := by decide +kernel
theorem dX9_dark_96 : decode cX9_dark 96 = .ok (.ior, 1) := by decide +kernel
theorem dX9_dark_97 : decode cX9_dark 97 = .ok (.istore 5, 2) := by decide +kernel
theorem dX9_dark_99 : decode cX9_dark 99 = .ok (.iinc 6 1, 3) := by decide +kernel
theorem dX9_dark_102 : decode cX9_dark 102 = .ok (.goto (-67), 3) := by decide +kernel
theorem dX9_dark_105 : decode cX9_dark 105 = .ok (.iload 5, 2) := by decide +kernel
theorem dX9_dark_107 : decode cX9_dark 107 = .ok (.ireturn, 1) := by decide +kernel
theorem ce_X9_dark : CeV RX9 yX9_dark cX9_dark 7 (some .int) 3 := ⟨tb_1144, tb_1145, tb_1, tb_1146, rfl, by decide, by decide, by decide +kernel⟩
set_option maxHeartbeats 4000000 in
set_option maxRecDepth 20000 in
theorem V_X9_dark (l : Launch) (D : va_G) (A : Nat → Prop) (ad : Nat → Nat) (ns : List Nat) (I : MI) (L : ML) (G : MG) (a0 : Int32) (a1 : Int32) (a2 : Int32) (hG : SGC ns G) (hI : INV I) (hL : LWS ns I G) : Met l yX9_dark (wd yX9_dark cX9_dark 7 (some .int)) ({ frames := 7, cells := 0, slots := 0, locals := 171 }) (va_Pc [.ref (ad (0)), .int a0, .int a1, .int a2] (PM D A ad ns I L G)) (va_Qi (fun r u => ∃ I2 L2, u = (ad, ns, I2, L2, G) ∧ INV I2 ∧ Kp [(11, 15), (21, 22), (111, 119)] [(10, 2), (10, 3), (10, 4), (10, 5), (10, 6), (10, 7), (10, 8), (10, 11), (10, 12), (20, 3), (110, 0), (110, 1), (110, 2), (110, 3), (110, 4), (110, 5), (110, 6), (110, 7), (110, 8), (110, 9)] I I2) (BM D A) A) 0 0 A := by
  refine m_ofW (by decide) (Nat.le_of_ble_eq_true rfl) ?_
  intro p e s m below meth c ls args hC hE hM hA hS hl
  obtain ⟨hx, hb, hml, hown, hts, hr, hlocks, hin⟩ := hC
  have km1 : (-1 : Int32).toInt = -1 := by decide
  have k0 : (0 : Int32).toInt = 0 := by decide
  have k1 : (1 : Int32).toInt = 1 := by decide
  have k12 : (12 : Int32).toInt = 12 := by decide
  have hK : Kp [(11, 15), (21, 22), (111, 119)] [(10, 2), (10, 3), (10, 4), (10, 5), (10, 6), (10, 7), (10, 8), (10, 11), (10, 12), (20, 3), (110, 0), (110, 1), (110, 2), (110, 3), (110, 4), (110, 5), (110, 6), (110, 7), (110, 8), (110, 9)] I I := Kp.rf
  have hl : lv_has ls 7 [(0, .ref (ad (0))), (1, .int (a0)), (2, .int (a1)), (3, .int (a2))] := hl
  refine lv_aload_n hx hb dX9_dark_0 rfl (lv_at hl 0 rfl) ?_
  refine lv_iload_n hx hb dX9_dark_1 rfl (lv_at hl 1 rfl) ?_
  refine m_callq (m_runV (0) (As := [.int (a0)]) (rest := []) hx hb hml hown hts hE hM hS hA ce_X9_findLaw tb_740 (V_X9_findLaw l D A ad ns I L G (a0) hG hI hL) rfl rfl ⟨Nat.le_of_ble_eq_true rfl, Nat.le_of_ble_eq_true rfl⟩ (hG.1 0 (by decide)) rfl rfl (by decide) rfl hl.1 rfl (Nat.le_of_ble_eq_true rfl) dX9_dark_2 ⟨Nat.le_of_ble_eq_true rfl, Nat.le_of_ble_eq_true rfl⟩) hS (fun r1 u H locs hw hM hS => ?_)
  obtain ⟨rfl, xr1⟩ := hw
  have hM : Mem D A ad ns I L G H := hM
  rcases xr1 with rfl | ⟨w, rfl, hW⟩
  · have hM := hM
    refine lv_astoreN (lv' := [(4, .null), (0, .ref (ad (0))), (1, .int (a0)), (2, .int (a1)), (3, .int (a2))]) hx hb dX9_dark_5 hl (by decide) rfl (fun ls hl => ?_)
    refine lv_aloadN hx hb dX9_dark_7 (lv_at hl 0 rfl) ?_
    refine lv_ifnullN (tgt := 27) hx hb dX9_dark_9 (by decide) ?_
    refine lv_iconst (v := (-1)) hx hb dX9_dark_27 (by decide) ?_
    exact m_iret hx hb hr hlocks hM hS (Nat.le_of_ble_eq_true rfl) (Nat.le_of_ble_eq_true rfl) ⟨_, _, rfl, hI, hK⟩ dX9_dark_28
  refine lv_astore (lv' := [(4, .ref (ad (w))), (0, .ref (ad (0))), (1, .int (a0)), (2, .int (a1)), (3, .int (a2))]) hx hb dX9_dark_5 hl (by decide) rfl (fun ls hl => ?_)
  refine lv_aload hx hb dX9_dark_7 (lv_at hl 0 rfl) ?_
  refine lv_ifnull hx hb dX9_dark_9 ?_
  refine lv_aload_n hx hb dX9_dark_12 rfl (lv_at hl 1 rfl) ?_
  refine m_getr (0) 0 (100) hx hb hts hown hE oc9 hM (hG.1 0 (by decide)) rfl (by decide) rfl (hG.2 (0, 0, 100) (by decide)) (by decide) tb_398 dX9_dark_13 ?_
  refine lv_iload_n hx hb dX9_dark_16 rfl (lv_at hl 3 rfl) ?_
  refine m_calli (m_runV (100) (As := [.int (a1)]) (rest := []) hx hb hml hown hts hE hM hS hA ce_X8_hasYard tb_893 (V_X8_hasYard_100 l D A ad ns I L G (a1) hG hI) rfl rfl ⟨Nat.le_of_ble_eq_true rfl, Nat.le_of_ble_eq_true rfl⟩ (hG.1 100 (by decide)) rfl rfl (by decide) rfl hl.1 rfl (Nat.le_of_ble_eq_true rfl) dX9_dark_17 ⟨Nat.le_of_ble_eq_true rfl, Nat.le_of_ble_eq_true rfl⟩) hS (fun r2 u H locs hw hM hS => ?_)
  obtain ⟨rfl, xr2⟩ := hw
  have hM : Mem D A ad ns I L G H := hM
  have yr2 := bo01 xr2
  have g3 := hI.get 100 9 (lo := 0) (hi := 8) rfl
  refine lv_if_eq (tgt := 27) hx hb dX9_dark_20 (by decide) (fun c4 => ?_) (fun c4 => ?_)
  · have hc4 := c4
    have q4 := xr2.f hc4
    refine lv_iconst (v := (-1)) hx hb dX9_dark_27 (by decide) ?_
    exact m_iret hx hb hr hlocks hM hS (Nat.le_of_ble_eq_true rfl) (Nat.le_of_ble_eq_true rfl) ⟨_, _, rfl, hI, hK⟩ dX9_dark_28
  · have hc4 := c4
    have q4 := xr2.t hc4
    refine lv_iload_n hx hb dX9_dark_23 rfl (lv_at hl 4 rfl) ?_
    refine lv_if_ge (tgt := 29) hx hb dX9_dark_24 (by decide) (fun c5 => ?_) (fun c5 => ?_)
    · have hc5 := c5
      have q5 := q_le hc5
      refine lv_iconst (v := (0)) hx hb dX9_dark_29 (by decide) ?_
      refine lv_istore (lv' := [(5, .int (0)), (4, .ref (ad (w))), (0, .ref (ad (0))), (1, .int (a0)), (2, .int (a1)), (3, .int (a2))]) hx hb dX9_dark_30 hl (by decide) rfl (fun ls hl => ?_)
      refine lv_iconst (v := (0)) hx hb dX9_dark_32 (by decide) ?_
      refine lv_istore (lv' := [(6, .int (0)), (5, .int (0)), (4, .ref (ad (w))), (0, .ref (ad (0))), (1, .int (a0)), (2, .int (a1)), (3, .int (a2))]) hx hb dX9_dark_33 hl (by decide) rfl (fun ls hl => ?_)
      have loop35 : ∀ (n : Nat) (x6_35 : Int32) (x5_35 : Int32) (Ia35 : MI) (La35 : ML) (H : Heap) (locs : List Loc) (ls : Array Slot), INV Ia35 → Kp [(11, 15), (21, 22), (111, 119)] [(10, 2), (10, 3), (10, 4), (10, 5), (10, 6), (10, 7), (10, 8), (10, 11), (10, 12), (20, 3), (110, 0), (110, 1), (110, 2), (110, 3), (110, 4), (110, 5), (110, 6), (110, 7), (110, 8), (110, 9)] I Ia35 → (0 ≤ x6_35.toInt ∧ x6_35.toInt ≤ 12) → (12 - x6_35.toInt).toNat < n → Mem D A ad ns Ia35 La35 G H → va_S A s.heap H locs → lv_has ls 7 [(6, .int (x6_35)), (5, .int (x5_35)), (4, .ref (ad (w))), (0, .ref (ad (0))), (1, .int (a0)), (2, .int (a1)), (3, .int (a2))] → W p l e ({ frames := 7, cells := 0, slots := 0, locals := 171 } : Room) s m args below meth c H locs 0 0 (MQ below (va_Qi (fun r u => ∃ I2 L2, u = (ad, ns, I2, L2, G) ∧ INV I2 ∧ Kp [(11, 15), (21, 22), (111, 119)] [(10, 2), (10, 3), (10, 4), (10, 5), (10, 6), (10, 7), (10, 8), (10, 11), (10, 12), (20, 3), (110, 0), (110, 1), (110, 2), (110, 3), (110, 4), (110, 5), (110, 6), (110, 7), (110, 8), (110, 9)] I I2) (BM D A) A) args s 0 0 A) (F0 m 35 ls []) := by
        intro n
        induction n with
        | zero =>
          intro x6_35 x5_35 Ia35 La35 H locs ls hI hK hr6_35 hmu
          exact absurd hmu (Nat.not_lt_zero _)
        | succ n ih35 =>
          intro x6_35 x5_35 Ia35 La35 H locs ls hI hK hr6_35 hmu35 hM hS hl
          refine lv_iload hx hb dX9_dark_35 (lv_at hl 0 rfl) ?_
          refine lv_bipush (v := (12)) hx hb dX9_dark_37 (by decide) ?_
          refine lv_icmp_ge (tgt := 105) hx hb dX9_dark_39 (by decide) (fun c6 => ?_) (fun c6 => ?_)
          · have hc6 := c6
            have q6 := q_le hc6
            refine lv_iload hx hb dX9_dark_105 (lv_at hl 1 rfl) ?_
            exact m_iret hx hb hr hlocks hM hS (Nat.le_of_ble_eq_true rfl) (Nat.le_of_ble_eq_true rfl) ⟨_, _, rfl, hI, hK⟩ dX9_dark_107
          · have hc6 := c6
            have q6 := q_nle hc6
            refine lv_aload_n hx hb dX9_dark_42 rfl (lv_at hl 3 rfl) ?_
            refine m_getr (0) 1 (110) hx hb hts hown hE oc9 hM (hG.1 0 (by decide)) rfl (by decide) rfl (hG.2 (0, 1, 110) (by decide)) (by decide) tb_399 dX9_dark_43 ?_
            refine lv_aload_n hx hb dX9_dark_46 rfl (lv_at hl 3 rfl) ?_
            refine m_getr (0) 0 (100) hx hb hts hown hE oc9 hM (hG.1 0 (by decide)) rfl (by decide) rfl (hG.2 (0, 0, 100) (by decide)) (by decide) tb_398 dX9_dark_47 ?_
            refine m_callv (m_runV (110) (As := [.ref (ad (100))]) (rest := []) hx hb hml hown hts hE hM hS hA ce_X8_copyFrom tb_1147 (V_X8_copyFrom_110_100 l D A ad ns Ia35 La35 G hG hI) rfl rfl ⟨Nat.le_of_ble_eq_true rfl, Nat.le_of_ble_eq_true rfl⟩ (hG.1 110 (by decide)) rfl rfl (by decide) rfl hl.1 rfl (Nat.le_of_ble_eq_true rfl) dX9_dark_50 ⟨Nat.le_of_ble_eq_true rfl, Nat.le_of_ble_eq_true rfl⟩) hS (fun u H locs hw hM hS => ?_)
            obtain ⟨I7, L8, rfl, hI, hkI7⟩ := hw
            have hM : Mem D A ad ns I7 L8 G H := hM
            have hK := hK.trans hkI7 rfl
            refine lv_aload_n hx hb dX9_dark_53 rfl (lv_at hl 3 rfl) ?_
            refine m_getr (0) 1 (110) hx hb hts hown hE oc9 hM (hG.1 0 (by decide)) rfl (by decide) rfl (hG.2 (0, 1, 110) (by decide)) (by decide) tb_399 dX9_dark_54 ?_
            refine lv_iload hx hb dX9_dark_57 (lv_at hl 0 rfl) ?_
            refine m_puti (110) 5 hx hb hts hown hE oc8 hM hS (hG.1 110 (by decide)) rfl (by decide) rfl rfl rfl rfl tb_53 dX9_dark_59 (fun H locs I9 eI9 hM hS => ?_)
            subst eI9
            have hI := hI.put (n := 110) (k := 5) (v := x6_35) (lo := 0) (hi := 11) rfl (by first | omega | decide)
            have hK := hK.put (n := 110) (k := 5) (v := x6_35) (by first | rfl | simp [inR])
            refine lv_aload_n hx hb dX9_dark_62 rfl (lv_at hl 3 rfl) ?_
            refine m_getr (0) 4 (20) hx hb hts hown hE oc9 hM (hG.1 0 (by decide)) rfl (by decide) rfl (hG.2 (0, 4, 20) (by decide)) (by decide) tb_402 dX9_dark_63 ?_
            refine lv_aload_n hx hb dX9_dark_66 rfl (lv_at hl 3 rfl) ?_
            refine m_getr (0) 1 (110) hx hb hts hown hE oc9 hM (hG.1 0 (by decide)) rfl (by decide) rfl (hG.2 (0, 1, 110) (by decide)) (by decide) tb_399 dX9_dark_67 ?_
            refine lv_aload hx hb dX9_dark_70 (lv_at hl 2 rfl) ?_
            refine lv_iconst (v := (0)) hx hb dX9_dark_72 (by decide) ?_
            refine m_calli (m_runV (20) (As := [.ref (ad (110)), .ref (ad (w)), .int (0)]) (rest := []) hx hb hml hown hts hE hM hS hA ce_X2_passDay tb_744 (V_X2_passDay_110 l D A ad ns (u2 I7 (110) 5 (x6_35)) L8 G (w) (0) hG hI hW (by first | omega | decide)) rfl rfl ⟨Nat.le_of_ble_eq_true rfl, Nat.le_of_ble_eq_true rfl⟩ (hG.1 20 (by decide)) rfl rfl (by decide) rfl hl.1 rfl (Nat.le_of_ble_eq_true rfl) dX9_dark_73 ⟨Nat.le_of_ble_eq_true rfl, Nat.le_of_ble_eq_true rfl⟩) hS (fun r10 u H locs hw hM hS => ?_)
            obtain ⟨I11, L12, rfl, hI, hkI11⟩ := hw
            have hM : Mem D A ad ns I11 L12 G H := hM
            have hK := hK.trans hkI11 rfl
            refine lv_pop hx hb dX9_dark_76 rfl ?_
            refine lv_aload_n hx hb dX9_dark_77 rfl (lv_at hl 3 rfl) ?_
            refine m_getr (0) 1 (110) hx hb hts hown hE oc9 hM (hG.1 0 (by decide)) rfl (by decide) rfl (hG.2 (0, 1, 110) (by decide)) (by decide) tb_399 dX9_dark_78 ?_
            refine lv_iload_n hx hb dX9_dark_81 rfl (lv_at hl 5 rfl) ?_
            refine lv_iconst (v := (0)) hx hb dX9_dark_82 (by decide) ?_
            refine m_calli (m_runV (110) (As := [.int (a1), .int (0)]) (rest := []) hx hb hml hown hts hE hM hS hA ce_X8_ofYard tb_897 (V_X8_ofYard_110 l D A ad ns I11 L12 G (a1) (0) hG hI (by first | omega | decide) (by first | omega | decide)) rfl rfl ⟨Nat.le_of_ble_eq_true rfl, Nat.le_of_ble_eq_true rfl⟩ (hG.1 110 (by decide)) rfl rfl (by decide) rfl hl.1 rfl (Nat.le_of_ble_eq_true rfl) dX9_dark_83 ⟨Nat.le_of_ble_eq_true rfl, Nat.le_of_ble_eq_true rfl⟩) hS (fun r13 u H locs hw hM hS => ?_)
            obtain ⟨rfl, xr13⟩ := hw
            have hM : Mem D A ad ns I11 L12 G H := hM
            refine lv_iload_n hx hb dX9_dark_86 rfl (lv_at hl 6 rfl) ?_
            refine lv_icmp_ge (tgt := 99) hx hb dX9_dark_87 (by decide) (fun c14 => ?_) (fun c14 => ?_)
            · have hc14 := c14
              have q14 := q_le hc14
              obtain ⟨v15, ev15⟩ : ∃ z : Int32, z = x6_35 + Int32.ofInt (1) := ⟨_, rfl⟩
              have tv15 := a_inc ev15 (by decide) (by omega) (by omega)
              refine lv_iinc (v := v15) (lv' := [(6, .int (v15)), (5, .int (x5_35)), (4, .ref (ad (w))), (0, .ref (ad (0))), (1, .int (a0)), (2, .int (a1)), (3, .int (a2))]) hx hb dX9_dark_99 hl (k := 0) rfl ev15.symm (by decide) rfl (fun ls hl => ?_)
              refine lv_goto (tgt := 35) hx hb dX9_dark_102 (by decide) ?_
              exact ih35 (v15) (x5_35) I11 L12 _ _ ls hI hK (by first | omega | decide) (by omega) hM hS (lv_sub hl [0, 1, 2, 3, 4, 5, 6] rfl)
            · have hc14 := c14
              have q14 := q_nle hc14
              refine lv_iload hx hb dX9_dark_90 (lv_at hl 1 rfl) ?_
              refine lv_iconst (v := (1)) hx hb dX9_dark_92 (by decide) ?_
              refine lv_iload hx hb dX9_dark_93 (lv_at hl 0 rfl) ?_
              refine lv_ishl hx hb dX9_dark_95 ?_
              refine lv_topi (fun v16 ev16 => ?_)
              refine lv_ior hx hb dX9_dark_96 ?_
              refine lv_topi (fun v17 ev17 => ?_)
              refine lv_istore (lv' := [(5, .int (v17)), (6, .int (x6_35)), (4, .ref (ad (w))), (0, .ref (ad (0))), (1, .int (a0)), (2, .int (a1)), (3, .int (a2))]) hx hb dX9_dark_97 hl (by decide) rfl (fun ls hl => ?_)
              obtain ⟨v18, ev18⟩ : ∃ z : Int32, z = x6_35 + Int32.ofInt (1) := ⟨_, rfl⟩
              have tv18 := a_inc ev18 (by decide) (by omega) (by omega)
              refine lv_iinc (v := v18) (lv' := [(6, .int (v18)), (5, .int (v17)), (4, .ref (ad (w))), (0, .ref (ad (0))), (1, .int (a0)), (2, .int (a1)), (3, .int (a2))]) hx hb dX9_dark_99 hl (k := 1) rfl ev18.symm (by decide) rfl (fun ls hl => ?_)
              refine lv_goto (tgt := 35) hx hb dX9_dark_102 (by decide) ?_
              exact ih35 (v18) (v17) I11 L12 _ _ ls hI hK (by first | omega | decide) (by omega) hM hS (lv_sub hl [0, 1, 2, 3, 4, 5, 6] rfl)
      exact loop35 (_ + 1) (0) (0) I L _ _ ls hI hK (by first | omega | decide) (Nat.lt_succ_self _) hM hS (lv_sub hl [0, 1, 2, 3, 4, 5, 6] rfl)
    · have hc5 := c5
      have q5 := q_nle hc5
      refine lv_iconst (v := (-1)) hx hb dX9_dark_27 (by decide) ?_
      exact m_iret hx hb hr hlocks hM hS (Nat.le_of_ble_eq_true rfl) (Nat.le_of_ble_eq_true rfl) ⟨_, _, rfl, hI, hK⟩ dX9_dark_28
theorem dX9_ahead_0 : decode cX9_ahead 0 = .ok (.aload_n 0, 1) := by decide +kernel
theorem dX9_ahead_1 : decode cX9_ahead 1 = .ok (.iload_n 1, 1) := by decide +kernel
theorem dX9_ahead_2 : decode cX9_ahead 2 = .ok (.invokevirtual 186, 3) := by decide +kernel
theorem dX9_ahead_5 : decode cX9_ahead 5 = .ok (.astore 4, 2) := by decide +kernel
theorem dX9_ahead_7 : decode cX9_ahead 7 = .ok (.aload 4, 2) := by decide +kernel
theorem dX9_ahead_9 : decode cX9_ahead 9 = .ok (.ifnull 23, 3) := by decide +kernel
theorem dX9_ahead_12 : decode cX9_ahead 12 = .ok (.aload_n 0, 1) := by decide +kernel
theorem dX9_ahead_13 : decode cX9_ahead 13 = .ok (.getfield 10, 3) := by decide +kernel
theorem dX9_ahead_16 : decode cX9_ahead 16 = .ok (.invokevirtual 111, 3) := by decide +kernel
theorem dX9_ahead_19 : decode cX9_ahead 19 = .ok (.ifCond .eq 13, 3) := by decide +kernel
theorem dX9_ahead_22 : decode cX9_ahead 22 = .ok (.iload_n 2, 1) := by decide +kernel
theorem dX9_ahead_23 : decode cX9_ahead 23 = .ok (.iconst 1, 1) := by decide +kernel
theorem dX9_ahead_24 : decode cX9_ahead 24 = .ok (.bipush 10, 2) := by decide +kernel
theorem dX9_ahead_26 : decode cX9_ahead 26 = .ok (.invokestatic 95, 3) := by decide +kernel
theorem dX9_ahead_29 : decode cX9_ahead 29 = .ok (.ifCond .ne 6, 3) := by decide +kernel
theorem dX9_ahead_32 : decode cX9_ahead 32 = .ok (.bipush (-3), 2) := by decide +kernel
theorem dX9_ahead_34 : decode cX9_ahead 34 = .ok (.ireturn, 1) := by decide +kernel
theorem dX9_ahead_35 : decode cX9_ahead 35 = .ok (.iload_n 3, 1) := by decide +kernel
theorem dX9_ahead_36 : decode cX9_ahead 36 = .ok (.bipush (-2), 2) := by decide +kernel
theorem dX9_ahead_38 : decode cX9_ahead 38 = .ok (.aload_n 0, 1) := by decide +kernel
theorem dX9_ahead_39 : decode cX9_ahead 39 = .ok (.getfield 10, 3) := by decide +kernel
theorem dX9_ahead_42 : decode cX9_ahead 42 = .ok (.getfield 152, 3) := by decide +kernel
theorem dX9_ahead_45 : decode cX9_ahead 45 = .ok (.iconst 1, 1) := by decide +kernel
theorem dX9_ahead_46 : decode cX9_ahead 46 = .ok (.isub, 1) := by decide +kernel
theorem dX9_ahead_47 : decode cX9_ahead 47 = .ok (.invokestatic 95, 3) := by decide +kernel
theorem dX9_ahead_50 : decode cX9_ahead 50 = .ok (.ifCond .ne 6, 3) := by decide +kernel
theorem dX9_ahead_53 : decode cX9_ahead 53 = .ok (.bipush (-3), 2) := by decide +kernel
theorem dX9_ahead_55 : decode cX9_ahead 55 = .ok (.ireturn, 1) := by decide +kernel
theorem dX9_ahead_56 : decode cX9_ahead 56 = .ok (.aload_n 0, 1) := by decide +kernel
theorem dX9_ahead_57 : decode cX9_ahead 57 = .ok (.getfield 16, 3) := by decide +kernel
theorem dX9_ahead_60 : decode cX9_ahead 60 = .ok (.aload_n 0, 1) := by decide +kernel
theorem dX9_ahead_61 : decode cX9_ahead 61 = .ok (.getfield 10, 3) := by decide +kernel
theorem dX9_ahead_64 : decode cX9_ahead 64 = .ok (.invokevirtual 320, 3) := by decide +kernel
theorem dX9_ahead_67 : decode cX9_ahead 67 = .ok (.iconst 0, 1) := by decide +kernel
theorem dX9_ahead_68 : decode cX9_ahead 68 = .ok (.istore 5, 2) := by decide +kernel
theorem dX9_ahead_70 : decode cX9_ahead 70 = .ok (.iconst 0, 1) := by decide +kernel
theorem dX9_ahead_71 : decode cX9_ahead 71 = .ok (.istore 6, 2) := by decide +kernel
theorem dX9_ahead_73 : decode cX9_ahead 73 = .ok (.iload 6, 2) := by decide +kernel
theorem dX9_ahead_75 : decode cX9_ahead 75 = .ok (.iload_n 2, 1) := by decide +kernel
theorem dX9_ahead_76 : decode cX9_ahead 76 = .ok (.if_icmp .ge 37, 3) := by decide +kernel
theorem dX9_ahead_79 : decode cX9_ahead 79 = .ok (.iload 5, 2) := by decide +kernel
theorem dX9_ahead_81 : decode cX9_ahead 81 = .ok (.aload_n 0, 1) := by decide +kernel
theorem dX9_ahead_82 : decode cX9_ahead 82 = .ok (.getfield 35, 3) := by decide +kernel
theorem dX9_ahead_85 : decode cX9_ahead 85 = .ok (.aload_n 0, 1) := by decide +kernel
theorem dX9_ahead_86 : decode cX9_ahead 86 = .ok (.getfield 16, 3) := by decide +kernel
theorem dX9_ahead_89 : decode cX9_ahead 89 = .ok (.aload 4, 2) := by decide +kernel
theorem dX9_ahead_91 : decode cX9_ahead 91 = .ok (.iload_n 3, 1) := by decide +kernel
theorem dX9_ahead_92 : decode cX9_ahead 92 = .ok (.iconst (-1), 1) := by decide +kernel
theorem dX9_ahead_93 : decode cX9_ahead 93 = .ok (.if_icmp .ne 7, 3) := by decide +kernel
theorem dX9_ahead_96 : decode cX9_ahead 96 = .ok (.iconst 1, 1) := by decide +kernel
theorem dX9_ahead_97 : decode cX9_ahead 97 = .ok (.goto 4, 3) := by decide +kernel
theorem dX9_ahead_100 : decode cX9_ahead 100 = .ok (.iconst 0, 1) := by decide +kernel
theorem dX9_ahead_101 : decode cX9_ahead 101 = .ok (.invokevirtual 193, 3) := by decide +kernel
theorem dX9_ahead_104 : decode cX9_ahead 104 = .ok (.iadd, 1) := by decide +kernel
theorem dX9_ahead_105 : decode cX9_ahead 105 = .ok (.istore 5, 2) := by decide +kernel
theorem dX9_ahead_107 : decode cX9_ahead 107 = .ok (.iinc 6 1, 3) := by decide +kernel
theorem dX9_ahead_110 : decode cX9_ahead 110 = .ok (.goto (-37), 3) := by decide +kernel
theorem dX9_ahead_113 : decode cX9_ahead 113 = .ok (.iload_n 3, 1) := by decide +kernel
theorem dX9_ahead_114 : decode cX9_ahead 114 = .ok (.bipush (-2), 2) := by decide +kernel
theorem dX9_ahead_116 : decode cX9_ahead 116 = .ok (.if_icmp .ne 11, 3) := by decide +kernel
theorem dX9_ahead_119 : decode cX9_ahead 119 = .ok (.aload_n 0, 1) := by decide +kernel
theorem dX9_ahead_120 : decode cX9_ahead 120 = .ok (.getfield 16, 3) := by decide +kernel
theorem dX9_ahead_123 : decode cX9_ahead 123 = .ok (.invokevirtual 197, 3) := by decide +kernel
theorem dX9_ahead_126 : decode cX9_ahead 126 = .ok (.ireturn, 1) := by decide +kernel
theorem dX9_ahead_127 : decode cX9_ahead 127 = .ok (.iload_n 3, 1) := by decide +kernel
theorem dX9_ahead_128 : decode cX9_ahead 128 = .ok (.iconst (-1), 1) := by decide +kernel
theorem dX9_ahead_129 : decode cX9_ahead 129 = .ok (.if_icmp .ne 8, 3) := by decide +kernel
theorem dX9_ahead_132 : decode cX9_ahead 132 = .ok (.iload 5, 2) := by decide +kernel
theorem dX9_ahead_134 : decode cX9_ahead 134 = .ok (.goto 12, 3) := by decide +kernel
theorem dX9_ahead_137 : decode cX9_ahead 137 = .ok (.aload_n 0, 1) := by decide +kernel
theorem dX9_ahead_138 : decode cX9_ahead 138 = .ok (.getfield 16, 3) := by decide +kernel
theorem dX9_ahead_141 : decode cX9_ahead 141 = .ok (.iload_n 3, 1) := by decide +kernel
theorem dX9_ahead_142 : decode cX9_ahead 142 = .ok (.iconst 0, 1) := by decide +kernel
theorem dX9_ahead_143 : decode cX9_ahead 143 = .ok (.invokevirtual 207, 3) := by decide +kernel
theorem dX9_ahead_146 : decode cX9_ahead 146 = .ok (.ireturn, 1) := by decide +kernel
theorem ce_X9_ahead : CeV RX9 yX9_ahead cX9_ahead 7 (some .int) 3 := ⟨tb_1153, tb_1154, tb_1, tb_1155, rfl, by decide, by decide, by decide +kernel⟩
set_option maxHeartbeats 4000000 in
set_option maxRecDepth 20000 in
theorem V_X9_ahead (l : Launch) (D : va_G) (A : Nat → Prop) (ad : Nat → Nat) (ns : List Nat) (I : MI) (L : ML) (G : MG) (a0 : Int32) (a1 : Int32) (a2 : Int32) (hG : SGC ns G) (hI : INV I) (hL : LWS ns I G) : Met l yX9_ahead (wd yX9_ahead cX9_ahead 7 (some .int)) ({ frames := 7, cells := 0, slots := 0, locals := 171 }) (va_Pc [.ref (ad (0)), .int a0, .int a1, .int a2] (PM D A ad ns I L G)) (va_Qi (fun r u => ∃ I2 L2, u = (ad, ns, I2, L2, G) ∧ INV I2 ∧ Kp [(11, 15), (21, 22), (111, 119)] [(10, 2), (10, 3), (10, 4), (10, 5), (10, 6), (10, 7), (10, 8), (10, 11), (10, 12), (20, 3), (110, 0), (110, 1), (110, 2), (110, 3), (110, 4), (110, 5), (110, 6), (110, 7), (110, 8), (110, 9)] I I2) (BM D A) A) 0 0 A := by
  refine m_ofW (by decide) (Nat.le_of_ble_eq_true rfl) ?_
  intro p e s m below meth c ls args hC hE hM hA hS hl
  obtain ⟨hx, hb, hml, hown, hts, hr, hlocks, hin⟩ := hC
  have km3 : (-3 : Int32).toInt = -3 := by decide
  have km2 : (-2 : Int32).toInt = -2 := by decide
  have km1 : (-1 : Int32).toInt = -1 := by decide
  have k0 : (0 : Int32).toInt = 0 := by decide
  have k1 : (1 : Int32).toInt = 1 := by decide
  have k10 : (10 : Int32).toInt = 10 := by decide
  have hK : Kp [(11, 15), (21, 22), (111, 119)] [(10, 2), (10, 3), (10, 4), (10, 5), (10, 6), (10, 7), (10, 8), (10, 11), (10, 12), (20, 3), (110, 0), (110, 1), (110, 2), (110, 3), (110, 4), (110, 5), (110, 6), (110, 7), (110, 8), (110, 9)] I I := Kp.rf
  have hl : lv_has ls 7 [(0, .ref (ad (0))), (1, .int (a0)), (2, .int (a1)), (3, .int (a2))] := hl
  refine lv_aload_n hx hb dX9_ahead_0 rfl (lv_at hl 0 rfl) ?_
  refine lv_iload_n hx hb dX9_ahead_1 rfl (lv_at hl 1 rfl) ?_
  refine m_callq (m_runV (0) (As := [.int (a0)]) (rest := []) hx hb hml hown hts hE hM hS hA ce_X9_findLaw tb_740 (V_X9_findLaw l D A ad ns I L G (a0) hG hI hL) rfl rfl ⟨Nat.le_of_ble_eq_true rfl, Nat.le_of_ble_eq_true rfl⟩ (hG.1 0 (by decide)) rfl rfl (by decide) rfl hl.1 rfl (Nat.le_of_ble_eq_true rfl) dX9_ahead_2 ⟨Nat.le_of_ble_eq_true rfl, Nat.le_of_ble_eq_true rfl⟩) hS (fun r1 u H locs hw hM hS => ?_)
  obtain ⟨rfl, xr1⟩ := hw
  have hM : Mem D A ad ns I L G H := hM
  rcases xr1 with rfl | ⟨w, rfl, hW⟩
  · have hM := hM
    refine lv_astoreN (lv' := [(4, .null), (0, .ref (ad (0))), (1, .int (a0)), (2, .int (a1)), (3, .int (a2))]) hx hb dX9_ahead_5 hl (by decide) rfl (fun ls hl => ?_)
    refine lv_aloadN hx hb dX9_ahead_7 (lv_at hl 0 rfl) ?_
    refine lv_ifnullN (tgt := 32) hx hb dX9_ahead_9 (by decide) ?_
    refine lv_bipush (v := (-3)) hx hb dX9_ahead_32 (by decide) ?_
    exact m_iret hx hb hr hlocks hM hS (Nat.le_of_ble_eq_true rfl) (Nat.le_of_ble_eq_true rfl) ⟨_, _, rfl, hI, hK⟩ dX9_ahead_34
  refine lv_astore (lv' := [(4, .ref (ad (w))), (0, .ref (ad (0))), (1, .int (a0)), (2, .int (a1)), (3, .int (a2))]) hx hb dX9_ahead_5 hl (by decide) rfl (fun ls hl => ?_)
  refine lv_aload hx hb dX9_ahead_7 (lv_at hl 0 rfl) ?_
  refine lv_ifnull hx hb dX9_ahead_9 ?_
  refine lv_aload_n hx hb dX9_ahead_12 rfl (lv_at hl 1 rfl) ?_
  refine m_getr (0) 0 (100) hx hb hts hown hE oc9 hM (hG.1 0 (by decide)) rfl (by decide) rfl (hG.2 (0, 0, 100) (by decide)) (by decide) tb_398 dX9_ahead_13 ?_
  refine m_calli (m_runV (100) (As := []) (rest := []) hx hb hml hown hts hE hM hS hA ce_X8_isBegun tb_484 (V_X8_isBegun_100 l D A ad ns I L G hG hI) rfl rfl ⟨Nat.le_of_ble_eq_true rfl, Nat.le_of_ble_eq_true rfl⟩ (hG.1 100 (by decide)) rfl rfl (by decide) rfl hl.1 rfl (Nat.le_of_ble_eq_true rfl) dX9_ahead_16 ⟨Nat.le_of_ble_eq_true rfl, Nat.le_of_ble_eq_true rfl⟩) hS (fun r2 u H locs hw hM hS => ?_)
  obtain ⟨rfl, xr2⟩ := hw
  have hM : Mem D A ad ns I L G H := hM
  have yr2 := bo01 xr2
  refine lv_if_eq (tgt := 32) hx hb dX9_ahead_19 (by decide) (fun c3 => ?_) (fun c3 => ?_)
  · have hc3 := c3
    have q3 := xr2.f hc3
    refine lv_bipush (v := (-3)) hx hb dX9_ahead_32 (by decide) ?_
    exact m_iret hx hb hr hlocks hM hS (Nat.le_of_ble_eq_true rfl) (Nat.le_of_ble_eq_true rfl) ⟨_, _, rfl, hI, hK⟩ dX9_ahead_34
  · have hc3 := c3
    have q3 := xr2.t hc3
    refine lv_iload_n hx hb dX9_ahead_22 rfl (lv_at hl 3 rfl) ?_
    refine lv_iconst (v := (1)) hx hb dX9_ahead_23 (by decide) ?_
    refine lv_bipush (v := (10)) hx hb dX9_ahead_24 (by decide) ?_
    refine m_calli (m_runS (As := [.int (a1), .int (1), .int (10)]) (rest := []) hx hb hml hown hts hE hM hS hA ce_X9_isWithin tb_451 (V_X9_isWithin l D A ad ns I L G (a1) (1) (10) hI) rfl rfl ⟨Nat.le_of_ble_eq_true rfl, Nat.le_of_ble_eq_true rfl⟩  rfl hl.1 rfl (Nat.le_of_ble_eq_true rfl) dX9_ahead_26 ⟨Nat.le_of_ble_eq_true rfl, Nat.le_of_ble_eq_true rfl⟩) hS (fun r4 u H locs hw hM hS => ?_)
    obtain ⟨rfl, xr4⟩ := hw
    have hM : Mem D A ad ns I L G H := hM
    have yr4 := bo01 xr4
    refine lv_if_ne (tgt := 35) hx hb dX9_ahead_29 (by decide) (fun c5 => ?_) (fun c5 => ?_)
    · have hc5 := c5
      have q5 := xr4.t hc5
      refine lv_iload_n hx hb dX9_ahead_35 rfl (lv_at hl 4 rfl) ?_
      refine lv_bipush (v := (-2)) hx hb dX9_ahead_36 (by decide) ?_
      refine lv_aload_n hx hb dX9_ahead_38 rfl (lv_at hl 1 rfl) ?_
      refine m_getr (0) 0 (100) hx hb hts hown hE oc9 hM (hG.1 0 (by decide)) rfl (by decide) rfl (hG.2 (0, 0, 100) (by decide)) (by decide) tb_398 dX9_ahead_39 ?_
      refine m_geti (100) 9 hx hb hts hown hE oc8 hM (hG.1 100 (by decide)) rfl (by decide) rfl tb_64 dX9_ahead_42 ?_
      have g6 := hI.get (100) 9 (lo := 0) (hi := 8) rfl
      refine lv_iconst (v := (1)) hx hb dX9_ahead_45 (by decide) ?_
      refine lv_isub hx hb dX9_ahead_46 ?_
      refine lv_topi (fun v7 ev7 => ?_)
      have tv7 := a_sub ev7 (by omega) (by omega)
      refine m_calli (m_runS (As := [.int (a2), .int ((-2 : Int32)), .int (v7)]) (rest := []) hx hb hml hown hts hE hM hS hA ce_X9_isWithin tb_451 (V_X9_isWithin l D A ad ns I L G (a2) ((-2 : Int32)) (v7) hI) rfl rfl ⟨Nat.le_of_ble_eq_true rfl, Nat.le_of_ble_eq_true rfl⟩  rfl hl.1 rfl (Nat.le_of_ble_eq_true rfl) dX9_ahead_47 ⟨Nat.le_of_ble_eq_true rfl, Nat.le_of_ble_eq_true rfl⟩) hS (fun r8 u H locs hw hM hS => ?_)
      obtain ⟨rfl, xr8⟩ := hw
      have hM : Mem D A ad ns I L G H := hM
      have yr8 := bo01 xr8
      refine lv_if_ne (tgt := 56) hx hb dX9_ahead_50 (by decide) (fun c9 => ?_) (fun c9 => ?_)
      · have hc9 := c9
        have q9 := xr8.t hc9
        refine lv_aload_n hx hb dX9_ahead_56 rfl (lv_at hl 1 rfl) ?_
        refine m_getr (0) 1 (110) hx hb hts hown hE oc9 hM (hG.1 0 (by decide)) rfl (by decide) rfl (hG.2 (0, 1, 110) (by decide)) (by decide) tb_399 dX9_ahead_57 ?_
        refine lv_aload_n hx hb dX9_ahead_60 rfl (lv_at hl 1 rfl) ?_
        refine m_getr (0) 0 (100) hx hb hts hown hE oc9 hM (hG.1 0 (by decide)) rfl (by decide) rfl (hG.2 (0, 0, 100) (by decide)) (by decide) tb_398 dX9_ahead_61 ?_
        refine m_callv (m_runV (110) (As := [.ref (ad (100))]) (rest := []) hx hb hml hown hts hE hM hS hA ce_X8_copyFrom tb_1147 (V_X8_copyFrom_110_100 l D A ad ns I L G hG hI) rfl rfl ⟨Nat.le_of_ble_eq_true rfl, Nat.le_of_ble_eq_true rfl⟩ (hG.1 110 (by decide)) rfl rfl (by decide) rfl hl.1 rfl (Nat.le_of_ble_eq_true rfl) dX9_ahead_64 ⟨Nat.le_of_ble_eq_true rfl, Nat.le_of_ble_eq_true rfl⟩) hS (fun u H locs hw hM hS => ?_)
        obtain ⟨I10, L11, rfl, hI, hkI10⟩ := hw
        have hM : Mem D A ad ns I10 L11 G H := hM
        have hK := hK.trans hkI10 rfl
        refine lv_iconst (v := (0)) hx hb dX9_ahead_67 (by decide) ?_
        refine lv_istore (lv' := [(5, .int (0)), (4, .ref (ad (w))), (0, .ref (ad (0))), (1, .int (a0)), (2, .int (a1)), (3, .int (a2))]) hx hb dX9_ahead_68 hl (by decide) rfl (fun ls hl => ?_)
        refine lv_iconst (v := (0)) hx hb dX9_ahead_70 (by decide) ?_
        refine lv_istore (lv' := [(6, .int (0)), (5, .int (0)), (4, .ref (ad (w))), (0, .ref (ad (0))), (1, .int (a0)), (2, .int (a1)), (3, .int (a2))]) hx hb dX9_ahead_71 hl (by decide) rfl (fun ls hl => ?_)
        have loop73 : ∀ (n : Nat) (x6_73 : Int32) (x5_73 : Int32) (Ia73 : MI) (La73 : ML) (H : Heap) (locs : List Loc) (ls : Array Slot), INV Ia73 → Kp [(11, 15), (21, 22), (111, 119)] [(10, 2), (10, 3), (10, 4), (10, 5), (10, 6), (10, 7), (10, 8), (10, 11), (10, 12), (20, 3), (110, 0), (110, 1), (110, 2), (110, 3), (110, 4), (110, 5), (110, 6), (110, 7), (110, 8), (110, 9)] I Ia73 → (0 ≤ x6_73.toInt ∧ x6_73.toInt ≤ 10) → (10 - x6_73.toInt).toNat < n → Mem D A ad ns Ia73 La73 G H → va_S A s.heap H locs → lv_has ls 7 [(6, .int (x6_73)), (5, .int (x5_73)), (4, .ref (ad (w))), (0, .ref (ad (0))), (1, .int (a0)), (2, .int (a1)), (3, .int (a2))] → W p l e ({ frames := 7, cells := 0, slots := 0, locals := 171 } : Room) s m args below meth c H locs 0 0 (MQ below (va_Qi (fun r u => ∃ I2 L2, u = (ad, ns, I2, L2, G) ∧ INV I2 ∧ Kp [(11, 15), (21, 22), (111, 119)] [(10, 2), (10, 3), (10, 4), (10, 5), (10, 6), (10, 7), (10, 8), (10, 11), (10, 12), (20, 3), (110, 0), (110, 1), (110, 2), (110, 3), (110, 4), (110, 5), (110, 6), (110, 7), (110, 8), (110, 9)] I I2) (BM D A) A) args s 0 0 A) (F0 m 73 ls []) := by
          intro n
          induction n with
          | zero =>
            intro x6_73 x5_73 Ia73 La73 H locs ls hI hK hr6_73 hmu
            exact absurd hmu (Nat.not_lt_zero _)
          | succ n ih73 =>
            intro x6_73 x5_73 Ia73 La73 H locs ls hI hK hr6_73 hmu73 hM hS hl
            refine lv_iload hx hb dX9_ahead_73 (lv_at hl 0 rfl) ?_
            refine lv_iload_n hx hb dX9_ahead_75 rfl (lv_at hl 5 rfl) ?_
            refine lv_icmp_ge (tgt := 113) hx hb dX9_ahead_76 (by decide) (fun c12 => ?_) (fun c12 => ?_)
            · have hc12 := c12
              have q12 := q_le hc12
              refine lv_iload_n hx hb dX9_ahead_113 rfl (lv_at hl 6 rfl) ?_
              refine lv_bipush (v := (-2)) hx hb dX9_ahead_114 (by decide) ?_
              refine lv_icmp_ne (tgt := 127) hx hb dX9_ahead_116 (by decide) (fun c13 => ?_) (fun c13 => ?_)
              · have hc13 := c13
                have q13 := q_ne hc13
                refine lv_iload_n hx hb dX9_ahead_127 rfl (lv_at hl 6 rfl) ?_
                refine lv_iconst (v := (-1)) hx hb dX9_ahead_128 (by decide) ?_
                refine lv_icmp_ne (tgt := 137) hx hb dX9_ahead_129 (by decide) (fun c14 => ?_) (fun c14 => ?_)
                · have hc14 := c14
                  have q14 := q_ne hc14
                  refine lv_aload_n hx hb dX9_ahead_137 rfl (lv_at hl 3 rfl) ?_
                  refine m_getr (0) 1 (110) hx hb hts hown hE oc9 hM (hG.1 0 (by decide)) rfl (by decide) rfl (hG.2 (0, 1, 110) (by decide)) (by decide) tb_399 dX9_ahead_138 ?_
                  refine lv_iload_n hx hb dX9_ahead_141 rfl (lv_at hl 6 rfl) ?_
                  refine lv_iconst (v := (0)) hx hb dX9_ahead_142 (by decide) ?_
                  refine m_calli (m_runV (110) (As := [.int (a2), .int (0)]) (rest := []) hx hb hml hown hts hE hM hS hA ce_X8_ofYard tb_897 (V_X8_ofYard_110 l D A ad ns Ia73 La73 G (a2) (0) hG hI (by first | omega | decide) (by first | omega | decide)) rfl rfl ⟨Nat.le_of_ble_eq_true rfl, Nat.le_of_ble_eq_true rfl⟩ (hG.1 110 (by decide)) rfl rfl (by decide) rfl hl.1 rfl (Nat.le_of_ble_eq_true rfl) dX9_ahead_143 ⟨Nat.le_of_ble_eq_true rfl, Nat.le_of_ble_eq_true rfl⟩) hS (fun r15 u H locs hw hM hS => ?_)
                  obtain ⟨rfl, xr15⟩ := hw
                  have hM : Mem D A ad ns Ia73 La73 G H := hM
                  exact m_iret hx hb hr hlocks hM hS (Nat.le_of_ble_eq_true rfl) (Nat.le_of_ble_eq_true rfl) ⟨_, _, rfl, hI, hK⟩ dX9_ahead_146
                · have hc14 := c14
                  have q14 := q_eq hc14
                  refine lv_iload hx hb dX9_ahead_132 (lv_at hl 1 rfl) ?_
                  refine lv_goto (tgt := 146) hx hb dX9_ahead_134 (by decide) ?_
                  exact m_iret hx hb hr hlocks hM hS (Nat.le_of_ble_eq_true rfl) (Nat.le_of_ble_eq_true rfl) ⟨_, _, rfl, hI, hK⟩ dX9_ahead_146
              · have hc13 := c13
                have q13 := q_eq hc13
                refine lv_aload_n hx hb dX9_ahead_119 rfl (lv_at hl 3 rfl) ?_
                refine m_getr (0) 1 (110) hx hb hts hown hE oc9 hM (hG.1 0 (by decide)) rfl (by decide) rfl (hG.2 (0, 1, 110) (by decide)) (by decide) tb_399 dX9_ahead_120 ?_
                refine m_calli (m_runV (110) (As := []) (rest := []) hx hb hml hown hts hE hM hS hA ce_X8_metCount tb_880 (V_X8_metCount_110 l D A ad ns Ia73 La73 G hG hI) rfl rfl ⟨Nat.le_of_ble_eq_true rfl, Nat.le_of_ble_eq_true rfl⟩ (hG.1 110 (by decide)) rfl rfl (by decide) rfl hl.1 rfl (Nat.le_of_ble_eq_true rfl) dX9_ahead_123 ⟨Nat.le_of_ble_eq_true rfl, Nat.le_of_ble_eq_true rfl⟩) hS (fun r16 u H locs hw hM hS => ?_)
                obtain ⟨rfl, xr16⟩ := hw
                have hM : Mem D A ad ns Ia73 La73 G H := hM
                exact m_iret hx hb hr hlocks hM hS (Nat.le_of_ble_eq_true rfl) (Nat.le_of_ble_eq_true rfl) ⟨_, _, rfl, hI, hK⟩ dX9_ahead_126
            · have hc12 := c12
              have q12 := q_nle hc12
              refine lv_iload hx hb dX9_ahead_79 (lv_at hl 1 rfl) ?_
              refine lv_aload_n hx hb dX9_ahead_81 rfl (lv_at hl 3 rfl) ?_
              refine m_getr (0) 4 (20) hx hb hts hown hE oc9 hM (hG.1 0 (by decide)) rfl (by decide) rfl (hG.2 (0, 4, 20) (by decide)) (by decide) tb_402 dX9_ahead_82 ?_
              refine lv_aload_n hx hb dX9_ahead_85 rfl (lv_at hl 3 rfl) ?_
              refine m_getr (0) 1 (110) hx hb hts hown hE oc9 hM (hG.1 0 (by decide)) rfl (by decide) rfl (hG.2 (0, 1, 110) (by decide)) (by decide) tb_399 dX9_ahead_86 ?_
              refine lv_aload hx hb dX9_ahead_89 (lv_at hl 2 rfl) ?_
              refine lv_iload_n hx hb dX9_ahead_91 rfl (lv_at hl 6 rfl) ?_
              refine lv_iconst (v := (-1)) hx hb dX9_ahead_92 (by decide) ?_
              refine lv_icmp_ne (tgt := 100) hx hb dX9_ahead_93 (by decide) (fun c17 => ?_) (fun c17 => ?_)
              · have hc17 := c17
                have q17 := q_ne hc17
                refine lv_iconst (v := (0)) hx hb dX9_ahead_100 (by decide) ?_
                refine m_calli (m_runV (20) (As := [.ref (ad (110)), .ref (ad (w)), .int (0)]) (rest := [.int (x5_73)]) hx hb hml hown hts hE hM hS hA ce_X2_passDay tb_744 (V_X2_passDay_110 l D A ad ns Ia73 La73 G (w) (0) hG hI hW (by first | omega | decide)) rfl rfl ⟨Nat.le_of_ble_eq_true rfl, Nat.le_of_ble_eq_true rfl⟩ (hG.1 20 (by decide)) rfl rfl (by decide) rfl hl.1 rfl (Nat.le_of_ble_eq_true rfl) dX9_ahead_101 ⟨Nat.le_of_ble_eq_true rfl, Nat.le_of_ble_eq_true rfl⟩) hS (fun r18 u H locs hw hM hS => ?_)
                obtain ⟨I19, L20, rfl, hI, hkI19⟩ := hw
                have hM : Mem D A ad ns I19 L20 G H := hM
                have hK := hK.trans hkI19 rfl
                refine lv_iadd hx hb dX9_ahead_104 ?_
                refine lv_topi (fun v21 ev21 => ?_)
                refine lv_istore (lv' := [(5, .int (v21)), (6, .int (x6_73)), (4, .ref (ad (w))), (0, .ref (ad (0))), (1, .int (a0)), (2, .int (a1)), (3, .int (a2))]) hx hb dX9_ahead_105 hl (by decide) rfl (fun ls hl => ?_)
                obtain ⟨v22, ev22⟩ : ∃ z : Int32, z = x6_73 + Int32.ofInt (1) := ⟨_, rfl⟩
                have tv22 := a_inc ev22 (by decide) (by omega) (by omega)
                refine lv_iinc (v := v22) (lv' := [(6, .int (v22)), (5, .int (v21)), (4, .ref (ad (w))), (0, .ref (ad (0))), (1, .int (a0)), (2, .int (a1)), (3, .int (a2))]) hx hb dX9_ahead_107 hl (k := 1) rfl ev22.symm (by decide) rfl (fun ls hl => ?_)
                refine lv_goto (tgt := 73) hx hb dX9_ahead_110 (by decide) ?_
                exact ih73 (v22) (v21) I19 L20 _ _ ls hI hK (by first | omega | decide) (by omega) hM hS (lv_sub hl [0, 1, 2, 3, 4, 5, 6] rfl)
              · have hc17 := c17
                have q17 := q_eq hc17
                refine lv_iconst (v := (1)) hx hb dX9_ahead_96 (by decide) ?_
                refine lv_goto (tgt := 101) hx hb dX9_ahead_97 (by decide) ?_
                refine m_calli (m_runV (20) (As := [.ref (ad (110)), .ref (ad (w)), .int (1)]) (rest := [.int (x5_73)]) hx hb hml hown hts hE hM hS hA ce_X2_passDay tb_744 (V_X2_passDay_110 l D A ad ns Ia73 La73 G (w) (1) hG hI hW (by first | omega | decide)) rfl rfl ⟨Nat.le_of_ble_eq_true rfl, Nat.le_of_ble_eq_true rfl⟩ (hG.1 20 (by decide)) rfl rfl (by decide) rfl hl.1 rfl (Nat.le_of_ble_eq_true rfl) dX9_ahead_101 ⟨Nat.le_of_ble_eq_true rfl, Nat.le_of_ble_eq_true rfl⟩) hS (fun r23 u H locs hw hM hS => ?_)
                obtain ⟨I24, L25, rfl, hI, hkI24⟩ := hw
                have hM : Mem D A ad ns I24 L25 G H := hM
                have hK := hK.trans hkI24 rfl
                refine lv_iadd hx hb dX9_ahead_104 ?_
                refine lv_topi (fun v26 ev26 => ?_)
                refine lv_istore (lv' := [(5, .int (v26)), (6, .int (x6_73)), (4, .ref (ad (w))), (0, .ref (ad (0))), (1, .int (a0)), (2, .int (a1)), (3, .int (a2))]) hx hb dX9_ahead_105 hl (by decide) rfl (fun ls hl => ?_)
                obtain ⟨v27, ev27⟩ : ∃ z : Int32, z = x6_73 + Int32.ofInt (1) := ⟨_, rfl⟩
                have tv27 := a_inc ev27 (by decide) (by omega) (by omega)
                refine lv_iinc (v := v27) (lv' := [(6, .int (v27)), (5, .int (v26)), (4, .ref (ad (w))), (0, .ref (ad (0))), (1, .int (a0)), (2, .int (a1)), (3, .int (a2))]) hx hb dX9_ahead_107 hl (k := 1) rfl ev27.symm (by decide) rfl (fun ls hl => ?_)
                refine lv_goto (tgt := 73) hx hb dX9_ahead_110 (by decide) ?_
                exact ih73 (v27) (v26) I24 L25 _ _ ls hI hK (by first | omega | decide) (by omega) hM hS (lv_sub hl [0, 1, 2, 3, 4, 5, 6] rfl)
        exact loop73 (_ + 1) (0) (0) I10 L11 _ _ ls hI hK (by first | omega | decide) (Nat.lt_succ_self _) hM hS (lv_sub hl [0, 1, 2, 3, 4, 5, 6] rfl)
      · have hc9 := c9
        have q9 := xr8.f hc9
        refine lv_bipush (v := (-3)) hx hb dX9_ahead_53 (by decide) ?_
        exact m_iret hx hb hr hlocks hM hS (Nat.le_of_ble_eq_true rfl) (Nat.le_of_ble_eq_true rfl) ⟨_, _, rfl, hI, hK⟩ dX9_ahead_55
    · have hc5 := c5
      have q5 := xr4.f hc5
      refine lv_bipush (v := (-3)) hx hb dX9_ahead_32 (by decide) ?_
      exact m_iret hx hb hr hlocks hM hS (Nat.le_of_ble_eq_true rfl) (Nat.le_of_ble_eq_true rfl) ⟨_, _, rfl, hI, hK⟩ dX9_ahead_34
theorem begin_inv {I : MI} {w h x y a : Int32} (hI : INV I) (hT : okT w h x y a) : INV (beginI I 100 w h x y a) := by
  obtain ⟨h1, h2, h3, h4, h5, h6, h7, h8, h9, h10⟩ := hT
  have hI := hI.put (n := 100) (k := 0) (v := w) (lo := 0) (hi := 24) rfl (by first | omega | decide)
  have hI := hI.put (n := 100) (k := 1) (v := h) (lo := 0) (hi := 24) rfl (by first | omega | decide)
  have hI := hI.put (n := 100) (k := 2) (v := x) (lo := 0) (hi := 23) rfl (by first | omega | decide)
  have hI := hI.put (n := 100) (k := 3) (v := y) (lo := 0) (hi := 23) rfl (by first | omega | decide)
  have hI := hI.putF (n := 100) (k := 4) (v := a) rfl
  have hI := hI.put (n := 100) (k := 5) (v := 0) (lo := 0) (hi := 11) rfl (by first | omega | decide)
  have hI := hI.putF (n := 100) (k := 6) (v := 0) rfl
  have hI := hI.putF (n := 100) (k := 7) (v := 0) rfl
  have hI := hI.put (n := 100) (k := 8) (v := 0) (lo := 0) (hi := 24) rfl (by first | omega | decide)
  have hI := hI.put (n := 100) (k := 9) (v := 0) (lo := 0) (hi := 8) rfl (by first | omega | decide)
  have hI := hI.fill (x := 101) (N := 576) (v := 0) (fun k _ => (by decide : (-2147483648 : Int) ≤ (0 : Int32).toInt ∧ (0 : Int32).toInt ≤ (2147483647 : Int)))
  have hI := hI.fill (x := 102) (N := 576) (v := (-1)) (fun k _ => (by decide : (-2147483648 : Int) ≤ ((-1) : Int32).toInt ∧ ((-1) : Int32).toInt ≤ (2147483647 : Int)))
  have hI := hI.fill (x := 103) (N := 576) (v := (-1)) (fun k _ => (by decide : (-1 : Int) ≤ ((-1) : Int32).toInt ∧ ((-1) : Int32).toInt ≤ (23 : Int)))
  have hI := hI.fill (x := 104) (N := 576) (v := (-1)) (fun k _ => (by decide : (-1 : Int) ≤ ((-1) : Int32).toInt ∧ ((-1) : Int32).toInt ≤ (7 : Int)))
  have hI := hI.fill (x := 105) (N := 288) (v := (-1)) (fun k _ => (by decide : (-1 : Int) ≤ ((-1) : Int32).toInt ∧ ((-1) : Int32).toInt ≤ (7 : Int)))
  have hI := hI.fill (x := 106) (N := 288) (v := 0) (fun k _ => (by decide : (-2147483648 : Int) ≤ (0 : Int32).toInt ∧ (0 : Int32).toInt ≤ (2147483647 : Int)))
  exact hI
theorem begin_kp {I : MI} {w h x y a : Int32} : Kp [(100, 107)] [] I (beginI I 100 w h x y a) := by
  intro n k h1 h2
  have hn : ¬ (100 ≤ n ∧ n < 107) := fun hh => by rw [inR_of (100, 107) (by simp) hh] at h1; cases h1
  simp only [beginI, fillI, u2_v]
  simp [show n ≠ 100 from by omega, show n ≠ 101 from by omega, show n ≠ 102 from by omega, show n ≠ 103 from by omega, show n ≠ 104 from by omega, show n ≠ 105 from by omega, show n ≠ 106 from by omega]
theorem dX9_town_0 : decode cX9_town 0 = .ok (.iload_n 1, 1) := by decide +kernel
theorem dX9_town_1 : decode cX9_town 1 = .ok (.iconst 4, 1) := by decide +kernel
theorem dX9_town_2 : decode cX9_town 2 = .ok (.bipush 24, 2) := by decide +kernel
theorem dX9_town_4 : decode cX9_town 4 = .ok (.invokestatic 95, 3) := by decide +kernel
theorem dX9_town_7 : decode cX9_town 7 = .ok (.ifCond .eq 13, 3) := by decide +kernel
theorem dX9_town_10 : decode cX9_town 10 = .ok (.iload_n 2, 1) := by decide +kernel
theorem dX9_town_11 : decode cX9_town 11 = .ok (.iconst 4, 1) := by decide +kernel
theorem dX9_town_12 : decode cX9_town 12 = .ok (.bipush 24, 2) := by decide +kernel
theorem dX9_town_14 : decode cX9_town 14 = .ok (.invokestatic 95, 3) := by decide +kernel
theorem dX9_town_17 : decode cX9_town 17 = .ok (.ifCond .ne 5, 3) := by decide +kernel
theorem dX9_town_20 : decode cX9_town 20 = .ok (.iconst 0, 1) := by decide +kernel
theorem dX9_town_21 : decode cX9_town 21 = .ok (.ireturn, 1) := by decide +kernel
theorem dX9_town_22 : decode cX9_town 22 = .ok (.iload_n 3, 1) := by decide +kernel
theorem dX9_town_23 : decode cX9_town 23 = .ok (.iconst 0, 1) := by decide +kernel
theorem dX9_town_24 : decode cX9_town 24 = .ok (.iload_n 1, 1) := by decide +kernel
theorem dX9_town_25 : decode cX9_town 25 = .ok (.iconst 1, 1) := by decide +kernel
theorem dX9_town_26 : decode cX9_town 26 = .ok (.isub, 1) := by decide +kernel
theorem dX9_town_27 : decode cX9_town 27 = .ok (.invokestatic 95, 3) := by decide +kernel
theorem dX9_town_30 : decode cX9_town 30 = .ok (.ifCond .eq 27, 3) := by decide +kernel
theorem dX9_town_33 : decode cX9_town 33 = .ok (.iload 4, 2) := by decide +kernel
theorem dX9_town_35 : decode cX9_town 35 = .ok (.iconst 0, 1) := by decide +kernel
theorem dX9_town_36 : decode cX9_town 36 = .ok (.iload_n 2, 1) := by decide +kernel
theorem dX9_town_37 : decode cX9_town 37 = .ok (.iconst 1, 1) := by decide +kernel
theorem dX9_town_38 : decode cX9_town 38 = .ok (.isub, 1) := by decide +kernel
theorem dX9_town_39 : decode cX9_town 39 = .ok (.invokestatic 95, 3) := by decide +kernel
theorem dX9_town_42 : decode cX9_town 42 = .ok (.ifCond .eq 15, 3) := by decide +kernel
theorem dX9_town_45 : decode cX9_town 45 = .ok (.iload 5, 2) := by decide +kernel
theorem dX9_town_47 : decode cX9_town 47 = .ok (.iconst 0, 1) := by decide +kernel
theorem dX9_town_48 : decode cX9_town 48 = .ok (.sipush 1000, 3) := by decide +kernel
theorem dX9_town_51 : decode cX9_town 51 = .ok (.invokestatic 95, 3) := by decide +kernel
theorem dX9_town_54 : decode cX9_town 54 = .ok (.ifCond .ne 5, 3) := by decide +kernel
theorem dX9_town_57 : decode cX9_town 57 = .ok (.iconst 0, 1) := by decide +kernel
theorem dX9_town_58 : decode cX9_town 58 = .ok (.ireturn, 1) := by decide +kernel
theorem dX9_town_59 : decode cX9_town 59 = .ok (.aload_n 0, 1) := by decide +kernel
theorem dX9_town_60 : decode cX9_town 60 = .ok (.getfield 10, 3) := by decide +kernel
theorem dX9_town_63 : decode cX9_town 63 = .ok (.iload_n 1, 1) := by decide +kernel
theorem dX9_town_64 : decode cX9_town 64 = .ok (.iload_n 2, 1) := by decide +kernel
theorem dX9_town_65 : decode cX9_town 65 = .ok (.iload_n 3, 1) := by decide +kernel
theorem dX9_town_66 : decode cX9_town 66 = .ok (.iload 4, 2) := by decide +kernel
theorem dX9_town_68 : decode cX9_town 68 = .ok (.iload 5, 2) := by decide +kernel
theorem dX9_town_70 : decode cX9_town 70 = .ok (.invokevirtual 99, 3) := by decide +kernel
theorem dX9_town_73 : decode cX9_town 73 = .ok (.iconst 1, 1) := by decide +kernel
theorem dX9_town_74 : decode cX9_town 74 = .ok (.ireturn, 1) := by decide +kernel
theorem ce_X9_town : CeV RX9 yX9_town cX9_town 6 (some .boolean) 5 := ⟨tb_448, tb_449, tb_1, tb_450, rfl, by decide, by decide, by decide +kernel⟩
def IMS (ns : List Nat) (G : MG) : Prop := ∀ k, k < 4 → G 1 k = 0 ∨ (G 1 k = 120 + 10 * k ∧ TOK ns G (120 + 10 * k))
theorem dX9_back_0 : decode cX9_back 0 = .ok (.iload_n 1, 1) := by decide +kernel
theorem dX9_back_1 : decode cX9_back 1 = .ok (.iconst 0, 1) := by decide +kernel
theorem dX9_back_2 : decode cX9_back 2 = .ok (.iconst 3, 1) := by decide +kernel
theorem dX9_back_3 : decode cX9_back 3 = .ok (.invokestatic 95, 3) := by decide +kernel
theorem dX9_back_6 : decode cX9_back 6 = .ok (.ifCond .ne 5, 3) := by decide +kernel
theorem dX9_back_9 : decode cX9_back 9 = .ok (.iconst (-1), 1) := by decide +kernel
theorem dX9_back_10 : decode cX9_back 10 = .ok (.ireturn, 1) := by decide +kernel
theorem dX9_back_11 : decode cX9_back 11 = .ok (.aload_n 0, 1) := by decide +kernel
theorem dX9_back_12 : decode cX9_back 12 = .ok (.getfield 19, 3) := by decide +kernel
theorem dX9_back_15 : decode cX9_back 15 = .ok (.iload_n 1, 1) := by decide +kernel
theorem dX9_back_16 : decode cX9_back 16 = .ok (.aaload, 1) := by decide +kernel
theorem dX9_back_17 : decode cX9_back 17 = .ok (.astore_n 2, 1) := by decide +kernel
theorem dX9_back_18 : decode cX9_back 18 = .ok (.aload_n 2, 1) := by decide +kernel
theorem dX9_back_19 : decode cX9_back 19 = .ok (.ifnonnull 5, 3) := by decide +kernel
theorem dX9_back_22 : decode cX9_back 22 = .ok (.iconst (-1), 1) := by decide +kernel
theorem dX9_back_23 : decode cX9_back 23 = .ok (.ireturn, 1) := by decide +kernel
theorem dX9_back_24 : decode cX9_back 24 = .ok (.aload_n 0, 1) := by decide +kernel
theorem dX9_back_25 : decode cX9_back 25 = .ok (.getfield 10, 3) := by decide +kernel
theorem dX9_back_28 : decode cX9_back 28 = .ok (.aload_n 2, 1) := by decide +kernel
theorem dX9_back_29 : decode cX9_back 29 = .ok (.invokevirtual 320, 3) := by decide +kernel
theorem dX9_back_32 : decode cX9_back 32 = .ok (.aload_n 0, 1) := by decide +kernel
theorem dX9_back_33 : decode cX9_back 33 = .ok (.getfield 10, 3) := by decide +kernel
theorem dX9_back_36 : decode cX9_back 36 = .ok (.getfield 190, 3) := by decide +kernel
theorem dX9_back_39 : decode cX9_back 39 = .ok (.ireturn, 1) := by decide +kernel
theorem ce_X9_back : CeV RX9 yX9_back cX9_back 3 (some .int) 1 := ⟨tb_1169, tb_1170, tb_1, tb_1171, rfl, by decide, by decide, by decide +kernel⟩
