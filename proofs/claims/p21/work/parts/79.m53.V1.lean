def LWS2 (ns : List Nat) (I : MI) (G : MG) : Prop := ∀ k : Nat, (k : Int) < (I 0 14).toInt → G 2 k = 200 + 10 * k ∧ LOK ns G (200 + 10 * k)
theorem CW.lws2 {ns : List Nat} {I : MI} {G : MG} (h : CW ns I G) : LWS2 ns I G := by
  obtain ⟨-, -, c, hc, hl⟩ := h
  intro k hk
  exact ⟨hl.2.2.2.1 k (by omega), hl.2.2.1 k (by omega)⟩
set_option maxHeartbeats 4000000 in
set_option maxRecDepth 20000 in
theorem V_X9_findLaw_y (l : Launch) (D : va_G) (A : Nat → Prop) (ad : Nat → Nat) (ns : List Nat) (I : MI) (L : ML) (G : MG) (a0 : Int32) (hG : SGC ns G) (hI : INV I) (hL : LWS2 ns I G) : Met l yX9_findLaw (wd yX9_findLaw cX9_findLaw 2 (some (.object "OneSunbeam$Law"))) ({ frames := 1, cells := 0, slots := 0, locals := 22 }) (va_Pc [.ref (ad (0)), .int a0] (PM D A ad ns I L G)) (va_Qq (fun r u => u = (ad, ns, I, L, G) ∧ ((r = none ∧ ¬ (0 ≤ a0.toInt ∧ a0.toInt < (I 0 14).toInt)) ∨ ∃ w, r = some (ad w) ∧ LOK ns G w ∧ (0 ≤ a0.toInt ∧ a0.toInt < (I 0 14).toInt) ∧ w = 200 + 10 * (a0).toNatClampNeg)) (BM D A) A) 0 0 A := by
  refine m_ofW (by decide) (Nat.le_of_ble_eq_true rfl) ?_
  intro p e s m below meth c ls args hC hE hM hA hS hl
  obtain ⟨hx, hb, hml, hown, hts, hr, hlocks, hin⟩ := hC
  have k0 : (0 : Int32).toInt = 0 := by decide
  have k1 : (1 : Int32).toInt = 1 := by decide
  have hl : lv_has ls 2 [(0, .ref (ad (0))), (1, .int (a0))] := hl
  refine lv_iload_n hx hb dX9_findLaw_0 rfl (lv_at hl 1 rfl) ?_
  refine lv_iconst (v := (0)) hx hb dX9_findLaw_1 (by decide) ?_
  refine lv_aload_n hx hb dX9_findLaw_2 rfl (lv_at hl 0 rfl) ?_
  refine m_geti (0) 14 hx hb hts hown hE oc9 hM (hG.1 0 (by decide)) rfl (by decide) rfl tb_412 dX9_findLaw_3 ?_
  have g1 := hI.get (0) 14 (lo := 0) (hi := 6) rfl
  refine lv_iconst (v := (1)) hx hb dX9_findLaw_6 (by decide) ?_
  refine lv_isub hx hb dX9_findLaw_7 ?_
  refine lv_topi (fun v2 ev2 => ?_)
  have tv2 := a_sub ev2 (by omega) (by omega)
  refine m_calli (m_runS (As := [.int (a0), .int (0), .int (v2)]) (rest := []) hx hb hml hown hts hE hM hS hA ce_X9_isWithin tb_451 (V_X9_isWithin l D A ad ns I L G (a0) (0) (v2) hI) rfl rfl ⟨Nat.le_of_ble_eq_true rfl, Nat.le_of_ble_eq_true rfl⟩  rfl hl.1 rfl (Nat.le_of_ble_eq_true rfl) dX9_findLaw_8 ⟨Nat.le_of_ble_eq_true rfl, Nat.le_of_ble_eq_true rfl⟩) hS (fun r3 u H locs hw hM hS => ?_)
  obtain ⟨rfl, xr3⟩ := hw
  have hM : Mem D A ad ns I L G H := hM
  have yr3 := bo01 xr3
  refine lv_if_eq (tgt := 23) hx hb dX9_findLaw_11 (by decide) (fun c4 => ?_) (fun c4 => ?_)
  · have hc4 := c4
    have q4 := xr3.f hc4
    refine lv_null hx hb dX9_findLaw_23 ?_
    exact m_aret (r := none) hx hb hr ⟨_, rfl⟩ hlocks hM hS (Nat.le_of_ble_eq_true rfl) (Nat.le_of_ble_eq_true rfl) ⟨rfl, (Or.inl ⟨rfl, by omega⟩)⟩ dX9_findLaw_24
  · have hc4 := c4
    have q4 := xr3.t hc4
    refine lv_aload_n hx hb dX9_findLaw_14 rfl (lv_at hl 0 rfl) ?_
    refine m_getr (0) 10 (2) hx hb hts hown hE oc9 hM (hG.1 0 (by decide)) rfl (by decide) rfl (hG.2 (0, 10, 2) (by decide)) (by decide) tb_408 dX9_findLaw_15 ?_
    refine lv_iload_n hx hb dX9_findLaw_18 rfl (lv_at hl 1 rfl) ?_
    refine m_aald (2) hx hb hE hM (hG.1 2 (by decide)) rfl (by decide) (vp_in_iff.mpr (by omega)) dX9_findLaw_19 ?_
    have hn0 := tn (i := a0) (by omega)
    obtain ⟨hg0, hW0⟩ := hL (a0).toNatClampNeg (by omega)
    obtain ⟨w, hwq⟩ : ∃ z : Nat, z = 200 + 10 * (a0).toNatClampNeg := ⟨_, rfl⟩
    rw [← hwq] at hg0 hW0
    have hz0 : rn ad (G 2 (a0).toNatClampNeg) = some (ad w) := by rw [hg0]; simp [rn]; omega
    rw [hz0]
    refine lv_goto (tgt := 24) hx hb dX9_findLaw_20 (by decide) ?_
    exact m_aret (r := some (ad w)) hx hb hr ⟨_, rfl⟩ hlocks hM hS (Nat.le_of_ble_eq_true rfl) (Nat.le_of_ble_eq_true rfl) ⟨rfl, (Or.inr ⟨w, rfl, hW0, by omega, hwq⟩)⟩ dX9_findLaw_24
set_option maxHeartbeats 4000000 in
set_option maxRecDepth 20000 in
theorem V_X9_days_y (l : Launch) (D : va_G) (A : Nat → Prop) (ad : Nat → Nat) (ns : List Nat) (I : MI) (L : ML) (G : MG) (a0 : Int32) (a1 : Int32) (hG : SGC ns G) (hI : INV I) (hL : LWS2 ns I G) (hLL : ∀ k : Nat, (k : Int) < (I 0 14).toInt → LWF (lawC (200 + 10 * k) I)) (hRK : RKw (cF 100 I)) (hOK : OKW (cF 100 I)) (hYL : 0 < (I 100 0).toInt → YLY 100 I) (h8 : (I 10 8).toInt = 0) : Met l yX9_days (wd yX9_days cX9_days 5 (some .int)) ({ frames := 7, cells := 0, slots := 0, locals := 171 }) (va_Pc [.ref (ad (0)), .int a0, .int a1] (PM D A ad ns I L G)) (va_Qi (fun r u => ∃ I2 L2, u = (ad, ns, I2, L2, G) ∧ INV I2 ∧ Kp [(11, 15), (21, 22), (107, 109)] [(10, 2), (10, 3), (10, 4), (10, 5), (10, 6), (10, 7), (10, 8), (10, 11), (10, 12), (20, 3), (100, 6)] I I2 ∧ (DYW ((0 ≤ a0.toInt ∧ a0.toInt < (I 0 14).toInt) ∧ 0 < (I 100 0).toInt ∧ (1 ≤ a1.toInt ∧ a1.toInt ≤ 30) ∧ (I 100 6).toInt + a1.toInt ≤ 9999) r I I2 (dayN (lawC (200 + 10 * (a0).toNatClampNeg) I) (cF 100 I) (a1).toNatClampNeg) (cF 100 I2) ∧ (I2 10 8).toInt = 0)) (BM D A) A) 0 0 A := by
  refine m_ofW (by decide) (Nat.le_of_ble_eq_true rfl) ?_
  intro p e s m below meth c ls args hC hE hM hA hS hl
  obtain ⟨hx, hb, hml, hown, hts, hr, hlocks, hin⟩ := hC
  have km1 : (-1 : Int32).toInt = -1 := by decide
  have k0 : (0 : Int32).toInt = 0 := by decide
  have k1 : (1 : Int32).toInt = 1 := by decide
  have k30 : (30 : Int32).toInt = 30 := by decide
  have k9999 : (9999 : Int32).toInt = 9999 := by decide
  have hK : Kp [(11, 15), (21, 22), (107, 109)] [(10, 2), (10, 3), (10, 4), (10, 5), (10, 6), (10, 7), (10, 8), (10, 11), (10, 12), (20, 3), (100, 6)] I I := Kp.rf
  have hl : lv_has ls 5 [(0, .ref (ad (0))), (1, .int (a0)), (2, .int (a1))] := hl
  refine lv_aload_n hx hb dX9_days_0 rfl (lv_at hl 0 rfl) ?_
  refine lv_iload_n hx hb dX9_days_1 rfl (lv_at hl 1 rfl) ?_
  refine m_callq (m_runV (0) (As := [.int (a0)]) (rest := []) hx hb hml hown hts hE hM hS hA ce_X9_findLaw tb_740 (V_X9_findLaw_y l D A ad ns I L G (a0) hG hI hL) rfl rfl ⟨Nat.le_of_ble_eq_true rfl, Nat.le_of_ble_eq_true rfl⟩ (hG.1 0 (by decide)) rfl rfl (by decide) rfl hl.1 rfl (Nat.le_of_ble_eq_true rfl) dX9_days_2 ⟨Nat.le_of_ble_eq_true rfl, Nat.le_of_ble_eq_true rfl⟩) hS (fun r1 u H locs hw hM hS => ?_)
  obtain ⟨rfl, xr1⟩ := hw
  have hM : Mem D A ad ns I L G H := hM
  have g2 := hI.get 0 14 (lo := 0) (hi := 6) rfl
  rcases xr1 with ⟨rfl, hnl⟩ | ⟨w, rfl, hW, hyl, hwq⟩
  · have hM := hM
    refine lv_astore_nN (lv' := [(3, .null), (0, .ref (ad (0))), (1, .int (a0)), (2, .int (a1))]) hx hb dX9_days_5 rfl hl (by decide) rfl (fun ls hl => ?_)
    refine lv_aload_nN hx hb dX9_days_6 rfl (lv_at hl 0 rfl) ?_
    refine lv_ifnullN (tgt := 45) hx hb dX9_days_7 (by decide) ?_
    refine lv_iconst (v := (-1)) hx hb dX9_days_45 (by decide) ?_
    exact m_iret hx hb hr hlocks hM hS (Nat.le_of_ble_eq_true rfl) (Nat.le_of_ble_eq_true rfl) ⟨_, _, rfl, hI, hK, ⟨Or.inr ⟨by omega, rfl, rfl⟩, h8⟩⟩ dX9_days_46
  have hLF := hLL (a0).toNatClampNeg (by have zz := tn (i := a0) (by omega); omega)
  rw [← hwq] at hLF
  refine lv_astore_n (lv' := [(3, .ref (ad (w))), (0, .ref (ad (0))), (1, .int (a0)), (2, .int (a1))]) hx hb dX9_days_5 rfl hl (by decide) rfl (fun ls hl => ?_)
  refine lv_aload_n hx hb dX9_days_6 rfl (lv_at hl 0 rfl) ?_
  refine lv_ifnull hx hb dX9_days_7 ?_
  refine lv_aload_n hx hb dX9_days_10 rfl (lv_at hl 1 rfl) ?_
  refine m_getr (0) 0 (100) hx hb hts hown hE oc9 hM (hG.1 0 (by decide)) rfl (by decide) rfl (hG.2 (0, 0, 100) (by decide)) (by decide) tb_398 dX9_days_11 ?_
  refine m_calli (m_runV (100) (As := []) (rest := []) hx hb hml hown hts hE hM hS hA ce_X8_isBegun tb_484 (V_X8_isBegun_100 l D A ad ns I L G hG hI) rfl rfl ⟨Nat.le_of_ble_eq_true rfl, Nat.le_of_ble_eq_true rfl⟩ (hG.1 100 (by decide)) rfl rfl (by decide) rfl hl.1 rfl (Nat.le_of_ble_eq_true rfl) dX9_days_14 ⟨Nat.le_of_ble_eq_true rfl, Nat.le_of_ble_eq_true rfl⟩) hS (fun r3 u H locs hw hM hS => ?_)
  obtain ⟨rfl, xr3⟩ := hw
  have hM : Mem D A ad ns I L G H := hM
  have yr3 := bo01 xr3
  refine lv_if_eq (tgt := 45) hx hb dX9_days_17 (by decide) (fun c4 => ?_) (fun c4 => ?_)
  · have hc4 := c4
    have q4 := xr3.f hc4
    refine lv_iconst (v := (-1)) hx hb dX9_days_45 (by decide) ?_
    exact m_iret hx hb hr hlocks hM hS (Nat.le_of_ble_eq_true rfl) (Nat.le_of_ble_eq_true rfl) ⟨_, _, rfl, hI, hK, ⟨Or.inr ⟨by omega, rfl, rfl⟩, h8⟩⟩ dX9_days_46
  · have hc4 := c4
    have q4 := xr3.t hc4
    refine lv_iload_n hx hb dX9_days_20 rfl (lv_at hl 3 rfl) ?_
    refine lv_iconst (v := (1)) hx hb dX9_days_21 (by decide) ?_
    refine lv_bipush (v := (30)) hx hb dX9_days_22 (by decide) ?_
    refine m_calli (m_runS (As := [.int (a1), .int (1), .int (30)]) (rest := []) hx hb hml hown hts hE hM hS hA ce_X9_isWithin tb_451 (V_X9_isWithin l D A ad ns I L G (a1) (1) (30) hI) rfl rfl ⟨Nat.le_of_ble_eq_true rfl, Nat.le_of_ble_eq_true rfl⟩  rfl hl.1 rfl (Nat.le_of_ble_eq_true rfl) dX9_days_24 ⟨Nat.le_of_ble_eq_true rfl, Nat.le_of_ble_eq_true rfl⟩) hS (fun r5 u H locs hw hM hS => ?_)
    obtain ⟨rfl, xr5⟩ := hw
    have hM : Mem D A ad ns I L G H := hM
    have yr5 := bo01 xr5
    refine lv_if_eq (tgt := 45) hx hb dX9_days_27 (by decide) (fun c6 => ?_) (fun c6 => ?_)
    · have hc6 := c6
      have q6 := xr5.f hc6
      refine lv_iconst (v := (-1)) hx hb dX9_days_45 (by decide) ?_
      exact m_iret hx hb hr hlocks hM hS (Nat.le_of_ble_eq_true rfl) (Nat.le_of_ble_eq_true rfl) ⟨_, _, rfl, hI, hK, ⟨Or.inr ⟨by omega, rfl, rfl⟩, h8⟩⟩ dX9_days_46
    · have hc6 := c6
      have q6 := xr5.t hc6
      refine lv_aload_n hx hb dX9_days_30 rfl (lv_at hl 1 rfl) ?_
      refine m_getr (0) 0 (100) hx hb hts hown hE oc9 hM (hG.1 0 (by decide)) rfl (by decide) rfl (hG.2 (0, 0, 100) (by decide)) (by decide) tb_398 dX9_days_31 ?_
      refine m_geti (100) 6 hx hb hts hown hE oc8 hM (hG.1 100 (by decide)) rfl (by decide) rfl tb_56 dX9_days_34 ?_
      refine lv_sipush (v := (9999)) hx hb dX9_days_37 (by decide) ?_
      refine lv_iload_n hx hb dX9_days_40 rfl (lv_at hl 3 rfl) ?_
      refine lv_isub hx hb dX9_days_41 ?_
      refine lv_topi (fun v7 ev7 => ?_)
      have tv7 := a_sub ev7 (by omega) (by omega)
      refine lv_icmp_le (tgt := 47) hx hb dX9_days_42 (by decide) (fun c8 => ?_) (fun c8 => ?_)
      · have hc8 := c8
        have q8 := q_le hc8
        refine lv_iconst (v := (0)) hx hb dX9_days_47 (by decide) ?_
        refine lv_istore (lv' := [(4, .int (0)), (3, .ref (ad (w))), (0, .ref (ad (0))), (1, .int (a0)), (2, .int (a1))]) hx hb dX9_days_48 hl (by decide) rfl (fun ls hl => ?_)
        have loop50 : ∀ (n : Nat) (x4_50 : Int32) (Ia50 : MI) (La50 : ML) (H : Heap) (locs : List Loc) (ls : Array Slot), INV Ia50 → Kp [(11, 15), (21, 22), (107, 109)] [(10, 2), (10, 3), (10, 4), (10, 5), (10, 6), (10, 7), (10, 8), (10, 11), (10, 12), (20, 3), (100, 6)] I Ia50 → (0 ≤ x4_50.toInt ∧ x4_50.toInt ≤ 30) → ((x4_50).toInt ≤ a1.toInt) → (EqV (dayN (lawC w I) (cF 100 I) (x4_50).toNatClampNeg) (cF 100 Ia50)) → ((Ia50 10 8).toInt = 0) → (30 - x4_50.toInt).toNat < n → Mem D A ad ns Ia50 La50 G H → va_S A s.heap H locs → lv_has ls 5 [(4, .int (x4_50)), (3, .ref (ad (w))), (0, .ref (ad (0))), (1, .int (a0)), (2, .int (a1))] → W p l e ({ frames := 7, cells := 0, slots := 0, locals := 171 } : Room) s m args below meth c H locs 0 0 (MQ below (va_Qi (fun r u => ∃ I2 L2, u = (ad, ns, I2, L2, G) ∧ INV I2 ∧ Kp [(11, 15), (21, 22), (107, 109)] [(10, 2), (10, 3), (10, 4), (10, 5), (10, 6), (10, 7), (10, 8), (10, 11), (10, 12), (20, 3), (100, 6)] I I2 ∧ (DYW ((0 ≤ a0.toInt ∧ a0.toInt < (I 0 14).toInt) ∧ 0 < (I 100 0).toInt ∧ (1 ≤ a1.toInt ∧ a1.toInt ≤ 30) ∧ (I 100 6).toInt + a1.toInt ≤ 9999) r I I2 (dayN (lawC (200 + 10 * (a0).toNatClampNeg) I) (cF 100 I) (a1).toNatClampNeg) (cF 100 I2) ∧ (I2 10 8).toInt = 0)) (BM D A) A) args s 0 0 A) (F0 m 50 ls []) := by
          intro n
          induction n with
          | zero =>
            intro x4_50 Ia50 La50 H locs ls hI hK hr4_50 hle50 hv50 h850 hmu
            exact absurd hmu (Nat.not_lt_zero _)
          | succ n ih50 =>
            intro x4_50 Ia50 La50 H locs ls hI hK hr4_50 hle50 hv50 h850 hmu50 hM hS hl
            refine lv_iload hx hb dX9_days_50 (lv_at hl 0 rfl) ?_
            refine lv_iload_n hx hb dX9_days_52 rfl (lv_at hl 4 rfl) ?_
            refine lv_icmp_ge (tgt := 76) hx hb dX9_days_53 (by decide) (fun c9 => ?_) (fun c9 => ?_)
            · have hc9 := c9
              have q9 := q_le hc9
              refine lv_aload_n hx hb dX9_days_76 rfl (lv_at hl 2 rfl) ?_
              refine m_getr (0) 0 (100) hx hb hts hown hE oc9 hM (hG.1 0 (by decide)) rfl (by decide) rfl (hG.2 (0, 0, 100) (by decide)) (by decide) tb_398 dX9_days_77 ?_
              refine m_calli (m_runV (100) (As := []) (rest := []) hx hb hml hown hts hE hM hS hA ce_X8_metCount tb_880 (V_X8_metCount_100_y l D A ad ns Ia50 La50 G hG hI) rfl rfl ⟨Nat.le_of_ble_eq_true rfl, Nat.le_of_ble_eq_true rfl⟩ (hG.1 100 (by decide)) rfl rfl (by decide) rfl hl.1 rfl (Nat.le_of_ble_eq_true rfl) dX9_days_80 ⟨Nat.le_of_ble_eq_true rfl, Nat.le_of_ble_eq_true rfl⟩) hS (fun r10 u H locs hw hM hS => ?_)
              obtain ⟨rfl, xr10⟩ := hw
              have hM : Mem D A ad ns Ia50 La50 G H := hM
              have hna : (x4_50).toNatClampNeg = (a1).toNatClampNeg := congrArg Int32.toNatClampNeg (Int32.toInt_inj.mp (by omega))
              have hv51 := hv50
              rw [hna, hwq] at hv51
              exact m_iret hx hb hr hlocks hM hS (Nat.le_of_ble_eq_true rfl) (Nat.le_of_ble_eq_true rfl) ⟨_, _, rfl, hI, hK, ⟨Or.inl ⟨by omega, by rw [xr10]; exact metV_eq hv51 (dayN_ok hOK _).n9, hv51⟩, h850⟩⟩ dX9_days_83
            · have hc9 := c9
              have q9 := q_nle hc9
              refine lv_aload_n hx hb dX9_days_56 rfl (lv_at hl 2 rfl) ?_
              refine m_getr (0) 4 (20) hx hb hts hown hE oc9 hM (hG.1 0 (by decide)) rfl (by decide) rfl (hG.2 (0, 4, 20) (by decide)) (by decide) tb_402 dX9_days_57 ?_
              refine lv_aload_n hx hb dX9_days_60 rfl (lv_at hl 2 rfl) ?_
              refine m_getr (0) 0 (100) hx hb hts hown hE oc9 hM (hG.1 0 (by decide)) rfl (by decide) rfl (hG.2 (0, 0, 100) (by decide)) (by decide) tb_398 dX9_days_61 ?_
              refine lv_aload_n hx hb dX9_days_64 rfl (lv_at hl 1 rfl) ?_
              refine lv_iconst (v := (0)) hx hb dX9_days_65 (by decide) ?_
              have hLcN : ∀ n, n < 6 → lawC w Ia50 n = lawC w I n := lawC_kp hW.1 hK (by decide) (by decide)
              have hyN : YLY 100 Ia50 := (hYL (by omega)).of (hK.getA 104 rfl) (hK.get 100 9 rfl) (fun k hk => by obtain ⟨q1, q2, q3, q4⟩ := hv50.yds k hk; rw [q1, q2, q3, q4]; exact ⟨dayN_st (by decide) (by decide) (by decide) (by omega) _, dayN_st (by decide) (by decide) (by decide) (by omega) _, dayN_st (by decide) (by decide) (by decide) (by omega) _, dayN_st (by decide) (by decide) (by decide) (by omega) _⟩) hOK.n9
              refine m_calli (m_runV (20) (As := [.ref (ad (100)), .ref (ad (w)), .int (0)]) (rest := []) hx hb hml hown hts hE hM hS hA ce_X2_passDay tb_744 (V_X2_passDay_100_y l D A ad ns Ia50 La50 G (w) (0) hG hI hW (by rw [hK.get 100 0 rfl]; omega) ((dayN_rk hRK (x4_50).toNatClampNeg).eq hv50) ((dayN_ok hOK (x4_50).toNatClampNeg).eq hv50) (hLF.eq hLcN) hyN h850 (by first | omega | decide)) rfl rfl ⟨Nat.le_of_ble_eq_true rfl, Nat.le_of_ble_eq_true rfl⟩ (hG.1 20 (by decide)) rfl rfl (by decide) rfl hl.1 rfl (Nat.le_of_ble_eq_true rfl) dX9_days_66 ⟨Nat.le_of_ble_eq_true rfl, Nat.le_of_ble_eq_true rfl⟩) hS (fun r11 u H locs hw hM hS => ?_)
              obtain ⟨I12, L13, rfl, hI, hkI12, xr11⟩ := hw
              have hM : Mem D A ad ns I12 L13 G H := hM
              have hK := hK.trans hkI12 rfl
              have xD := xr11
              rw [dayS_L hLcN, blS_L hLcN] at xD
              have hvN : EqV (dayN (lawC w I) (cF 100 I) ((x4_50).toNatClampNeg + 1)) (cF 100 I12) := (dayS_eq (dayN_ok hOK _) hv50).tr xD.1
              refine lv_pop hx hb dX9_days_69 rfl ?_
              obtain ⟨v14, ev14⟩ : ∃ z : Int32, z = x4_50 + Int32.ofInt (1) := ⟨_, rfl⟩
              have tv14 := a_inc ev14 (by decide) (by omega) (by omega)
              refine lv_iinc (v := v14) (lv' := [(4, .int (v14)), (3, .ref (ad (w))), (0, .ref (ad (0))), (1, .int (a0)), (2, .int (a1))]) hx hb dX9_days_70 hl (k := 0) rfl ev14.symm (by decide) rfl (fun ls hl => ?_)
              refine lv_goto (tgt := 50) hx hb dX9_days_73 (by decide) ?_
              exact ih50 (v14) I12 L13 _ _ ls hI hK (by first | omega | decide) (by omega) (by rw [show (v14).toNatClampNeg = (x4_50).toNatClampNeg + 1 from (by have z1 := tn (i := v14) (by omega); have z2 := tn (i := x4_50) (by omega); omega)]; exact hvN) xD.2.1 (by omega) hM hS (lv_sub hl [0, 1, 2, 3, 4] rfl)
        exact loop50 (_ + 1) (0) I L _ _ ls hI hK (by first | omega | decide) (by omega) EqV.rf h8 (Nat.lt_succ_self _) hM hS (lv_sub hl [0, 1, 2, 3, 4] rfl)
      · have hc8 := c8
        have q8 := q_nle hc8
        refine lv_iconst (v := (-1)) hx hb dX9_days_45 (by decide) ?_
        exact m_iret hx hb hr hlocks hM hS (Nat.le_of_ble_eq_true rfl) (Nat.le_of_ble_eq_true rfl) ⟨_, _, rfl, hI, hK, ⟨Or.inr ⟨by omega, rfl, rfl⟩, h8⟩⟩ dX9_days_46
set_option maxHeartbeats 4000000 in
set_option maxRecDepth 20000 in
theorem V_X8_copyFrom_110_100_y (l : Launch) (D : va_G) (A : Nat → Prop) (ad : Nat → Nat) (ns : List Nat) (I : MI) (L : ML) (G : MG) (hG : SGC ns G) (hI : INV I) : Met l yX8_copyFrom (wd yX8_copyFrom cX8_copyFrom 2 none) ({ frames := 1, cells := 0, slots := 0, locals := 40 }) (va_Pc [.ref (ad (110)), .ref (ad (100))] (PM D A ad ns I L G)) (va_Qv (fun u => ∃ I2 L2, u = (ad, ns, I2, L2, G) ∧ INV I2 ∧ Kp [(111, 119)] [(110, 0), (110, 1), (110, 2), (110, 3), (110, 4), (110, 5), (110, 6), (110, 7), (110, 8), (110, 9)] I I2 ∧ (CPF 110 100 I I2)) (BM D A) A) 0 0 A := by
  refine m_ofW (by decide) (Nat.le_of_ble_eq_true rfl) ?_
  intro p e s m below meth c ls args hC hE hM hA hS hl
  obtain ⟨hx, hb, hml, hown, hts, hr, hlocks, hin⟩ := hC
  have k0 : (0 : Int32).toInt = 0 := by decide
  have k56 : (56 : Int32).toInt = 56 := by decide
  have k240 : (240 : Int32).toInt = 240 := by decide
  have k288 : (288 : Int32).toInt = 288 := by decide
  have k576 : (576 : Int32).toInt = 576 := by decide
  have hK : Kp [(111, 119)] [(110, 0), (110, 1), (110, 2), (110, 3), (110, 4), (110, 5), (110, 6), (110, 7), (110, 8), (110, 9)] I I := Kp.rf
  have hl : lv_has ls 2 [(0, .ref (ad (110))), (1, .ref (ad (100)))] := hl
  refine lv_aload_n hx hb dX8_copyFrom_0 rfl (lv_at hl 0 rfl) ?_
  refine lv_aload_n hx hb dX8_copyFrom_1 rfl (lv_at hl 1 rfl) ?_
  refine m_geti (100) 0 hx hb hts hown hE oc8 hM (hG.1 100 (by decide)) rfl (by decide) rfl tb_34 dX8_copyFrom_2 ?_
  have g1 := hI.get (100) 0 (lo := 0) (hi := 24) rfl
  refine m_puti (110) 0 hx hb hts hown hE oc8 hM hS (hG.1 110 (by decide)) rfl (by decide) rfl rfl rfl rfl tb_34 dX8_copyFrom_5 (fun H locs I2 eI2 hM hS => ?_)
  subst eI2
  have hI := hI.put (n := 110) (k := 0) (v := I (100) 0) (lo := 0) (hi := 24) rfl (by first | omega | decide)
  have hK := hK.put (n := 110) (k := 0) (v := I (100) 0) (by first | rfl | simp [inR])
  refine lv_aload_n hx hb dX8_copyFrom_8 rfl (lv_at hl 0 rfl) ?_
  refine lv_aload_n hx hb dX8_copyFrom_9 rfl (lv_at hl 1 rfl) ?_
  refine m_geti (100) 1 hx hb hts hown hE oc8 hM (hG.1 100 (by decide)) rfl (by decide) rfl tb_37 dX8_copyFrom_10 ?_
  have g3 := hI.get (100) 1 (lo := 0) (hi := 24) rfl
  have z4 : (u2 I (110) 0 (I (100) 0)) (100) 1 = I (100) 1 := (show (u2 I (110) 0 (I (100) 0)) (100) 1 = I (100) 1 from by simp [u2_v])
  rw [z4] at g3 ⊢
  refine m_puti (110) 1 hx hb hts hown hE oc8 hM hS (hG.1 110 (by decide)) rfl (by decide) rfl rfl rfl rfl tb_37 dX8_copyFrom_13 (fun H locs I5 eI5 hM hS => ?_)
  subst eI5
  have hI := hI.put (n := 110) (k := 1) (v := I (100) 1) (lo := 0) (hi := 24) rfl (by first | omega | decide)
  have hK := hK.put (n := 110) (k := 1) (v := I (100) 1) (by first | rfl | simp [inR])
  refine lv_aload_n hx hb dX8_copyFrom_16 rfl (lv_at hl 0 rfl) ?_
  refine lv_aload_n hx hb dX8_copyFrom_17 rfl (lv_at hl 1 rfl) ?_
  refine m_geti (100) 2 hx hb hts hown hE oc8 hM (hG.1 100 (by decide)) rfl (by decide) rfl tb_41 dX8_copyFrom_18 ?_
  have g6 := hI.get (100) 2 (lo := 0) (hi := 23) rfl
  have z7 : (u2 (u2 I (110) 0 (I (100) 0)) (110) 1 (I (100) 1)) (100) 2 = I (100) 2 := (show (u2 (u2 I (110) 0 (I (100) 0)) (110) 1 (I (100) 1)) (100) 2 = I (100) 2 from by simp [u2_v])
  rw [z7] at g6 ⊢
  refine m_puti (110) 2 hx hb hts hown hE oc8 hM hS (hG.1 110 (by decide)) rfl (by decide) rfl rfl rfl rfl tb_41 dX8_copyFrom_21 (fun H locs I8 eI8 hM hS => ?_)
  subst eI8
  have hI := hI.put (n := 110) (k := 2) (v := I (100) 2) (lo := 0) (hi := 23) rfl (by first | omega | decide)
  have hK := hK.put (n := 110) (k := 2) (v := I (100) 2) (by first | rfl | simp [inR])
  refine lv_aload_n hx hb dX8_copyFrom_24 rfl (lv_at hl 0 rfl) ?_
  refine lv_aload_n hx hb dX8_copyFrom_25 rfl (lv_at hl 1 rfl) ?_
  refine m_geti (100) 3 hx hb hts hown hE oc8 hM (hG.1 100 (by decide)) rfl (by decide) rfl tb_45 dX8_copyFrom_26 ?_
  have g9 := hI.get (100) 3 (lo := 0) (hi := 23) rfl
  have z10 : (u2 (u2 (u2 I (110) 0 (I (100) 0)) (110) 1 (I (100) 1)) (110) 2 (I (100) 2)) (100) 3 = I (100) 3 := (show (u2 (u2 (u2 I (110) 0 (I (100) 0)) (110) 1 (I (100) 1)) (110) 2 (I (100) 2)) (100) 3 = I (100) 3 from by simp [u2_v])
  rw [z10] at g9 ⊢
  refine m_puti (110) 3 hx hb hts hown hE oc8 hM hS (hG.1 110 (by decide)) rfl (by decide) rfl rfl rfl rfl tb_45 dX8_copyFrom_29 (fun H locs I11 eI11 hM hS => ?_)
  subst eI11
  have hI := hI.put (n := 110) (k := 3) (v := I (100) 3) (lo := 0) (hi := 23) rfl (by first | omega | decide)
  have hK := hK.put (n := 110) (k := 3) (v := I (100) 3) (by first | rfl | simp [inR])
  refine lv_aload_n hx hb dX8_copyFrom_32 rfl (lv_at hl 0 rfl) ?_
  refine lv_aload_n hx hb dX8_copyFrom_33 rfl (lv_at hl 1 rfl) ?_
  refine m_geti (100) 4 hx hb hts hown hE oc8 hM (hG.1 100 (by decide)) rfl (by decide) rfl tb_48 dX8_copyFrom_34 ?_
  have z12 : (u2 (u2 (u2 (u2 I (110) 0 (I (100) 0)) (110) 1 (I (100) 1)) (110) 2 (I (100) 2)) (110) 3 (I (100) 3)) (100) 4 = I (100) 4 := (show (u2 (u2 (u2 (u2 I (110) 0 (I (100) 0)) (110) 1 (I (100) 1)) (110) 2 (I (100) 2)) (110) 3 (I (100) 3)) (100) 4 = I (100) 4 from by simp [u2_v])
  rw [z12]
  refine m_puti (110) 4 hx hb hts hown hE oc8 hM hS (hG.1 110 (by decide)) rfl (by decide) rfl rfl rfl rfl tb_48 dX8_copyFrom_37 (fun H locs I13 eI13 hM hS => ?_)
  subst eI13
  have hI := hI.putF (n := 110) (k := 4) (v := I (100) 4) rfl
  have hK := hK.put (n := 110) (k := 4) (v := I (100) 4) (by first | rfl | simp [inR])
  refine lv_aload_n hx hb dX8_copyFrom_40 rfl (lv_at hl 0 rfl) ?_
  refine lv_aload_n hx hb dX8_copyFrom_41 rfl (lv_at hl 1 rfl) ?_
  refine m_geti (100) 5 hx hb hts hown hE oc8 hM (hG.1 100 (by decide)) rfl (by decide) rfl tb_51 dX8_copyFrom_42 ?_
  have g14 := hI.get (100) 5 (lo := 0) (hi := 11) rfl
  have z15 : (u2 (u2 (u2 (u2 (u2 I (110) 0 (I (100) 0)) (110) 1 (I (100) 1)) (110) 2 (I (100) 2)) (110) 3 (I (100) 3)) (110) 4 (I (100) 4)) (100) 5 = I (100) 5 := (show (u2 (u2 (u2 (u2 (u2 I (110) 0 (I (100) 0)) (110) 1 (I (100) 1)) (110) 2 (I (100) 2)) (110) 3 (I (100) 3)) (110) 4 (I (100) 4)) (100) 5 = I (100) 5 from by simp [u2_v])
  rw [z15] at g14 ⊢
  refine m_puti (110) 5 hx hb hts hown hE oc8 hM hS (hG.1 110 (by decide)) rfl (by decide) rfl rfl rfl rfl tb_51 dX8_copyFrom_45 (fun H locs I16 eI16 hM hS => ?_)
  subst eI16
  have hI := hI.put (n := 110) (k := 5) (v := I (100) 5) (lo := 0) (hi := 11) rfl (by first | omega | decide)
  have hK := hK.put (n := 110) (k := 5) (v := I (100) 5) (by first | rfl | simp [inR])
  refine lv_aload_n hx hb dX8_copyFrom_48 rfl (lv_at hl 0 rfl) ?_
  refine lv_aload_n hx hb dX8_copyFrom_49 rfl (lv_at hl 1 rfl) ?_
  refine m_geti (100) 6 hx hb hts hown hE oc8 hM (hG.1 100 (by decide)) rfl (by decide) rfl tb_54 dX8_copyFrom_50 ?_
  have z17 : (u2 (u2 (u2 (u2 (u2 (u2 I (110) 0 (I (100) 0)) (110) 1 (I (100) 1)) (110) 2 (I (100) 2)) (110) 3 (I (100) 3)) (110) 4 (I (100) 4)) (110) 5 (I (100) 5)) (100) 6 = I (100) 6 := (show (u2 (u2 (u2 (u2 (u2 (u2 I (110) 0 (I (100) 0)) (110) 1 (I (100) 1)) (110) 2 (I (100) 2)) (110) 3 (I (100) 3)) (110) 4 (I (100) 4)) (110) 5 (I (100) 5)) (100) 6 = I (100) 6 from by simp [u2_v])
  rw [z17]
  refine m_puti (110) 6 hx hb hts hown hE oc8 hM hS (hG.1 110 (by decide)) rfl (by decide) rfl rfl rfl rfl tb_54 dX8_copyFrom_53 (fun H locs I18 eI18 hM hS => ?_)
  subst eI18
  have hI := hI.putF (n := 110) (k := 6) (v := I (100) 6) rfl
  have hK := hK.put (n := 110) (k := 6) (v := I (100) 6) (by first | rfl | simp [inR])
  refine lv_aload_n hx hb dX8_copyFrom_56 rfl (lv_at hl 0 rfl) ?_
  refine lv_aload_n hx hb dX8_copyFrom_57 rfl (lv_at hl 1 rfl) ?_
  refine m_geti (100) 7 hx hb hts hown hE oc8 hM (hG.1 100 (by decide)) rfl (by decide) rfl tb_57 dX8_copyFrom_58 ?_
  have z19 : (u2 (u2 (u2 (u2 (u2 (u2 (u2 I (110) 0 (I (100) 0)) (110) 1 (I (100) 1)) (110) 2 (I (100) 2)) (110) 3 (I (100) 3)) (110) 4 (I (100) 4)) (110) 5 (I (100) 5)) (110) 6 (I (100) 6)) (100) 7 = I (100) 7 := (show (u2 (u2 (u2 (u2 (u2 (u2 (u2 I (110) 0 (I (100) 0)) (110) 1 (I (100) 1)) (110) 2 (I (100) 2)) (110) 3 (I (100) 3)) (110) 4 (I (100) 4)) (110) 5 (I (100) 5)) (110) 6 (I (100) 6)) (100) 7 = I (100) 7 from by simp [u2_v])
  rw [z19]
  refine m_puti (110) 7 hx hb hts hown hE oc8 hM hS (hG.1 110 (by decide)) rfl (by decide) rfl rfl rfl rfl tb_57 dX8_copyFrom_61 (fun H locs I20 eI20 hM hS => ?_)
  subst eI20
  have hI := hI.putF (n := 110) (k := 7) (v := I (100) 7) rfl
  have hK := hK.put (n := 110) (k := 7) (v := I (100) 7) (by first | rfl | simp [inR])
  refine lv_aload_n hx hb dX8_copyFrom_64 rfl (lv_at hl 0 rfl) ?_
  refine lv_aload_n hx hb dX8_copyFrom_65 rfl (lv_at hl 1 rfl) ?_
  refine m_geti (100) 8 hx hb hts hown hE oc8 hM (hG.1 100 (by decide)) rfl (by decide) rfl tb_59 dX8_copyFrom_66 ?_
  have g21 := hI.get (100) 8 (lo := 0) (hi := 24) rfl
  have z22 : (u2 (u2 (u2 (u2 (u2 (u2 (u2 (u2 I (110) 0 (I (100) 0)) (110) 1 (I (100) 1)) (110) 2 (I (100) 2)) (110) 3 (I (100) 3)) (110) 4 (I (100) 4)) (110) 5 (I (100) 5)) (110) 6 (I (100) 6)) (110) 7 (I (100) 7)) (100) 8 = I (100) 8 := (show (u2 (u2 (u2 (u2 (u2 (u2 (u2 (u2 I (110) 0 (I (100) 0)) (110) 1 (I (100) 1)) (110) 2 (I (100) 2)) (110) 3 (I (100) 3)) (110) 4 (I (100) 4)) (110) 5 (I (100) 5)) (110) 6 (I (100) 6)) (110) 7 (I (100) 7)) (100) 8 = I (100) 8 from by simp [u2_v])
  rw [z22] at g21 ⊢
  refine m_puti (110) 8 hx hb hts hown hE oc8 hM hS (hG.1 110 (by decide)) rfl (by decide) rfl rfl rfl rfl tb_59 dX8_copyFrom_69 (fun H locs I23 eI23 hM hS => ?_)
  subst eI23
  have hI := hI.put (n := 110) (k := 8) (v := I (100) 8) (lo := 0) (hi := 24) rfl (by first | omega | decide)
  have hK := hK.put (n := 110) (k := 8) (v := I (100) 8) (by first | rfl | simp [inR])
  refine lv_aload_n hx hb dX8_copyFrom_72 rfl (lv_at hl 0 rfl) ?_
  refine lv_aload_n hx hb dX8_copyFrom_73 rfl (lv_at hl 1 rfl) ?_
  refine m_geti (100) 9 hx hb hts hown hE oc8 hM (hG.1 100 (by decide)) rfl (by decide) rfl tb_63 dX8_copyFrom_74 ?_
  have g24 := hI.get (100) 9 (lo := 0) (hi := 8) rfl
  have z25 : (u2 (u2 (u2 (u2 (u2 (u2 (u2 (u2 (u2 I (110) 0 (I (100) 0)) (110) 1 (I (100) 1)) (110) 2 (I (100) 2)) (110) 3 (I (100) 3)) (110) 4 (I (100) 4)) (110) 5 (I (100) 5)) (110) 6 (I (100) 6)) (110) 7 (I (100) 7)) (110) 8 (I (100) 8)) (100) 9 = I (100) 9 := (show (u2 (u2 (u2 (u2 (u2 (u2 (u2 (u2 (u2 I (110) 0 (I (100) 0)) (110) 1 (I (100) 1)) (110) 2 (I (100) 2)) (110) 3 (I (100) 3)) (110) 4 (I (100) 4)) (110) 5 (I (100) 5)) (110) 6 (I (100) 6)) (110) 7 (I (100) 7)) (110) 8 (I (100) 8)) (100) 9 = I (100) 9 from by simp [u2_v])
  rw [z25] at g24 ⊢
  refine m_puti (110) 9 hx hb hts hown hE oc8 hM hS (hG.1 110 (by decide)) rfl (by decide) rfl rfl rfl rfl tb_63 dX8_copyFrom_77 (fun H locs I26 eI26 hM hS => ?_)
  subst eI26
  have hI := hI.put (n := 110) (k := 9) (v := I (100) 9) (lo := 0) (hi := 8) rfl (by first | omega | decide)
  have hK := hK.put (n := 110) (k := 9) (v := I (100) 9) (by first | rfl | simp [inR])
  refine lv_aload_n hx hb dX8_copyFrom_80 rfl (lv_at hl 1 rfl) ?_
  refine m_getr (100) 10 (101) hx hb hts hown hE oc8 hM (hG.1 100 (by decide)) rfl (by decide) rfl (hG.2 (100, 10, 101) (by decide)) (by decide) tb_66 dX8_copyFrom_81 ?_
  refine lv_iconst (v := (0)) hx hb dX8_copyFrom_84 (by decide) ?_
  refine lv_aload_n hx hb dX8_copyFrom_85 rfl (lv_at hl 0 rfl) ?_
  refine m_getr (110) 10 (111) hx hb hts hown hE oc8 hM (hG.1 110 (by decide)) rfl (by decide) rfl (hG.2 (110, 10, 111) (by decide)) (by decide) tb_66 dX8_copyFrom_86 ?_
  refine lv_iconst (v := (0)) hx hb dX8_copyFrom_89 (by decide) ?_
  refine lv_sipush (v := (576)) hx hb dX8_copyFrom_90 (by decide) ?_
  refine m_copyi (101) (111) hx hb (hml.trans hl.1.symm) hown hE hM hS (hG.1 101 (by decide)) rfl (hG.1 111 (by decide)) rfl (hts _ tb_1151) (hts _ tb_568) (hts _ tb_567) (hts _ tb_13) ⟨⟨by decide, by decide, by decide⟩, by decide, by decide⟩ (Nat.le_of_ble_eq_true rfl) (Nat.le_of_ble_eq_true rfl) dX8_copyFrom_93 (fun H locs I27 eI27 hM hS => ?_)
  have hI : INV I27 := by rw [eI27]; exact hI.cpy (by intro i hi; left; rfl)
  have hK : Kp [(111, 119)] [(110, 0), (110, 1), (110, 2), (110, 3), (110, 4), (110, 5), (110, 6), (110, 7), (110, 8), (110, 9)] I I27 := by rw [eI27]; exact hK.cpy rfl
  have hkI27 : Kp [(111, 112)] [] (u2 (u2 (u2 (u2 (u2 (u2 (u2 (u2 (u2 (u2 I (110) 0 (I (100) 0)) (110) 1 (I (100) 1)) (110) 2 (I (100) 2)) (110) 3 (I (100) 3)) (110) 4 (I (100) 4)) (110) 5 (I (100) 5)) (110) 6 (I (100) 6)) (110) 7 (I (100) 7)) (110) 8 (I (100) 8)) (110) 9 (I (100) 9)) I27 := by rw [eI27]; exact Kp.rf.cpy rfl
  have hcpI27 : ∀ j, j < 576 → I27 111 j = (u2 (u2 (u2 (u2 (u2 (u2 (u2 (u2 (u2 (u2 I (110) 0 (I (100) 0)) (110) 1 (I (100) 1)) (110) 2 (I (100) 2)) (110) 3 (I (100) 3)) (110) 4 (I (100) 4)) (110) 5 (I (100) 5)) (110) 6 (I (100) 6)) (110) 7 (I (100) 7)) (110) 8 (I (100) 8)) (110) 9 (I (100) 9)) 101 j := fun j hj => by rw [eI27]; exact cpy_at rfl hj
  refine lv_aload_n hx hb dX8_copyFrom_96 rfl (lv_at hl 1 rfl) ?_
  refine m_getr (100) 11 (102) hx hb hts hown hE oc8 hM (hG.1 100 (by decide)) rfl (by decide) rfl (hG.2 (100, 11, 102) (by decide)) (by decide) tb_68 dX8_copyFrom_97 ?_
  refine lv_iconst (v := (0)) hx hb dX8_copyFrom_100 (by decide) ?_
  refine lv_aload_n hx hb dX8_copyFrom_101 rfl (lv_at hl 0 rfl) ?_
  refine m_getr (110) 11 (112) hx hb hts hown hE oc8 hM (hG.1 110 (by decide)) rfl (by decide) rfl (hG.2 (110, 11, 112) (by decide)) (by decide) tb_68 dX8_copyFrom_102 ?_
  refine lv_iconst (v := (0)) hx hb dX8_copyFrom_105 (by decide) ?_
  refine lv_sipush (v := (576)) hx hb dX8_copyFrom_106 (by decide) ?_
  refine m_copyi (102) (112) hx hb (hml.trans hl.1.symm) hown hE hM hS (hG.1 102 (by decide)) rfl (hG.1 112 (by decide)) rfl (hts _ tb_1151) (hts _ tb_568) (hts _ tb_567) (hts _ tb_13) ⟨⟨by decide, by decide, by decide⟩, by decide, by decide⟩ (Nat.le_of_ble_eq_true rfl) (Nat.le_of_ble_eq_true rfl) dX8_copyFrom_109 (fun H locs I28 eI28 hM hS => ?_)
  have hI : INV I28 := by rw [eI28]; exact hI.cpy (by intro i hi; left; rfl)
  have hK : Kp [(111, 119)] [(110, 0), (110, 1), (110, 2), (110, 3), (110, 4), (110, 5), (110, 6), (110, 7), (110, 8), (110, 9)] I I28 := by rw [eI28]; exact hK.cpy rfl
  have hkI28 : Kp [(112, 113)] [] I27 I28 := by rw [eI28]; exact Kp.rf.cpy rfl
  have hcpI28 : ∀ j, j < 576 → I28 112 j = I27 102 j := fun j hj => by rw [eI28]; exact cpy_at rfl hj
  refine lv_aload_n hx hb dX8_copyFrom_112 rfl (lv_at hl 1 rfl) ?_
  refine m_getr (100) 12 (103) hx hb hts hown hE oc8 hM (hG.1 100 (by decide)) rfl (by decide) rfl (hG.2 (100, 12, 103) (by decide)) (by decide) tb_71 dX8_copyFrom_113 ?_
  refine lv_iconst (v := (0)) hx hb dX8_copyFrom_116 (by decide) ?_
  refine lv_aload_n hx hb dX8_copyFrom_117 rfl (lv_at hl 0 rfl) ?_
  refine m_getr (110) 12 (113) hx hb hts hown hE oc8 hM (hG.1 110 (by decide)) rfl (by decide) rfl (hG.2 (110, 12, 113) (by decide)) (by decide) tb_71 dX8_copyFrom_118 ?_
  refine lv_iconst (v := (0)) hx hb dX8_copyFrom_121 (by decide) ?_
  refine lv_sipush (v := (576)) hx hb dX8_copyFrom_122 (by decide) ?_
  refine m_copyi (103) (113) hx hb (hml.trans hl.1.symm) hown hE hM hS (hG.1 103 (by decide)) rfl (hG.1 113 (by decide)) rfl (hts _ tb_1151) (hts _ tb_568) (hts _ tb_567) (hts _ tb_13) ⟨⟨by decide, by decide, by decide⟩, by decide, by decide⟩ (Nat.le_of_ble_eq_true rfl) (Nat.le_of_ble_eq_true rfl) dX8_copyFrom_125 (fun H locs I29 eI29 hM hS => ?_)
  have hI : INV I29 := by rw [eI29]; exact hI.cpy (by intro i hi; left; rfl)
  have hK : Kp [(111, 119)] [(110, 0), (110, 1), (110, 2), (110, 3), (110, 4), (110, 5), (110, 6), (110, 7), (110, 8), (110, 9)] I I29 := by rw [eI29]; exact hK.cpy rfl
  have hkI29 : Kp [(113, 114)] [] I28 I29 := by rw [eI29]; exact Kp.rf.cpy rfl
  have hcpI29 : ∀ j, j < 576 → I29 113 j = I28 103 j := fun j hj => by rw [eI29]; exact cpy_at rfl hj
  refine lv_aload_n hx hb dX8_copyFrom_128 rfl (lv_at hl 1 rfl) ?_
  refine m_getr (100) 13 (104) hx hb hts hown hE oc8 hM (hG.1 100 (by decide)) rfl (by decide) rfl (hG.2 (100, 13, 104) (by decide)) (by decide) tb_75 dX8_copyFrom_129 ?_
  refine lv_iconst (v := (0)) hx hb dX8_copyFrom_132 (by decide) ?_
  refine lv_aload_n hx hb dX8_copyFrom_133 rfl (lv_at hl 0 rfl) ?_
  refine m_getr (110) 13 (114) hx hb hts hown hE oc8 hM (hG.1 110 (by decide)) rfl (by decide) rfl (hG.2 (110, 13, 114) (by decide)) (by decide) tb_75 dX8_copyFrom_134 ?_
  refine lv_iconst (v := (0)) hx hb dX8_copyFrom_137 (by decide) ?_
  refine lv_sipush (v := (576)) hx hb dX8_copyFrom_138 (by decide) ?_
  refine m_copyi (104) (114) hx hb (hml.trans hl.1.symm) hown hE hM hS (hG.1 104 (by decide)) rfl (hG.1 114 (by decide)) rfl (hts _ tb_1151) (hts _ tb_568) (hts _ tb_567) (hts _ tb_13) ⟨⟨by decide, by decide, by decide⟩, by decide, by decide⟩ (Nat.le_of_ble_eq_true rfl) (Nat.le_of_ble_eq_true rfl) dX8_copyFrom_141 (fun H locs I30 eI30 hM hS => ?_)
  have hI : INV I30 := by rw [eI30]; exact hI.cpy (by intro i hi; left; rfl)
  have hK : Kp [(111, 119)] [(110, 0), (110, 1), (110, 2), (110, 3), (110, 4), (110, 5), (110, 6), (110, 7), (110, 8), (110, 9)] I I30 := by rw [eI30]; exact hK.cpy rfl
  have hkI30 : Kp [(114, 115)] [] I29 I30 := by rw [eI30]; exact Kp.rf.cpy rfl
  have hcpI30 : ∀ j, j < 576 → I30 114 j = I29 104 j := fun j hj => by rw [eI30]; exact cpy_at rfl hj
  refine lv_aload_n hx hb dX8_copyFrom_144 rfl (lv_at hl 1 rfl) ?_
  refine m_getr (100) 14 (105) hx hb hts hown hE oc8 hM (hG.1 100 (by decide)) rfl (by decide) rfl (hG.2 (100, 14, 105) (by decide)) (by decide) tb_78 dX8_copyFrom_145 ?_
  refine lv_iconst (v := (0)) hx hb dX8_copyFrom_148 (by decide) ?_
  refine lv_aload_n hx hb dX8_copyFrom_149 rfl (lv_at hl 0 rfl) ?_
  refine m_getr (110) 14 (115) hx hb hts hown hE oc8 hM (hG.1 110 (by decide)) rfl (by decide) rfl (hG.2 (110, 14, 115) (by decide)) (by decide) tb_78 dX8_copyFrom_150 ?_
  refine lv_iconst (v := (0)) hx hb dX8_copyFrom_153 (by decide) ?_
  refine lv_sipush (v := (288)) hx hb dX8_copyFrom_154 (by decide) ?_
  refine m_copyi (105) (115) hx hb (hml.trans hl.1.symm) hown hE hM hS (hG.1 105 (by decide)) rfl (hG.1 115 (by decide)) rfl (hts _ tb_1151) (hts _ tb_568) (hts _ tb_567) (hts _ tb_13) ⟨⟨by decide, by decide, by decide⟩, by decide, by decide⟩ (Nat.le_of_ble_eq_true rfl) (Nat.le_of_ble_eq_true rfl) dX8_copyFrom_157 (fun H locs I31 eI31 hM hS => ?_)
  have hI : INV I31 := by rw [eI31]; exact hI.cpy (by intro i hi; left; rfl)
  have hK : Kp [(111, 119)] [(110, 0), (110, 1), (110, 2), (110, 3), (110, 4), (110, 5), (110, 6), (110, 7), (110, 8), (110, 9)] I I31 := by rw [eI31]; exact hK.cpy rfl
  have hkI31 : Kp [(115, 116)] [] I30 I31 := by rw [eI31]; exact Kp.rf.cpy rfl
  have hcpI31 : ∀ j, j < 288 → I31 115 j = I30 105 j := fun j hj => by rw [eI31]; exact cpy_at rfl hj
  refine lv_aload_n hx hb dX8_copyFrom_160 rfl (lv_at hl 1 rfl) ?_
  refine m_getr (100) 15 (106) hx hb hts hown hE oc8 hM (hG.1 100 (by decide)) rfl (by decide) rfl (hG.2 (100, 15, 106) (by decide)) (by decide) tb_80 dX8_copyFrom_161 ?_
  refine lv_iconst (v := (0)) hx hb dX8_copyFrom_164 (by decide) ?_
  refine lv_aload_n hx hb dX8_copyFrom_165 rfl (lv_at hl 0 rfl) ?_
  refine m_getr (110) 15 (116) hx hb hts hown hE oc8 hM (hG.1 110 (by decide)) rfl (by decide) rfl (hG.2 (110, 15, 116) (by decide)) (by decide) tb_80 dX8_copyFrom_166 ?_
  refine lv_iconst (v := (0)) hx hb dX8_copyFrom_169 (by decide) ?_
  refine lv_sipush (v := (288)) hx hb dX8_copyFrom_170 (by decide) ?_
  refine m_copyi (106) (116) hx hb (hml.trans hl.1.symm) hown hE hM hS (hG.1 106 (by decide)) rfl (hG.1 116 (by decide)) rfl (hts _ tb_1151) (hts _ tb_568) (hts _ tb_567) (hts _ tb_13) ⟨⟨by decide, by decide, by decide⟩, by decide, by decide⟩ (Nat.le_of_ble_eq_true rfl) (Nat.le_of_ble_eq_true rfl) dX8_copyFrom_173 (fun H locs I32 eI32 hM hS => ?_)
  have hI : INV I32 := by rw [eI32]; exact hI.cpy (by intro i hi; left; rfl)
  have hK : Kp [(111, 119)] [(110, 0), (110, 1), (110, 2), (110, 3), (110, 4), (110, 5), (110, 6), (110, 7), (110, 8), (110, 9)] I I32 := by rw [eI32]; exact hK.cpy rfl
  have hkI32 : Kp [(116, 117)] [] I31 I32 := by rw [eI32]; exact Kp.rf.cpy rfl
  have hcpI32 : ∀ j, j < 288 → I32 116 j = I31 106 j := fun j hj => by rw [eI32]; exact cpy_at rfl hj
  refine lv_aload_n hx hb dX8_copyFrom_176 rfl (lv_at hl 1 rfl) ?_
  refine m_getr (100) 16 (107) hx hb hts hown hE oc8 hM (hG.1 100 (by decide)) rfl (by decide) rfl (hG.2 (100, 16, 107) (by decide)) (by decide) tb_82 dX8_copyFrom_177 ?_
  refine lv_iconst (v := (0)) hx hb dX8_copyFrom_180 (by decide) ?_
  refine lv_aload_n hx hb dX8_copyFrom_181 rfl (lv_at hl 0 rfl) ?_
  refine m_getr (110) 16 (117) hx hb hts hown hE oc8 hM (hG.1 110 (by decide)) rfl (by decide) rfl (hG.2 (110, 16, 117) (by decide)) (by decide) tb_82 dX8_copyFrom_182 ?_
  refine lv_iconst (v := (0)) hx hb dX8_copyFrom_185 (by decide) ?_
  refine lv_sipush (v := (240)) hx hb dX8_copyFrom_186 (by decide) ?_
  refine m_copyi (107) (117) hx hb (hml.trans hl.1.symm) hown hE hM hS (hG.1 107 (by decide)) rfl (hG.1 117 (by decide)) rfl (hts _ tb_1151) (hts _ tb_568) (hts _ tb_567) (hts _ tb_13) ⟨⟨by decide, by decide, by decide⟩, by decide, by decide⟩ (Nat.le_of_ble_eq_true rfl) (Nat.le_of_ble_eq_true rfl) dX8_copyFrom_189 (fun H locs I33 eI33 hM hS => ?_)
  have hI : INV I33 := by rw [eI33]; exact hI.cpy (by intro i hi; left; rfl)
  have hK : Kp [(111, 119)] [(110, 0), (110, 1), (110, 2), (110, 3), (110, 4), (110, 5), (110, 6), (110, 7), (110, 8), (110, 9)] I I33 := by rw [eI33]; exact hK.cpy rfl
  have hkI33 : Kp [(117, 118)] [] I32 I33 := by rw [eI33]; exact Kp.rf.cpy rfl
  have hcpI33 : ∀ j, j < 240 → I33 117 j = I32 107 j := fun j hj => by rw [eI33]; exact cpy_at rfl hj
  refine lv_aload_n hx hb dX8_copyFrom_192 rfl (lv_at hl 1 rfl) ?_
  refine m_getr (100) 17 (108) hx hb hts hown hE oc8 hM (hG.1 100 (by decide)) rfl (by decide) rfl (hG.2 (100, 17, 108) (by decide)) (by decide) tb_83 dX8_copyFrom_193 ?_
  refine lv_iconst (v := (0)) hx hb dX8_copyFrom_196 (by decide) ?_
  refine lv_aload_n hx hb dX8_copyFrom_197 rfl (lv_at hl 0 rfl) ?_
  refine m_getr (110) 17 (118) hx hb hts hown hE oc8 hM (hG.1 110 (by decide)) rfl (by decide) rfl (hG.2 (110, 17, 118) (by decide)) (by decide) tb_83 dX8_copyFrom_198 ?_
  refine lv_iconst (v := (0)) hx hb dX8_copyFrom_201 (by decide) ?_
  refine lv_bipush (v := (56)) hx hb dX8_copyFrom_202 (by decide) ?_
  refine m_copyi (108) (118) hx hb (hml.trans hl.1.symm) hown hE hM hS (hG.1 108 (by decide)) rfl (hG.1 118 (by decide)) rfl (hts _ tb_1151) (hts _ tb_568) (hts _ tb_567) (hts _ tb_13) ⟨⟨by decide, by decide, by decide⟩, by decide, by decide⟩ (Nat.le_of_ble_eq_true rfl) (Nat.le_of_ble_eq_true rfl) dX8_copyFrom_204 (fun H locs I34 eI34 hM hS => ?_)
  have hI : INV I34 := by rw [eI34]; exact hI.cpy (by intro i hi; left; rfl)
  have hK : Kp [(111, 119)] [(110, 0), (110, 1), (110, 2), (110, 3), (110, 4), (110, 5), (110, 6), (110, 7), (110, 8), (110, 9)] I I34 := by rw [eI34]; exact hK.cpy rfl
  have hkI34 : Kp [(118, 119)] [] I33 I34 := by rw [eI34]; exact Kp.rf.cpy rfl
  have hcpI34 : ∀ j, j < 56 → I34 118 j = I33 108 j := fun j hj => by rw [eI34]; exact cpy_at rfl hj
  have hsc : ∀ j, j < 10 → I34 110 j = I 100 j := by
    intro j hj
    rcases (show j = 0 ∨ j = 1 ∨ j = 2 ∨ j = 3 ∨ j = 4 ∨ j = 5 ∨ j = 6 ∨ j = 7 ∨ j = 8 ∨ j = 9 by omega) with rfl | rfl | rfl | rfl | rfl | rfl | rfl | rfl | rfl | rfl
    · exact (((((((((hkI34.get (110) 0 rfl)).trans (hkI33.get (110) 0 rfl)).trans (hkI32.get (110) 0 rfl)).trans (hkI31.get (110) 0 rfl)).trans (hkI30.get (110) 0 rfl)).trans (hkI29.get (110) 0 rfl)).trans (hkI28.get (110) 0 rfl)).trans (hkI27.get (110) 0 rfl)).trans (show (u2 (u2 (u2 (u2 (u2 (u2 (u2 (u2 (u2 (u2 I (110) 0 (I (100) 0)) (110) 1 (I (100) 1)) (110) 2 (I (100) 2)) (110) 3 (I (100) 3)) (110) 4 (I (100) 4)) (110) 5 (I (100) 5)) (110) 6 (I (100) 6)) (110) 7 (I (100) 7)) (110) 8 (I (100) 8)) (110) 9 (I (100) 9)) (110) 0 = I (100) 0 from by simp [u2_v])
    · exact (((((((((hkI34.get (110) 1 rfl)).trans (hkI33.get (110) 1 rfl)).trans (hkI32.get (110) 1 rfl)).trans (hkI31.get (110) 1 rfl)).trans (hkI30.get (110) 1 rfl)).trans (hkI29.get (110) 1 rfl)).trans (hkI28.get (110) 1 rfl)).trans (hkI27.get (110) 1 rfl)).trans (show (u2 (u2 (u2 (u2 (u2 (u2 (u2 (u2 (u2 (u2 I (110) 0 (I (100) 0)) (110) 1 (I (100) 1)) (110) 2 (I (100) 2)) (110) 3 (I (100) 3)) (110) 4 (I (100) 4)) (110) 5 (I (100) 5)) (110) 6 (I (100) 6)) (110) 7 (I (100) 7)) (110) 8 (I (100) 8)) (110) 9 (I (100) 9)) (110) 1 = I (100) 1 from by simp [u2_v])
    · exact (((((((((hkI34.get (110) 2 rfl)).trans (hkI33.get (110) 2 rfl)).trans (hkI32.get (110) 2 rfl)).trans (hkI31.get (110) 2 rfl)).trans (hkI30.get (110) 2 rfl)).trans (hkI29.get (110) 2 rfl)).trans (hkI28.get (110) 2 rfl)).trans (hkI27.get (110) 2 rfl)).trans (show (u2 (u2 (u2 (u2 (u2 (u2 (u2 (u2 (u2 (u2 I (110) 0 (I (100) 0)) (110) 1 (I (100) 1)) (110) 2 (I (100) 2)) (110) 3 (I (100) 3)) (110) 4 (I (100) 4)) (110) 5 (I (100) 5)) (110) 6 (I (100) 6)) (110) 7 (I (100) 7)) (110) 8 (I (100) 8)) (110) 9 (I (100) 9)) (110) 2 = I (100) 2 from by simp [u2_v])
    · exact (((((((((hkI34.get (110) 3 rfl)).trans (hkI33.get (110) 3 rfl)).trans (hkI32.get (110) 3 rfl)).trans (hkI31.get (110) 3 rfl)).trans (hkI30.get (110) 3 rfl)).trans (hkI29.get (110) 3 rfl)).trans (hkI28.get (110) 3 rfl)).trans (hkI27.get (110) 3 rfl)).trans (show (u2 (u2 (u2 (u2 (u2 (u2 (u2 (u2 (u2 (u2 I (110) 0 (I (100) 0)) (110) 1 (I (100) 1)) (110) 2 (I (100) 2)) (110) 3 (I (100) 3)) (110) 4 (I (100) 4)) (110) 5 (I (100) 5)) (110) 6 (I (100) 6)) (110) 7 (I (100) 7)) (110) 8 (I (100) 8)) (110) 9 (I (100) 9)) (110) 3 = I (100) 3 from by simp [u2_v])
    · exact (((((((((hkI34.get (110) 4 rfl)).trans (hkI33.get (110) 4 rfl)).trans (hkI32.get (110) 4 rfl)).trans (hkI31.get (110) 4 rfl)).trans (hkI30.get (110) 4 rfl)).trans (hkI29.get (110) 4 rfl)).trans (hkI28.get (110) 4 rfl)).trans (hkI27.get (110) 4 rfl)).trans (show (u2 (u2 (u2 (u2 (u2 (u2 (u2 (u2 (u2 (u2 I (110) 0 (I (100) 0)) (110) 1 (I (100) 1)) (110) 2 (I (100) 2)) (110) 3 (I (100) 3)) (110) 4 (I (100) 4)) (110) 5 (I (100) 5)) (110) 6 (I (100) 6)) (110) 7 (I (100) 7)) (110) 8 (I (100) 8)) (110) 9 (I (100) 9)) (110) 4 = I (100) 4 from by simp [u2_v])
    · exact (((((((((hkI34.get (110) 5 rfl)).trans (hkI33.get (110) 5 rfl)).trans (hkI32.get (110) 5 rfl)).trans (hkI31.get (110) 5 rfl)).trans (hkI30.get (110) 5 rfl)).trans (hkI29.get (110) 5 rfl)).trans (hkI28.get (110) 5 rfl)).trans (hkI27.get (110) 5 rfl)).trans (show (u2 (u2 (u2 (u2 (u2 (u2 (u2 (u2 (u2 (u2 I (110) 0 (I (100) 0)) (110) 1 (I (100) 1)) (110) 2 (I (100) 2)) (110) 3 (I (100) 3)) (110) 4 (I (100) 4)) (110) 5 (I (100) 5)) (110) 6 (I (100) 6)) (110) 7 (I (100) 7)) (110) 8 (I (100) 8)) (110) 9 (I (100) 9)) (110) 5 = I (100) 5 from by simp [u2_v])
    · exact (((((((((hkI34.get (110) 6 rfl)).trans (hkI33.get (110) 6 rfl)).trans (hkI32.get (110) 6 rfl)).trans (hkI31.get (110) 6 rfl)).trans (hkI30.get (110) 6 rfl)).trans (hkI29.get (110) 6 rfl)).trans (hkI28.get (110) 6 rfl)).trans (hkI27.get (110) 6 rfl)).trans (show (u2 (u2 (u2 (u2 (u2 (u2 (u2 (u2 (u2 (u2 I (110) 0 (I (100) 0)) (110) 1 (I (100) 1)) (110) 2 (I (100) 2)) (110) 3 (I (100) 3)) (110) 4 (I (100) 4)) (110) 5 (I (100) 5)) (110) 6 (I (100) 6)) (110) 7 (I (100) 7)) (110) 8 (I (100) 8)) (110) 9 (I (100) 9)) (110) 6 = I (100) 6 from by simp [u2_v])
    · exact (((((((((hkI34.get (110) 7 rfl)).trans (hkI33.get (110) 7 rfl)).trans (hkI32.get (110) 7 rfl)).trans (hkI31.get (110) 7 rfl)).trans (hkI30.get (110) 7 rfl)).trans (hkI29.get (110) 7 rfl)).trans (hkI28.get (110) 7 rfl)).trans (hkI27.get (110) 7 rfl)).trans (show (u2 (u2 (u2 (u2 (u2 (u2 (u2 (u2 (u2 (u2 I (110) 0 (I (100) 0)) (110) 1 (I (100) 1)) (110) 2 (I (100) 2)) (110) 3 (I (100) 3)) (110) 4 (I (100) 4)) (110) 5 (I (100) 5)) (110) 6 (I (100) 6)) (110) 7 (I (100) 7)) (110) 8 (I (100) 8)) (110) 9 (I (100) 9)) (110) 7 = I (100) 7 from by simp [u2_v])
    · exact (((((((((hkI34.get (110) 8 rfl)).trans (hkI33.get (110) 8 rfl)).trans (hkI32.get (110) 8 rfl)).trans (hkI31.get (110) 8 rfl)).trans (hkI30.get (110) 8 rfl)).trans (hkI29.get (110) 8 rfl)).trans (hkI28.get (110) 8 rfl)).trans (hkI27.get (110) 8 rfl)).trans (show (u2 (u2 (u2 (u2 (u2 (u2 (u2 (u2 (u2 (u2 I (110) 0 (I (100) 0)) (110) 1 (I (100) 1)) (110) 2 (I (100) 2)) (110) 3 (I (100) 3)) (110) 4 (I (100) 4)) (110) 5 (I (100) 5)) (110) 6 (I (100) 6)) (110) 7 (I (100) 7)) (110) 8 (I (100) 8)) (110) 9 (I (100) 9)) (110) 8 = I (100) 8 from by simp [u2_v])
    · exact (((((((((hkI34.get (110) 9 rfl)).trans (hkI33.get (110) 9 rfl)).trans (hkI32.get (110) 9 rfl)).trans (hkI31.get (110) 9 rfl)).trans (hkI30.get (110) 9 rfl)).trans (hkI29.get (110) 9 rfl)).trans (hkI28.get (110) 9 rfl)).trans (hkI27.get (110) 9 rfl)).trans (show (u2 (u2 (u2 (u2 (u2 (u2 (u2 (u2 (u2 (u2 I (110) 0 (I (100) 0)) (110) 1 (I (100) 1)) (110) 2 (I (100) 2)) (110) 3 (I (100) 3)) (110) 4 (I (100) 4)) (110) 5 (I (100) 5)) (110) 6 (I (100) 6)) (110) 7 (I (100) 7)) (110) 8 (I (100) 8)) (110) 9 (I (100) 9)) (110) 9 = I (100) 9 from by simp [u2_v])
  exact m_vret hx hb hr hlocks hM hS (Nat.le_of_ble_eq_true rfl) (Nat.le_of_ble_eq_true rfl) ⟨_, _, rfl, hI, hK, ⟨hsc, (fun j hj => (congrFun ((((((((hkI34.getA 111 rfl)).trans (hkI33.getA 111 rfl)).trans (hkI32.getA 111 rfl)).trans (hkI31.getA 111 rfl)).trans (hkI30.getA 111 rfl)).trans (hkI29.getA 111 rfl)).trans (hkI28.getA 111 rfl)) j).trans ((hcpI27 j hj).trans (congrFun ((show (u2 (u2 (u2 (u2 (u2 (u2 (u2 (u2 (u2 (u2 I (110) 0 (I (100) 0)) (110) 1 (I (100) 1)) (110) 2 (I (100) 2)) (110) 3 (I (100) 3)) (110) 4 (I (100) 4)) (110) 5 (I (100) 5)) (110) 6 (I (100) 6)) (110) 7 (I (100) 7)) (110) 8 (I (100) 8)) (110) 9 (I (100) 9)) 101 = I 101 from by funext zz; simp [u2_v])) j))), (fun j hj => (congrFun (((((((hkI34.getA 112 rfl)).trans (hkI33.getA 112 rfl)).trans (hkI32.getA 112 rfl)).trans (hkI31.getA 112 rfl)).trans (hkI30.getA 112 rfl)).trans (hkI29.getA 112 rfl)) j).trans ((hcpI28 j hj).trans (congrFun (((hkI27.getA 102 rfl)).trans (show (u2 (u2 (u2 (u2 (u2 (u2 (u2 (u2 (u2 (u2 I (110) 0 (I (100) 0)) (110) 1 (I (100) 1)) (110) 2 (I (100) 2)) (110) 3 (I (100) 3)) (110) 4 (I (100) 4)) (110) 5 (I (100) 5)) (110) 6 (I (100) 6)) (110) 7 (I (100) 7)) (110) 8 (I (100) 8)) (110) 9 (I (100) 9)) 102 = I 102 from by funext zz; simp [u2_v])) j))), (fun j hj => (congrFun ((((((hkI34.getA 113 rfl)).trans (hkI33.getA 113 rfl)).trans (hkI32.getA 113 rfl)).trans (hkI31.getA 113 rfl)).trans (hkI30.getA 113 rfl)) j).trans ((hcpI29 j hj).trans (congrFun ((((hkI28.getA 103 rfl)).trans (hkI27.getA 103 rfl)).trans (show (u2 (u2 (u2 (u2 (u2 (u2 (u2 (u2 (u2 (u2 I (110) 0 (I (100) 0)) (110) 1 (I (100) 1)) (110) 2 (I (100) 2)) (110) 3 (I (100) 3)) (110) 4 (I (100) 4)) (110) 5 (I (100) 5)) (110) 6 (I (100) 6)) (110) 7 (I (100) 7)) (110) 8 (I (100) 8)) (110) 9 (I (100) 9)) 103 = I 103 from by funext zz; simp [u2_v])) j))), (fun j hj => (congrFun (((((hkI34.getA 114 rfl)).trans (hkI33.getA 114 rfl)).trans (hkI32.getA 114 rfl)).trans (hkI31.getA 114 rfl)) j).trans ((hcpI30 j hj).trans (congrFun (((((hkI29.getA 104 rfl)).trans (hkI28.getA 104 rfl)).trans (hkI27.getA 104 rfl)).trans (show (u2 (u2 (u2 (u2 (u2 (u2 (u2 (u2 (u2 (u2 I (110) 0 (I (100) 0)) (110) 1 (I (100) 1)) (110) 2 (I (100) 2)) (110) 3 (I (100) 3)) (110) 4 (I (100) 4)) (110) 5 (I (100) 5)) (110) 6 (I (100) 6)) (110) 7 (I (100) 7)) (110) 8 (I (100) 8)) (110) 9 (I (100) 9)) 104 = I 104 from by funext zz; simp [u2_v])) j))), (fun j hj => (congrFun ((((hkI34.getA 115 rfl)).trans (hkI33.getA 115 rfl)).trans (hkI32.getA 115 rfl)) j).trans ((hcpI31 j hj).trans (congrFun ((((((hkI30.getA 105 rfl)).trans (hkI29.getA 105 rfl)).trans (hkI28.getA 105 rfl)).trans (hkI27.getA 105 rfl)).trans (show (u2 (u2 (u2 (u2 (u2 (u2 (u2 (u2 (u2 (u2 I (110) 0 (I (100) 0)) (110) 1 (I (100) 1)) (110) 2 (I (100) 2)) (110) 3 (I (100) 3)) (110) 4 (I (100) 4)) (110) 5 (I (100) 5)) (110) 6 (I (100) 6)) (110) 7 (I (100) 7)) (110) 8 (I (100) 8)) (110) 9 (I (100) 9)) 105 = I 105 from by funext zz; simp [u2_v])) j))), (fun j hj => (congrFun (((hkI34.getA 116 rfl)).trans (hkI33.getA 116 rfl)) j).trans ((hcpI32 j hj).trans (congrFun (((((((hkI31.getA 106 rfl)).trans (hkI30.getA 106 rfl)).trans (hkI29.getA 106 rfl)).trans (hkI28.getA 106 rfl)).trans (hkI27.getA 106 rfl)).trans (show (u2 (u2 (u2 (u2 (u2 (u2 (u2 (u2 (u2 (u2 I (110) 0 (I (100) 0)) (110) 1 (I (100) 1)) (110) 2 (I (100) 2)) (110) 3 (I (100) 3)) (110) 4 (I (100) 4)) (110) 5 (I (100) 5)) (110) 6 (I (100) 6)) (110) 7 (I (100) 7)) (110) 8 (I (100) 8)) (110) 9 (I (100) 9)) 106 = I 106 from by funext zz; simp [u2_v])) j))), (fun j hj => (congrFun ((hkI34.getA 117 rfl)) j).trans ((hcpI33 j hj).trans (congrFun ((((((((hkI32.getA 107 rfl)).trans (hkI31.getA 107 rfl)).trans (hkI30.getA 107 rfl)).trans (hkI29.getA 107 rfl)).trans (hkI28.getA 107 rfl)).trans (hkI27.getA 107 rfl)).trans (show (u2 (u2 (u2 (u2 (u2 (u2 (u2 (u2 (u2 (u2 I (110) 0 (I (100) 0)) (110) 1 (I (100) 1)) (110) 2 (I (100) 2)) (110) 3 (I (100) 3)) (110) 4 (I (100) 4)) (110) 5 (I (100) 5)) (110) 6 (I (100) 6)) (110) 7 (I (100) 7)) (110) 8 (I (100) 8)) (110) 9 (I (100) 9)) 107 = I 107 from by funext zz; simp [u2_v])) j))), (fun j hj => (congrFun (rfl) j).trans ((hcpI34 j hj).trans (congrFun (((((((((hkI33.getA 108 rfl)).trans (hkI32.getA 108 rfl)).trans (hkI31.getA 108 rfl)).trans (hkI30.getA 108 rfl)).trans (hkI29.getA 108 rfl)).trans (hkI28.getA 108 rfl)).trans (hkI27.getA 108 rfl)).trans (show (u2 (u2 (u2 (u2 (u2 (u2 (u2 (u2 (u2 (u2 I (110) 0 (I (100) 0)) (110) 1 (I (100) 1)) (110) 2 (I (100) 2)) (110) 3 (I (100) 3)) (110) 4 (I (100) 4)) (110) 5 (I (100) 5)) (110) 6 (I (100) 6)) (110) 7 (I (100) 7)) (110) 8 (I (100) 8)) (110) 9 (I (100) 9)) 108 = I 108 from by funext zz; simp [u2_v])) j)))⟩⟩ dX8_copyFrom_207
set_option maxHeartbeats 4000000 in
set_option maxRecDepth 20000 in
theorem V_X9_ahead_y (l : Launch) (D : va_G) (A : Nat → Prop) (ad : Nat → Nat) (ns : List Nat) (I : MI) (L : ML) (G : MG) (a0 : Int32) (a1 : Int32) (a2 : Int32) (hG : SGC ns G) (hI : INV I) (hL : LWS2 ns I G) (hLL : ∀ k : Nat, (k : Int) < (I 0 14).toInt → LWF (lawC (200 + 10 * k) I)) (hRK : RKw (cF 100 I)) (hOK : OKW (cF 100 I)) (hYL : 0 < (I 100 0).toInt → YLY 100 I) (h8 : (I 10 8).toInt = 0) : Met l yX9_ahead (wd yX9_ahead cX9_ahead 7 (some .int)) ({ frames := 7, cells := 0, slots := 0, locals := 171 }) (va_Pc [.ref (ad (0)), .int a0, .int a1, .int a2] (PM D A ad ns I L G)) (va_Qi (fun r u => ∃ I2 L2, u = (ad, ns, I2, L2, G) ∧ INV I2 ∧ Kp [(11, 15), (21, 22), (111, 119)] [(10, 2), (10, 3), (10, 4), (10, 5), (10, 6), (10, 7), (10, 8), (10, 11), (10, 12), (20, 3), (110, 0), (110, 1), (110, 2), (110, 3), (110, 4), (110, 5), (110, 6), (110, 7), (110, 8), (110, 9)] I I2 ∧ (ANW ((0 ≤ a0.toInt ∧ a0.toInt < (I 0 14).toInt) ∧ 0 < (I 100 0).toInt ∧ (1 ≤ a1.toInt ∧ a1.toInt ≤ 10) ∧ -2 ≤ a2.toInt ∧ a2.toInt < (I 100 9).toInt) r (ahV (lawC (200 + 10 * (a0).toNatClampNeg) I) (cF 100 I) (a1).toNatClampNeg a2) (-3) ∧ (I2 10 8).toInt = 0 ∧ EqV (cF 100 I) (cF 100 I2))) (BM D A) A) 0 0 A := by
  refine m_ofW (by decide) (Nat.le_of_ble_eq_true rfl) ?_
  intro p e s m below meth c ls args hC hE hM hA hS hl
  obtain ⟨hx, hb, hml, hown, hts, hr, hlocks, hin⟩ := hC
  have km3 : (-3 : Int32).toInt = -3 := by decide
  have km2 : (-2 : Int32).toInt = -2 := by decide
  have km1 : (-1 : Int32).toInt = -1 := by decide
  have k0 : (0 : Int32).toInt = 0 := by decide
  have k1 : (1 : Int32).toInt = 1 := by decide
  have k10 : (10 : Int32).toInt = 10 := by decide
  have hK : Kp [(11, 15), (21, 22), (111, 119)] [(10, 2), (10, 3), (10, 4), (10, 5), (10, 6), (10, 7), (10, 8), (10, 11), (10, 12), (20, 3), (110, 0), (110, 1), (110, 2), (110, 3), (110, 4), (110, 5), (110, 6), (110, 7), (110, 8), (110, 9)] I I := Kp.rf
  have hl : lv_has ls 7 [(0, .ref (ad (0))), (1, .int (a0)), (2, .int (a1)), (3, .int (a2))] := hl
  refine lv_aload_n hx hb dX9_ahead_0 rfl (lv_at hl 0 rfl) ?_
  refine lv_iload_n hx hb dX9_ahead_1 rfl (lv_at hl 1 rfl) ?_
  refine m_callq (m_runV (0) (As := [.int (a0)]) (rest := []) hx hb hml hown hts hE hM hS hA ce_X9_findLaw tb_740 (V_X9_findLaw_y l D A ad ns I L G (a0) hG hI hL) rfl rfl ⟨Nat.le_of_ble_eq_true rfl, Nat.le_of_ble_eq_true rfl⟩ (hG.1 0 (by decide)) rfl rfl (by decide) rfl hl.1 rfl (Nat.le_of_ble_eq_true rfl) dX9_ahead_2 ⟨Nat.le_of_ble_eq_true rfl, Nat.le_of_ble_eq_true rfl⟩) hS (fun r1 u H locs hw hM hS => ?_)
  obtain ⟨rfl, xr1⟩ := hw
  have hM : Mem D A ad ns I L G H := hM
  have g2 := hI.get 0 14 (lo := 0) (hi := 6) rfl
  rcases xr1 with ⟨rfl, hnl⟩ | ⟨w, rfl, hW, hyl, hwq⟩
  · have hM := hM
    refine lv_astoreN (lv' := [(4, .null), (0, .ref (ad (0))), (1, .int (a0)), (2, .int (a1)), (3, .int (a2))]) hx hb dX9_ahead_5 hl (by decide) rfl (fun ls hl => ?_)
    refine lv_aloadN hx hb dX9_ahead_7 (lv_at hl 0 rfl) ?_
    refine lv_ifnullN (tgt := 32) hx hb dX9_ahead_9 (by decide) ?_
    refine lv_bipush (v := (-3)) hx hb dX9_ahead_32 (by decide) ?_
    exact m_iret hx hb hr hlocks hM hS (Nat.le_of_ble_eq_true rfl) (Nat.le_of_ble_eq_true rfl) ⟨_, _, rfl, hI, hK, ⟨Or.inr ⟨by omega, rfl⟩, h8, EqV.rf⟩⟩ dX9_ahead_34
  have hLF := hLL (a0).toNatClampNeg (by have zz := tn (i := a0) (by omega); omega)
  rw [← hwq] at hLF
  refine lv_astore (lv' := [(4, .ref (ad (w))), (0, .ref (ad (0))), (1, .int (a0)), (2, .int (a1)), (3, .int (a2))]) hx hb dX9_ahead_5 hl (by decide) rfl (fun ls hl => ?_)
  refine lv_aload hx hb dX9_ahead_7 (lv_at hl 0 rfl) ?_
  refine lv_ifnull hx hb dX9_ahead_9 ?_
  refine lv_aload_n hx hb dX9_ahead_12 rfl (lv_at hl 1 rfl) ?_
  refine m_getr (0) 0 (100) hx hb hts hown hE oc9 hM (hG.1 0 (by decide)) rfl (by decide) rfl (hG.2 (0, 0, 100) (by decide)) (by decide) tb_398 dX9_ahead_13 ?_
  refine m_calli (m_runV (100) (As := []) (rest := []) hx hb hml hown hts hE hM hS hA ce_X8_isBegun tb_484 (V_X8_isBegun_100 l D A ad ns I L G hG hI) rfl rfl ⟨Nat.le_of_ble_eq_true rfl, Nat.le_of_ble_eq_true rfl⟩ (hG.1 100 (by decide)) rfl rfl (by decide) rfl hl.1 rfl (Nat.le_of_ble_eq_true rfl) dX9_ahead_16 ⟨Nat.le_of_ble_eq_true rfl, Nat.le_of_ble_eq_true rfl⟩) hS (fun r3 u H locs hw hM hS => ?_)
  obtain ⟨rfl, xr3⟩ := hw
  have hM : Mem D A ad ns I L G H := hM
  have yr3 := bo01 xr3
  refine lv_if_eq (tgt := 32) hx hb dX9_ahead_19 (by decide) (fun c4 => ?_) (fun c4 => ?_)
  · have hc4 := c4
    have q4 := xr3.f hc4
    refine lv_bipush (v := (-3)) hx hb dX9_ahead_32 (by decide) ?_
    exact m_iret hx hb hr hlocks hM hS (Nat.le_of_ble_eq_true rfl) (Nat.le_of_ble_eq_true rfl) ⟨_, _, rfl, hI, hK, ⟨Or.inr ⟨by omega, rfl⟩, h8, EqV.rf⟩⟩ dX9_ahead_34
  · have hc4 := c4
    have q4 := xr3.t hc4
    refine lv_iload_n hx hb dX9_ahead_22 rfl (lv_at hl 3 rfl) ?_
    refine lv_iconst (v := (1)) hx hb dX9_ahead_23 (by decide) ?_
    refine lv_bipush (v := (10)) hx hb dX9_ahead_24 (by decide) ?_
    refine m_calli (m_runS (As := [.int (a1), .int (1), .int (10)]) (rest := []) hx hb hml hown hts hE hM hS hA ce_X9_isWithin tb_451 (V_X9_isWithin l D A ad ns I L G (a1) (1) (10) hI) rfl rfl ⟨Nat.le_of_ble_eq_true rfl, Nat.le_of_ble_eq_true rfl⟩  rfl hl.1 rfl (Nat.le_of_ble_eq_true rfl) dX9_ahead_26 ⟨Nat.le_of_ble_eq_true rfl, Nat.le_of_ble_eq_true rfl⟩) hS (fun r5 u H locs hw hM hS => ?_)
    obtain ⟨rfl, xr5⟩ := hw
    have hM : Mem D A ad ns I L G H := hM
    have yr5 := bo01 xr5
    refine lv_if_ne (tgt := 35) hx hb dX9_ahead_29 (by decide) (fun c6 => ?_) (fun c6 => ?_)
    · have hc6 := c6
      have q6 := xr5.t hc6
      refine lv_iload_n hx hb dX9_ahead_35 rfl (lv_at hl 4 rfl) ?_
      refine lv_bipush (v := (-2)) hx hb dX9_ahead_36 (by decide) ?_
      refine lv_aload_n hx hb dX9_ahead_38 rfl (lv_at hl 1 rfl) ?_
      refine m_getr (0) 0 (100) hx hb hts hown hE oc9 hM (hG.1 0 (by decide)) rfl (by decide) rfl (hG.2 (0, 0, 100) (by decide)) (by decide) tb_398 dX9_ahead_39 ?_
      refine m_geti (100) 9 hx hb hts hown hE oc8 hM (hG.1 100 (by decide)) rfl (by decide) rfl tb_64 dX9_ahead_42 ?_
      have g7 := hI.get (100) 9 (lo := 0) (hi := 8) rfl
      refine lv_iconst (v := (1)) hx hb dX9_ahead_45 (by decide) ?_
      refine lv_isub hx hb dX9_ahead_46 ?_
      refine lv_topi (fun v8 ev8 => ?_)
      have tv8 := a_sub ev8 (by omega) (by omega)
      refine m_calli (m_runS (As := [.int (a2), .int ((-2 : Int32)), .int (v8)]) (rest := []) hx hb hml hown hts hE hM hS hA ce_X9_isWithin tb_451 (V_X9_isWithin l D A ad ns I L G (a2) ((-2 : Int32)) (v8) hI) rfl rfl ⟨Nat.le_of_ble_eq_true rfl, Nat.le_of_ble_eq_true rfl⟩  rfl hl.1 rfl (Nat.le_of_ble_eq_true rfl) dX9_ahead_47 ⟨Nat.le_of_ble_eq_true rfl, Nat.le_of_ble_eq_true rfl⟩) hS (fun r9 u H locs hw hM hS => ?_)
      obtain ⟨rfl, xr9⟩ := hw
      have hM : Mem D A ad ns I L G H := hM
      have yr9 := bo01 xr9
      refine lv_if_ne (tgt := 56) hx hb dX9_ahead_50 (by decide) (fun c10 => ?_) (fun c10 => ?_)
      · have hc10 := c10
        have q10 := xr9.t hc10
        refine lv_aload_n hx hb dX9_ahead_56 rfl (lv_at hl 1 rfl) ?_
        refine m_getr (0) 1 (110) hx hb hts hown hE oc9 hM (hG.1 0 (by decide)) rfl (by decide) rfl (hG.2 (0, 1, 110) (by decide)) (by decide) tb_399 dX9_ahead_57 ?_
        refine lv_aload_n hx hb dX9_ahead_60 rfl (lv_at hl 1 rfl) ?_
        refine m_getr (0) 0 (100) hx hb hts hown hE oc9 hM (hG.1 0 (by decide)) rfl (by decide) rfl (hG.2 (0, 0, 100) (by decide)) (by decide) tb_398 dX9_ahead_61 ?_
        refine m_callv (m_runV (110) (As := [.ref (ad (100))]) (rest := []) hx hb hml hown hts hE hM hS hA ce_X8_copyFrom tb_1147 (V_X8_copyFrom_110_100_y l D A ad ns I L G hG hI) rfl rfl ⟨Nat.le_of_ble_eq_true rfl, Nat.le_of_ble_eq_true rfl⟩ (hG.1 110 (by decide)) rfl rfl (by decide) rfl hl.1 rfl (Nat.le_of_ble_eq_true rfl) dX9_ahead_64 ⟨Nat.le_of_ble_eq_true rfl, Nat.le_of_ble_eq_true rfl⟩) hS (fun u H locs hw hM hS => ?_)
        obtain ⟨I11, L12, rfl, hI, hkI11, xI11⟩ := hw
        have hM : Mem D A ad ns I11 L12 G H := hM
        have hK := hK.trans hkI11 rfl
        refine lv_iconst (v := (0)) hx hb dX9_ahead_67 (by decide) ?_
        refine lv_istore (lv' := [(5, .int (0)), (4, .ref (ad (w))), (0, .ref (ad (0))), (1, .int (a0)), (2, .int (a1)), (3, .int (a2))]) hx hb dX9_ahead_68 hl (by decide) rfl (fun ls hl => ?_)
        refine lv_iconst (v := (0)) hx hb dX9_ahead_70 (by decide) ?_
        refine lv_istore (lv' := [(6, .int (0)), (5, .int (0)), (4, .ref (ad (w))), (0, .ref (ad (0))), (1, .int (a0)), (2, .int (a1)), (3, .int (a2))]) hx hb dX9_ahead_71 hl (by decide) rfl (fun ls hl => ?_)
        have loop73 : ∀ (n : Nat) (x6_73 : Int32) (x5_73 : Int32) (Ia73 : MI) (La73 : ML) (H : Heap) (locs : List Loc) (ls : Array Slot), INV Ia73 → Kp [(11, 15), (21, 22), (111, 119)] [(10, 2), (10, 3), (10, 4), (10, 5), (10, 6), (10, 7), (10, 8), (10, 11), (10, 12), (20, 3), (110, 0), (110, 1), (110, 2), (110, 3), (110, 4), (110, 5), (110, 6), (110, 7), (110, 8), (110, 9)] I Ia73 → (0 ≤ x6_73.toInt ∧ x6_73.toInt ≤ 10) → ((x6_73).toInt ≤ a1.toInt) → (EqV (dayN (lawC w I) (cF 100 I) (x6_73).toNatClampNeg) (cF 110 Ia73)) → ((Ia73 10 8).toInt = 0) → (YLY 110 Ia73) → (0 < (Ia73 110 0).toInt) → (a2.toInt = -1 → x5_73 = blD (lawC w I) (cF 100 I) (x6_73).toNatClampNeg) → (cF 100 Ia73 = cF 100 I) → (10 - x6_73.toInt).toNat < n → Mem D A ad ns Ia73 La73 G H → va_S A s.heap H locs → lv_has ls 7 [(6, .int (x6_73)), (5, .int (x5_73)), (4, .ref (ad (w))), (0, .ref (ad (0))), (1, .int (a0)), (2, .int (a1)), (3, .int (a2))] → W p l e ({ frames := 7, cells := 0, slots := 0, locals := 171 } : Room) s m args below meth c H locs 0 0 (MQ below (va_Qi (fun r u => ∃ I2 L2, u = (ad, ns, I2, L2, G) ∧ INV I2 ∧ Kp [(11, 15), (21, 22), (111, 119)] [(10, 2), (10, 3), (10, 4), (10, 5), (10, 6), (10, 7), (10, 8), (10, 11), (10, 12), (20, 3), (110, 0), (110, 1), (110, 2), (110, 3), (110, 4), (110, 5), (110, 6), (110, 7), (110, 8), (110, 9)] I I2 ∧ (ANW ((0 ≤ a0.toInt ∧ a0.toInt < (I 0 14).toInt) ∧ 0 < (I 100 0).toInt ∧ (1 ≤ a1.toInt ∧ a1.toInt ≤ 10) ∧ -2 ≤ a2.toInt ∧ a2.toInt < (I 100 9).toInt) r (ahV (lawC (200 + 10 * (a0).toNatClampNeg) I) (cF 100 I) (a1).toNatClampNeg a2) (-3) ∧ (I2 10 8).toInt = 0 ∧ EqV (cF 100 I) (cF 100 I2))) (BM D A) A) args s 0 0 A) (F0 m 73 ls []) := by
          intro n
          induction n with
          | zero =>
            intro x6_73 x5_73 Ia73 La73 H locs ls hI hK hr6_73 hle73 hv73 h873 hy73 hb0 hb73 hc73 hmu
            exact absurd hmu (Nat.not_lt_zero _)
          | succ n ih73 =>
            intro x6_73 x5_73 Ia73 La73 H locs ls hI hK hr6_73 hle73 hv73 h873 hy73 hb0 hb73 hc73 hmu73 hM hS hl
            have gy9 := hI.get 110 9 (lo := 0) (hi := 8) rfl
            refine lv_iload hx hb dX9_ahead_73 (lv_at hl 0 rfl) ?_
            refine lv_iload_n hx hb dX9_ahead_75 rfl (lv_at hl 5 rfl) ?_
            refine lv_icmp_ge (tgt := 113) hx hb dX9_ahead_76 (by decide) (fun c13 => ?_) (fun c13 => ?_)
            · have hc13 := c13
              have q13 := q_le hc13
              refine lv_iload_n hx hb dX9_ahead_113 rfl (lv_at hl 6 rfl) ?_
              refine lv_bipush (v := (-2)) hx hb dX9_ahead_114 (by decide) ?_
              refine lv_icmp_ne (tgt := 127) hx hb dX9_ahead_116 (by decide) (fun c14 => ?_) (fun c14 => ?_)
              · have hc14 := c14
                have q14 := q_ne hc14
                refine lv_iload_n hx hb dX9_ahead_127 rfl (lv_at hl 6 rfl) ?_
                refine lv_iconst (v := (-1)) hx hb dX9_ahead_128 (by decide) ?_
                refine lv_icmp_ne (tgt := 137) hx hb dX9_ahead_129 (by decide) (fun c15 => ?_) (fun c15 => ?_)
                · have hc15 := c15
                  have q15 := q_ne hc15
                  refine lv_aload_n hx hb dX9_ahead_137 rfl (lv_at hl 3 rfl) ?_
                  refine m_getr (0) 1 (110) hx hb hts hown hE oc9 hM (hG.1 0 (by decide)) rfl (by decide) rfl (hG.2 (0, 1, 110) (by decide)) (by decide) tb_399 dX9_ahead_138 ?_
                  refine lv_iload_n hx hb dX9_ahead_141 rfl (lv_at hl 6 rfl) ?_
                  refine lv_iconst (v := (0)) hx hb dX9_ahead_142 (by decide) ?_
                  refine m_calli (m_runV (110) (As := [.int (a2), .int (0)]) (rest := []) hx hb hml hown hts hE hM hS hA ce_X8_ofYard tb_897 (V_X8_ofYard_110_l l D A ad ns Ia73 La73 G (a2) (0) hG hI (by first | omega | decide) (by first | omega | decide)) rfl rfl ⟨Nat.le_of_ble_eq_true rfl, Nat.le_of_ble_eq_true rfl⟩ (hG.1 110 (by decide)) rfl rfl (by decide) rfl hl.1 rfl (Nat.le_of_ble_eq_true rfl) dX9_ahead_143 ⟨Nat.le_of_ble_eq_true rfl, Nat.le_of_ble_eq_true rfl⟩) hS (fun r16 u H locs hw hM hS => ?_)
                  obtain ⟨rfl, xr16⟩ := hw
                  have hM : Mem D A ad ns Ia73 La73 G H := hM
                  rw [show (0 : Int32).toNatClampNeg = 0 from rfl, show 8 * 0 = 0 from rfl] at xr16
                  have hna : (x6_73).toNatClampNeg = (a1).toNatClampNeg := congrArg Int32.toNatClampNeg (Int32.toInt_inj.mp (by omega))
                  have hv74 := hv73
                  have hb74 := hb73
                  rw [hna, hwq] at hv74 hb74
                  exact m_iret hx hb hr hlocks hM hS (Nat.le_of_ble_eq_true rfl) (Nat.le_of_ble_eq_true rfl) ⟨_, _, rfl, hI, hK, ⟨Or.inl ⟨by omega, by unfold ahV; rw [if_neg (by omega), if_neg (by omega), xr16, ← hv74 23 (a2).toNatClampNeg (by decide) (by decide) (by have z := tn (i := a2) (by omega); show _ < 8; omega)]; show _ = Ia73 118 (0 + (a2).toNatClampNeg); rw [Nat.zero_add]⟩, h873, by rw [hc73]; exact EqV.rf⟩⟩ dX9_ahead_146
                · have hc15 := c15
                  have q15 := q_eq hc15
                  refine lv_iload hx hb dX9_ahead_132 (lv_at hl 1 rfl) ?_
                  refine lv_goto (tgt := 146) hx hb dX9_ahead_134 (by decide) ?_
                  have hna : (x6_73).toNatClampNeg = (a1).toNatClampNeg := congrArg Int32.toNatClampNeg (Int32.toInt_inj.mp (by omega))
                  have hv74 := hv73
                  have hb74 := hb73
                  rw [hna, hwq] at hv74 hb74
                  exact m_iret hx hb hr hlocks hM hS (Nat.le_of_ble_eq_true rfl) (Nat.le_of_ble_eq_true rfl) ⟨_, _, rfl, hI, hK, ⟨Or.inl ⟨by omega, by unfold ahV; rw [if_neg (by omega), if_pos (by omega)]; exact hb74 (by omega)⟩, h873, by rw [hc73]; exact EqV.rf⟩⟩ dX9_ahead_146
              · have hc14 := c14
                have q14 := q_eq hc14
                refine lv_aload_n hx hb dX9_ahead_119 rfl (lv_at hl 3 rfl) ?_
                refine m_getr (0) 1 (110) hx hb hts hown hE oc9 hM (hG.1 0 (by decide)) rfl (by decide) rfl (hG.2 (0, 1, 110) (by decide)) (by decide) tb_399 dX9_ahead_120 ?_
                refine m_calli (m_runV (110) (As := []) (rest := []) hx hb hml hown hts hE hM hS hA ce_X8_metCount tb_880 (V_X8_metCount_110_y l D A ad ns Ia73 La73 G hG hI) rfl rfl ⟨Nat.le_of_ble_eq_true rfl, Nat.le_of_ble_eq_true rfl⟩ (hG.1 110 (by decide)) rfl rfl (by decide) rfl hl.1 rfl (Nat.le_of_ble_eq_true rfl) dX9_ahead_123 ⟨Nat.le_of_ble_eq_true rfl, Nat.le_of_ble_eq_true rfl⟩) hS (fun r17 u H locs hw hM hS => ?_)
                obtain ⟨rfl, xr17⟩ := hw
                have hM : Mem D A ad ns Ia73 La73 G H := hM
                have hna : (x6_73).toNatClampNeg = (a1).toNatClampNeg := congrArg Int32.toNatClampNeg (Int32.toInt_inj.mp (by omega))
                have hv74 := hv73
                have hb74 := hb73
                rw [hna, hwq] at hv74 hb74
                exact m_iret hx hb hr hlocks hM hS (Nat.le_of_ble_eq_true rfl) (Nat.le_of_ble_eq_true rfl) ⟨_, _, rfl, hI, hK, ⟨Or.inl ⟨by omega, by unfold ahV; rw [if_pos (by omega), xr17]; exact metV_eq hv74 (dayN_ok hOK _).n9⟩, h873, by rw [hc73]; exact EqV.rf⟩⟩ dX9_ahead_126
            · have hc13 := c13
              have q13 := q_nle hc13
              refine lv_iload hx hb dX9_ahead_79 (lv_at hl 1 rfl) ?_
              refine lv_aload_n hx hb dX9_ahead_81 rfl (lv_at hl 3 rfl) ?_
              refine m_getr (0) 4 (20) hx hb hts hown hE oc9 hM (hG.1 0 (by decide)) rfl (by decide) rfl (hG.2 (0, 4, 20) (by decide)) (by decide) tb_402 dX9_ahead_82 ?_
              refine lv_aload_n hx hb dX9_ahead_85 rfl (lv_at hl 3 rfl) ?_
              refine m_getr (0) 1 (110) hx hb hts hown hE oc9 hM (hG.1 0 (by decide)) rfl (by decide) rfl (hG.2 (0, 1, 110) (by decide)) (by decide) tb_399 dX9_ahead_86 ?_
              refine lv_aload hx hb dX9_ahead_89 (lv_at hl 2 rfl) ?_
              refine lv_iload_n hx hb dX9_ahead_91 rfl (lv_at hl 6 rfl) ?_
              refine lv_iconst (v := (-1)) hx hb dX9_ahead_92 (by decide) ?_
              refine lv_icmp_ne (tgt := 100) hx hb dX9_ahead_93 (by decide) (fun c18 => ?_) (fun c18 => ?_)
              · have hc18 := c18
                have q18 := q_ne hc18
                refine lv_iconst (v := (0)) hx hb dX9_ahead_100 (by decide) ?_
                have hLcN : ∀ n, n < 6 → lawC w Ia73 n = lawC w I n := lawC_kp hW.1 hK (by decide) (by decide)
                have hyN : YLY 110 Ia73 := hy73
                refine m_calli (m_runV (20) (As := [.ref (ad (110)), .ref (ad (w)), .int (0)]) (rest := [.int (x5_73)]) hx hb hml hown hts hE hM hS hA ce_X2_passDay tb_744 (V_X2_passDay_110_y l D A ad ns Ia73 La73 G (w) (0) hG hI hW (by omega) ((dayN_rk hRK (x6_73).toNatClampNeg).eq hv73) ((dayN_ok hOK (x6_73).toNatClampNeg).eq hv73) (hLF.eq hLcN) hyN h873 (by first | omega | decide)) rfl rfl ⟨Nat.le_of_ble_eq_true rfl, Nat.le_of_ble_eq_true rfl⟩ (hG.1 20 (by decide)) rfl rfl (by decide) rfl hl.1 rfl (Nat.le_of_ble_eq_true rfl) dX9_ahead_101 ⟨Nat.le_of_ble_eq_true rfl, Nat.le_of_ble_eq_true rfl⟩) hS (fun r19 u H locs hw hM hS => ?_)
                obtain ⟨I20, L21, rfl, hI, hkI20, xr19⟩ := hw
                have hM : Mem D A ad ns I20 L21 G H := hM
                have hK := hK.trans hkI20 rfl
                have xD := xr19
                rw [dayS_L hLcN, blS_L hLcN] at xD
                have hvN : EqV (dayN (lawC w I) (cF 100 I) ((x6_73).toNatClampNeg + 1)) (cF 110 I20) := (dayS_eq (dayN_ok hOK _) hv73).tr xD.1
                refine lv_iadd hx hb dX9_ahead_104 ?_
                refine lv_topi (fun v22 ev22 => ?_)
                refine lv_istore (lv' := [(5, .int (v22)), (6, .int (x6_73)), (4, .ref (ad (w))), (0, .ref (ad (0))), (1, .int (a0)), (2, .int (a1)), (3, .int (a2))]) hx hb dX9_ahead_105 hl (by decide) rfl (fun ls hl => ?_)
                obtain ⟨v23, ev23⟩ : ∃ z : Int32, z = x6_73 + Int32.ofInt (1) := ⟨_, rfl⟩
                have tv23 := a_inc ev23 (by decide) (by omega) (by omega)
                refine lv_iinc (v := v23) (lv' := [(6, .int (v23)), (5, .int (v22)), (4, .ref (ad (w))), (0, .ref (ad (0))), (1, .int (a0)), (2, .int (a1)), (3, .int (a2))]) hx hb dX9_ahead_107 hl (k := 1) rfl ev23.symm (by decide) rfl (fun ls hl => ?_)
                refine lv_goto (tgt := 73) hx hb dX9_ahead_110 (by decide) ?_
                have hnn : (v23).toNatClampNeg = (x6_73).toNatClampNeg + 1 := by have z1 := tn (i := v23) (by omega); have z2 := tn (i := x6_73) (by omega); omega
                exact ih73 (v23) (v22) I20 L21 _ _ ls hI hK (by first | omega | decide) (by omega) (by rw [hnn]; exact hvN) xD.2.1 (hy73.of ((hkI20.getA 114 rfl)) ((hkI20.get (110) 9 rfl)) (fun k hk => by obtain ⟨q1, q2, q3, q4⟩ := hvN.yds k hk; obtain ⟨g1, g2, g3, g4⟩ := hv73.yds k hk; rw [q1, q2, q3, q4, g1, g2, g3, g4]; exact ⟨(dayS_st (by decide) (by decide) (by decide) (by omega)), (dayS_st (by decide) (by decide) (by decide) (by omega)), (dayS_st (by decide) (by decide) (by decide) (by omega)), (dayS_st (by decide) (by decide) (by decide) (by omega))⟩) ((dayN_ok hOK _).eq hv73).n9) (by rw [(hkI20.get (110) 0 rfl)]; exact hb0) (fun hz => by exfalso; omega) ((cF_fr hkI20 rfl).trans hc73) (by omega) hM hS (lv_sub hl [0, 1, 2, 3, 4, 5, 6] rfl)
              · have hc18 := c18
                have q18 := q_eq hc18
                refine lv_iconst (v := (1)) hx hb dX9_ahead_96 (by decide) ?_
                refine lv_goto (tgt := 101) hx hb dX9_ahead_97 (by decide) ?_
                have hLcN : ∀ n, n < 6 → lawC w Ia73 n = lawC w I n := lawC_kp hW.1 hK (by decide) (by decide)
                have hyN : YLY 110 Ia73 := hy73
                refine m_calli (m_runV (20) (As := [.ref (ad (110)), .ref (ad (w)), .int (1)]) (rest := [.int (x5_73)]) hx hb hml hown hts hE hM hS hA ce_X2_passDay tb_744 (V_X2_passDay_110_y l D A ad ns Ia73 La73 G (w) (1) hG hI hW (by omega) ((dayN_rk hRK (x6_73).toNatClampNeg).eq hv73) ((dayN_ok hOK (x6_73).toNatClampNeg).eq hv73) (hLF.eq hLcN) hyN h873 (by first | omega | decide)) rfl rfl ⟨Nat.le_of_ble_eq_true rfl, Nat.le_of_ble_eq_true rfl⟩ (hG.1 20 (by decide)) rfl rfl (by decide) rfl hl.1 rfl (Nat.le_of_ble_eq_true rfl) dX9_ahead_101 ⟨Nat.le_of_ble_eq_true rfl, Nat.le_of_ble_eq_true rfl⟩) hS (fun r24 u H locs hw hM hS => ?_)
                obtain ⟨I25, L26, rfl, hI, hkI25, xr24⟩ := hw
                have hM : Mem D A ad ns I25 L26 G H := hM
                have hK := hK.trans hkI25 rfl
                have xD := xr24
                rw [dayS_L hLcN, blS_L hLcN] at xD
                have hvN : EqV (dayN (lawC w I) (cF 100 I) ((x6_73).toNatClampNeg + 1)) (cF 110 I25) := (dayS_eq (dayN_ok hOK _) hv73).tr xD.1
                refine lv_iadd hx hb dX9_ahead_104 ?_
                refine lv_topi (fun v27 ev27 => ?_)
                refine lv_istore (lv' := [(5, .int (v27)), (6, .int (x6_73)), (4, .ref (ad (w))), (0, .ref (ad (0))), (1, .int (a0)), (2, .int (a1)), (3, .int (a2))]) hx hb dX9_ahead_105 hl (by decide) rfl (fun ls hl => ?_)
                obtain ⟨v28, ev28⟩ : ∃ z : Int32, z = x6_73 + Int32.ofInt (1) := ⟨_, rfl⟩
                have tv28 := a_inc ev28 (by decide) (by omega) (by omega)
                refine lv_iinc (v := v28) (lv' := [(6, .int (v28)), (5, .int (v27)), (4, .ref (ad (w))), (0, .ref (ad (0))), (1, .int (a0)), (2, .int (a1)), (3, .int (a2))]) hx hb dX9_ahead_107 hl (k := 1) rfl ev28.symm (by decide) rfl (fun ls hl => ?_)
                refine lv_goto (tgt := 73) hx hb dX9_ahead_110 (by decide) ?_
                have hnn : (v28).toNatClampNeg = (x6_73).toNatClampNeg + 1 := by have z1 := tn (i := v28) (by omega); have z2 := tn (i := x6_73) (by omega); omega
                exact ih73 (v28) (v27) I25 L26 _ _ ls hI hK (by first | omega | decide) (by omega) (by rw [hnn]; exact hvN) xD.2.1 (hy73.of ((hkI25.getA 114 rfl)) ((hkI25.get (110) 9 rfl)) (fun k hk => by obtain ⟨q1, q2, q3, q4⟩ := hvN.yds k hk; obtain ⟨g1, g2, g3, g4⟩ := hv73.yds k hk; rw [q1, q2, q3, q4, g1, g2, g3, g4]; exact ⟨(dayS_st (by decide) (by decide) (by decide) (by omega)), (dayS_st (by decide) (by decide) (by decide) (by omega)), (dayS_st (by decide) (by decide) (by decide) (by omega)), (dayS_st (by decide) (by decide) (by decide) (by omega))⟩) ((dayN_ok hOK _).eq hv73).n9) (by rw [(hkI25.get (110) 0 rfl)]; exact hb0) (fun hz => by rw [show (v28).toNatClampNeg = (x6_73).toNatClampNeg + 1 from hnn]; rw [ev27, hb73 hz, xD.2.2 (by decide)]; show _ = blD (lawC w I) (cF 100 I) _ + blS (lawC w I) (dayN (lawC w I) (cF 100 I) _) 24; rw [blS_eq (dayN_ok hOK _) hv73 24 (Nat.le_refl _)]) ((cF_fr hkI25 rfl).trans hc73) (by omega) hM hS (lv_sub hl [0, 1, 2, 3, 4, 5, 6] rfl)
        exact loop73 (_ + 1) (0) (0) I11 L12 _ _ ls hI hK (by first | omega | decide) (by omega) (show EqV (cF 100 I) (cF 110 I11) from xI11.eqv) (by rw [(hkI11.get (10) 8 rfl)]; exact h8) (xI11.yly (hYL (by omega)) hOK.n9) (by rw [xI11.1 0 (by decide)]; omega) (fun _ => rfl) (cF_fr hkI11 rfl) (Nat.lt_succ_self _) hM hS (lv_sub hl [0, 1, 2, 3, 4, 5, 6] rfl)
      · have hc10 := c10
        have q10 := xr9.f hc10
        refine lv_bipush (v := (-3)) hx hb dX9_ahead_53 (by decide) ?_
        exact m_iret hx hb hr hlocks hM hS (Nat.le_of_ble_eq_true rfl) (Nat.le_of_ble_eq_true rfl) ⟨_, _, rfl, hI, hK, ⟨Or.inr ⟨by omega, rfl⟩, h8, EqV.rf⟩⟩ dX9_ahead_55
    · have hc6 := c6
      have q6 := xr5.f hc6
      refine lv_bipush (v := (-3)) hx hb dX9_ahead_32 (by decide) ?_
      exact m_iret hx hb hr hlocks hM hS (Nat.le_of_ble_eq_true rfl) (Nat.le_of_ble_eq_true rfl) ⟨_, _, rfl, hI, hK, ⟨Or.inr ⟨by omega, rfl⟩, h8, EqV.rf⟩⟩ dX9_ahead_34
theorem RKw.m5 {V : VW} {v : Int32} (h : RKw V) (hv : 0 ≤ v.toInt ∧ v.toInt ≤ 11) : RKw (stV V 1 5 v) := by
  obtain ⟨⟨h1, h2, h3, h4, h5, h7⟩, h8⟩ := h
  exact ⟨⟨h1, h2, hv, h4, h5, h7⟩, h8⟩
theorem OKW.m5 {V : VW} {v : Int32} (h : OKW V) (hv : 0 ≤ v.toInt ∧ v.toInt ≤ 11) : OKW (stV V 1 5 v) := ⟨hv, h.2.1, h.2.2.1, h.2.2.2.of rfl rfl rfl rfl ⟨rfl, rfl, rfl, rfl⟩⟩
set_option maxHeartbeats 4000000 in
set_option maxRecDepth 20000 in
theorem V_X9_dark_y (l : Launch) (D : va_G) (A : Nat → Prop) (ad : Nat → Nat) (ns : List Nat) (I : MI) (L : ML) (G : MG) (a0 : Int32) (a1 : Int32) (a2 : Int32) (hG : SGC ns G) (hI : INV I) (hL : LWS2 ns I G) (hLL : ∀ k : Nat, (k : Int) < (I 0 14).toInt → LWF (lawC (200 + 10 * k) I)) (hRK : RKw (cF 100 I)) (hOK : OKW (cF 100 I)) (hYL : 0 < (I 100 0).toInt → YLY 100 I) (h8 : (I 10 8).toInt = 0) (hBG : 0 < (I 100 9).toInt → 0 < (I 100 0).toInt) : Met l yX9_dark (wd yX9_dark cX9_dark 7 (some .int)) ({ frames := 7, cells := 0, slots := 0, locals := 171 }) (va_Pc [.ref (ad (0)), .int a0, .int a1, .int a2] (PM D A ad ns I L G)) (va_Qi (fun r u => ∃ I2 L2, u = (ad, ns, I2, L2, G) ∧ INV I2 ∧ Kp [(11, 15), (21, 22), (111, 119)] [(10, 2), (10, 3), (10, 4), (10, 5), (10, 6), (10, 7), (10, 8), (10, 11), (10, 12), (20, 3), (110, 0), (110, 1), (110, 2), (110, 3), (110, 4), (110, 5), (110, 6), (110, 7), (110, 8), (110, 9)] I I2 ∧ ((I2 10 8).toInt = 0 ∧ EqV (cF 100 I) (cF 100 I2))) (BM D A) A) 0 0 A := by
  refine m_ofW (by decide) (Nat.le_of_ble_eq_true rfl) ?_
  intro p e s m below meth c ls args hC hE hM hA hS hl
  obtain ⟨hx, hb, hml, hown, hts, hr, hlocks, hin⟩ := hC
  have km1 : (-1 : Int32).toInt = -1 := by decide
  have k0 : (0 : Int32).toInt = 0 := by decide
  have k1 : (1 : Int32).toInt = 1 := by decide
  have k12 : (12 : Int32).toInt = 12 := by decide
  have hK : Kp [(11, 15), (21, 22), (111, 119)] [(10, 2), (10, 3), (10, 4), (10, 5), (10, 6), (10, 7), (10, 8), (10, 11), (10, 12), (20, 3), (110, 0), (110, 1), (110, 2), (110, 3), (110, 4), (110, 5), (110, 6), (110, 7), (110, 8), (110, 9)] I I := Kp.rf
  have hl : lv_has ls 7 [(0, .ref (ad (0))), (1, .int (a0)), (2, .int (a1)), (3, .int (a2))] := hl
  refine lv_aload_n hx hb dX9_dark_0 rfl (lv_at hl 0 rfl) ?_
  refine lv_iload_n hx hb dX9_dark_1 rfl (lv_at hl 1 rfl) ?_
  refine m_callq (m_runV (0) (As := [.int (a0)]) (rest := []) hx hb hml hown hts hE hM hS hA ce_X9_findLaw tb_740 (V_X9_findLaw_y l D A ad ns I L G (a0) hG hI hL) rfl rfl ⟨Nat.le_of_ble_eq_true rfl, Nat.le_of_ble_eq_true rfl⟩ (hG.1 0 (by decide)) rfl rfl (by decide) rfl hl.1 rfl (Nat.le_of_ble_eq_true rfl) dX9_dark_2 ⟨Nat.le_of_ble_eq_true rfl, Nat.le_of_ble_eq_true rfl⟩) hS (fun r1 u H locs hw hM hS => ?_)
  obtain ⟨rfl, xr1⟩ := hw
  have hM : Mem D A ad ns I L G H := hM
  have g2 := hI.get 0 14 (lo := 0) (hi := 6) rfl
  rcases xr1 with ⟨rfl, hnl⟩ | ⟨w, rfl, hW, hyl, hwq⟩
  · have hM := hM
    refine lv_astoreN (lv' := [(4, .null), (0, .ref (ad (0))), (1, .int (a0)), (2, .int (a1)), (3, .int (a2))]) hx hb dX9_dark_5 hl (by decide) rfl (fun ls hl => ?_)
    refine lv_aloadN hx hb dX9_dark_7 (lv_at hl 0 rfl) ?_
    refine lv_ifnullN (tgt := 27) hx hb dX9_dark_9 (by decide) ?_
    refine lv_iconst (v := (-1)) hx hb dX9_dark_27 (by decide) ?_
    exact m_iret hx hb hr hlocks hM hS (Nat.le_of_ble_eq_true rfl) (Nat.le_of_ble_eq_true rfl) ⟨_, _, rfl, hI, hK, ⟨h8, EqV.rf⟩⟩ dX9_dark_28
  have hLF := hLL (a0).toNatClampNeg (by have zz := tn (i := a0) (by omega); omega)
  rw [← hwq] at hLF
  refine lv_astore (lv' := [(4, .ref (ad (w))), (0, .ref (ad (0))), (1, .int (a0)), (2, .int (a1)), (3, .int (a2))]) hx hb dX9_dark_5 hl (by decide) rfl (fun ls hl => ?_)
  refine lv_aload hx hb dX9_dark_7 (lv_at hl 0 rfl) ?_
  refine lv_ifnull hx hb dX9_dark_9 ?_
  refine lv_aload_n hx hb dX9_dark_12 rfl (lv_at hl 1 rfl) ?_
  refine m_getr (0) 0 (100) hx hb hts hown hE oc9 hM (hG.1 0 (by decide)) rfl (by decide) rfl (hG.2 (0, 0, 100) (by decide)) (by decide) tb_398 dX9_dark_13 ?_
  refine lv_iload_n hx hb dX9_dark_16 rfl (lv_at hl 3 rfl) ?_
  refine m_calli (m_runV (100) (As := [.int (a1)]) (rest := []) hx hb hml hown hts hE hM hS hA ce_X8_hasYard tb_893 (V_X8_hasYard_100 l D A ad ns I L G (a1) hG hI) rfl rfl ⟨Nat.le_of_ble_eq_true rfl, Nat.le_of_ble_eq_true rfl⟩ (hG.1 100 (by decide)) rfl rfl (by decide) rfl hl.1 rfl (Nat.le_of_ble_eq_true rfl) dX9_dark_17 ⟨Nat.le_of_ble_eq_true rfl, Nat.le_of_ble_eq_true rfl⟩) hS (fun r3 u H locs hw hM hS => ?_)
  obtain ⟨rfl, xr3⟩ := hw
  have hM : Mem D A ad ns I L G H := hM
  have yr3 := bo01 xr3
  have g4 := hI.get 100 9 (lo := 0) (hi := 8) rfl
  refine lv_if_eq (tgt := 27) hx hb dX9_dark_20 (by decide) (fun c5 => ?_) (fun c5 => ?_)
  · have hc5 := c5
    have q5 := xr3.f hc5
    refine lv_iconst (v := (-1)) hx hb dX9_dark_27 (by decide) ?_
    exact m_iret hx hb hr hlocks hM hS (Nat.le_of_ble_eq_true rfl) (Nat.le_of_ble_eq_true rfl) ⟨_, _, rfl, hI, hK, ⟨h8, EqV.rf⟩⟩ dX9_dark_28
  · have hc5 := c5
    have q5 := xr3.t hc5
    refine lv_iload_n hx hb dX9_dark_23 rfl (lv_at hl 4 rfl) ?_
    refine lv_if_ge (tgt := 29) hx hb dX9_dark_24 (by decide) (fun c6 => ?_) (fun c6 => ?_)
    · have hc6 := c6
      have q6 := q_le hc6
      refine lv_iconst (v := (0)) hx hb dX9_dark_29 (by decide) ?_
      refine lv_istore (lv' := [(5, .int (0)), (4, .ref (ad (w))), (0, .ref (ad (0))), (1, .int (a0)), (2, .int (a1)), (3, .int (a2))]) hx hb dX9_dark_30 hl (by decide) rfl (fun ls hl => ?_)
      refine lv_iconst (v := (0)) hx hb dX9_dark_32 (by decide) ?_
      refine lv_istore (lv' := [(6, .int (0)), (5, .int (0)), (4, .ref (ad (w))), (0, .ref (ad (0))), (1, .int (a0)), (2, .int (a1)), (3, .int (a2))]) hx hb dX9_dark_33 hl (by decide) rfl (fun ls hl => ?_)
      have loop35 : ∀ (n : Nat) (x6_35 : Int32) (x5_35 : Int32) (Ia35 : MI) (La35 : ML) (H : Heap) (locs : List Loc) (ls : Array Slot), INV Ia35 → Kp [(11, 15), (21, 22), (111, 119)] [(10, 2), (10, 3), (10, 4), (10, 5), (10, 6), (10, 7), (10, 8), (10, 11), (10, 12), (20, 3), (110, 0), (110, 1), (110, 2), (110, 3), (110, 4), (110, 5), (110, 6), (110, 7), (110, 8), (110, 9)] I Ia35 → (0 ≤ x6_35.toInt ∧ x6_35.toInt ≤ 12) → ((Ia35 10 8).toInt = 0) → (cF 100 Ia35 = cF 100 I) → (12 - x6_35.toInt).toNat < n → Mem D A ad ns Ia35 La35 G H → va_S A s.heap H locs → lv_has ls 7 [(6, .int (x6_35)), (5, .int (x5_35)), (4, .ref (ad (w))), (0, .ref (ad (0))), (1, .int (a0)), (2, .int (a1)), (3, .int (a2))] → W p l e ({ frames := 7, cells := 0, slots := 0, locals := 171 } : Room) s m args below meth c H locs 0 0 (MQ below (va_Qi (fun r u => ∃ I2 L2, u = (ad, ns, I2, L2, G) ∧ INV I2 ∧ Kp [(11, 15), (21, 22), (111, 119)] [(10, 2), (10, 3), (10, 4), (10, 5), (10, 6), (10, 7), (10, 8), (10, 11), (10, 12), (20, 3), (110, 0), (110, 1), (110, 2), (110, 3), (110, 4), (110, 5), (110, 6), (110, 7), (110, 8), (110, 9)] I I2 ∧ ((I2 10 8).toInt = 0 ∧ EqV (cF 100 I) (cF 100 I2))) (BM D A) A) args s 0 0 A) (F0 m 35 ls []) := by
        intro n
        induction n with
        | zero =>
          intro x6_35 x5_35 Ia35 La35 H locs ls hI hK hr6_35 h835 hc35 hmu
          exact absurd hmu (Nat.not_lt_zero _)
        | succ n ih35 =>
          intro x6_35 x5_35 Ia35 La35 H locs ls hI hK hr6_35 h835 hc35 hmu35 hM hS hl
          have hK35 := hK
          refine lv_iload hx hb dX9_dark_35 (lv_at hl 0 rfl) ?_
          refine lv_bipush (v := (12)) hx hb dX9_dark_37 (by decide) ?_
          refine lv_icmp_ge (tgt := 105) hx hb dX9_dark_39 (by decide) (fun c7 => ?_) (fun c7 => ?_)
          · have hc7 := c7
            have q7 := q_le hc7
            refine lv_iload hx hb dX9_dark_105 (lv_at hl 1 rfl) ?_
            exact m_iret hx hb hr hlocks hM hS (Nat.le_of_ble_eq_true rfl) (Nat.le_of_ble_eq_true rfl) ⟨_, _, rfl, hI, hK, ⟨h835, by rw [hc35]; exact EqV.rf⟩⟩ dX9_dark_107
          · have hc7 := c7
            have q7 := q_nle hc7
            refine lv_aload_n hx hb dX9_dark_42 rfl (lv_at hl 3 rfl) ?_
            refine m_getr (0) 1 (110) hx hb hts hown hE oc9 hM (hG.1 0 (by decide)) rfl (by decide) rfl (hG.2 (0, 1, 110) (by decide)) (by decide) tb_399 dX9_dark_43 ?_
            refine lv_aload_n hx hb dX9_dark_46 rfl (lv_at hl 3 rfl) ?_
            refine m_getr (0) 0 (100) hx hb hts hown hE oc9 hM (hG.1 0 (by decide)) rfl (by decide) rfl (hG.2 (0, 0, 100) (by decide)) (by decide) tb_398 dX9_dark_47 ?_
            refine m_callv (m_runV (110) (As := [.ref (ad (100))]) (rest := []) hx hb hml hown hts hE hM hS hA ce_X8_copyFrom tb_1147 (V_X8_copyFrom_110_100_y l D A ad ns Ia35 La35 G hG hI) rfl rfl ⟨Nat.le_of_ble_eq_true rfl, Nat.le_of_ble_eq_true rfl⟩ (hG.1 110 (by decide)) rfl rfl (by decide) rfl hl.1 rfl (Nat.le_of_ble_eq_true rfl) dX9_dark_50 ⟨Nat.le_of_ble_eq_true rfl, Nat.le_of_ble_eq_true rfl⟩) hS (fun u H locs hw hM hS => ?_)
            obtain ⟨I8, L9, rfl, hI, hkI8, xI8⟩ := hw
            have hM : Mem D A ad ns I8 L9 G H := hM
            have hK := hK.trans hkI8 rfl
            refine lv_aload_n hx hb dX9_dark_53 rfl (lv_at hl 3 rfl) ?_
            refine m_getr (0) 1 (110) hx hb hts hown hE oc9 hM (hG.1 0 (by decide)) rfl (by decide) rfl (hG.2 (0, 1, 110) (by decide)) (by decide) tb_399 dX9_dark_54 ?_
            refine lv_iload hx hb dX9_dark_57 (lv_at hl 0 rfl) ?_
            refine m_puti (110) 5 hx hb hts hown hE oc8 hM hS (hG.1 110 (by decide)) rfl (by decide) rfl rfl rfl rfl tb_53 dX9_dark_59 (fun H locs I10 eI10 hM hS => ?_)
            subst eI10
            have hI := hI.put (n := 110) (k := 5) (v := x6_35) (lo := 0) (hi := 11) rfl (by first | omega | decide)
            have hK := hK.put (n := 110) (k := 5) (v := x6_35) (by first | rfl | simp [inR])
            refine lv_aload_n hx hb dX9_dark_62 rfl (lv_at hl 3 rfl) ?_
            refine m_getr (0) 4 (20) hx hb hts hown hE oc9 hM (hG.1 0 (by decide)) rfl (by decide) rfl (hG.2 (0, 4, 20) (by decide)) (by decide) tb_402 dX9_dark_63 ?_
            refine lv_aload_n hx hb dX9_dark_66 rfl (lv_at hl 3 rfl) ?_
            refine m_getr (0) 1 (110) hx hb hts hown hE oc9 hM (hG.1 0 (by decide)) rfl (by decide) rfl (hG.2 (0, 1, 110) (by decide)) (by decide) tb_399 dX9_dark_67 ?_
            refine lv_aload hx hb dX9_dark_70 (lv_at hl 2 rfl) ?_
            refine lv_iconst (v := (0)) hx hb dX9_dark_72 (by decide) ?_
            have hLcN : ∀ n, n < 6 → lawC w (u2 I8 (110) 5 (x6_35)) n = lawC w I n := lawC_kp hW.1 hK (by decide) (by decide)
            have hm6 : EqV (stV (cF 100 I) 1 5 (x6_35)) (cF 110 (u2 I8 (110) 5 (x6_35))) := (stV_eq (by rw [← hc35]; exact xI8.eqv) 1 5 _).tr (cF_sc (b := 110) (n := 5) (k := 5) (v := x6_35) (by decide))
            have hRm : RKw (cF 110 (u2 I8 (110) 5 (x6_35))) := (RKw.m5 hRK (by omega)).eq hm6
            have hOm : OKW (cF 110 (u2 I8 (110) 5 (x6_35))) := (OKW.m5 hOK (by omega)).eq hm6
            have hyN : YLY 110 (u2 I8 (110) 5 (x6_35)) := (xI8.yly ((hYL (by omega)).of (hK35.getA 104 rfl) (hK35.get 100 9 rfl) (fun k hk => by rw [hc35]; exact ⟨rfl, rfl, rfl, rfl⟩) hOK.n9) (by rw [hK35.get 100 9 rfl]; exact hOK.n9)).of (by rw [u2_ne _ _ _ (by decide)]) (by simp [u2_v]) (fun k hk => by refine ⟨?_, ?_, ?_, ?_⟩ <;> (unfold cF; simp [u2_v, nc])) (by rw [xI8.1 9 (by decide), hK35.get 100 9 rfl]; exact hOK.n9)
            refine m_calli (m_runV (20) (As := [.ref (ad (110)), .ref (ad (w)), .int (0)]) (rest := []) hx hb hml hown hts hE hM hS hA ce_X2_passDay tb_744 (V_X2_passDay_110_y l D A ad ns (u2 I8 (110) 5 (x6_35)) L9 G (w) (0) hG hI hW (by rw [(show (u2 I8 (110) 5 (x6_35)) (110) 0 = I8 (110) 0 from by simp [u2_v]), xI8.1 0 (by decide), hK35.get 100 0 rfl]; omega) (hRm) (hOm) (hLF.eq hLcN) hyN (by rw [((show (u2 I8 (110) 5 (x6_35)) (10) 8 = I8 (10) 8 from by simp [u2_v])).trans (hkI8.get (10) 8 rfl)]; exact h835) (by first | omega | decide)) rfl rfl ⟨Nat.le_of_ble_eq_true rfl, Nat.le_of_ble_eq_true rfl⟩ (hG.1 20 (by decide)) rfl rfl (by decide) rfl hl.1 rfl (Nat.le_of_ble_eq_true rfl) dX9_dark_73 ⟨Nat.le_of_ble_eq_true rfl, Nat.le_of_ble_eq_true rfl⟩) hS (fun r11 u H locs hw hM hS => ?_)
            obtain ⟨I12, L13, rfl, hI, hkI12, xr11⟩ := hw
            have hM : Mem D A ad ns I12 L13 G H := hM
            have hK := hK.trans hkI12 rfl
            refine lv_pop hx hb dX9_dark_76 rfl ?_
            refine lv_aload_n hx hb dX9_dark_77 rfl (lv_at hl 3 rfl) ?_
            refine m_getr (0) 1 (110) hx hb hts hown hE oc9 hM (hG.1 0 (by decide)) rfl (by decide) rfl (hG.2 (0, 1, 110) (by decide)) (by decide) tb_399 dX9_dark_78 ?_
            refine lv_iload_n hx hb dX9_dark_81 rfl (lv_at hl 5 rfl) ?_
            refine lv_iconst (v := (0)) hx hb dX9_dark_82 (by decide) ?_
            refine m_calli (m_runV (110) (As := [.int (a1), .int (0)]) (rest := []) hx hb hml hown hts hE hM hS hA ce_X8_ofYard tb_897 (V_X8_ofYard_110_l l D A ad ns I12 L13 G (a1) (0) hG hI (by first | omega | decide) (by first | omega | decide)) rfl rfl ⟨Nat.le_of_ble_eq_true rfl, Nat.le_of_ble_eq_true rfl⟩ (hG.1 110 (by decide)) rfl rfl (by decide) rfl hl.1 rfl (Nat.le_of_ble_eq_true rfl) dX9_dark_83 ⟨Nat.le_of_ble_eq_true rfl, Nat.le_of_ble_eq_true rfl⟩) hS (fun r14 u H locs hw hM hS => ?_)
            obtain ⟨rfl, xr14⟩ := hw
            have hM : Mem D A ad ns I12 L13 G H := hM
            rw [show (0 : Int32).toNatClampNeg = 0 from rfl, show 8 * 0 = 0 from rfl] at xr14
            refine lv_iload_n hx hb dX9_dark_86 rfl (lv_at hl 6 rfl) ?_
            refine lv_icmp_ge (tgt := 99) hx hb dX9_dark_87 (by decide) (fun c15 => ?_) (fun c15 => ?_)
            · have hc15 := c15
              have q15 := q_le hc15
              obtain ⟨v16, ev16⟩ : ∃ z : Int32, z = x6_35 + Int32.ofInt (1) := ⟨_, rfl⟩
              have tv16 := a_inc ev16 (by decide) (by omega) (by omega)
              refine lv_iinc (v := v16) (lv' := [(6, .int (v16)), (5, .int (x5_35)), (4, .ref (ad (w))), (0, .ref (ad (0))), (1, .int (a0)), (2, .int (a1)), (3, .int (a2))]) hx hb dX9_dark_99 hl (k := 0) rfl ev16.symm (by decide) rfl (fun ls hl => ?_)
              refine lv_goto (tgt := 35) hx hb dX9_dark_102 (by decide) ?_
              exact ih35 (v16) (x5_35) I12 L13 _ _ ls hI hK (by first | omega | decide) xr11.2.1 ((cF_fr hkI12 rfl).trans ((cF_u (by decide)).trans ((cF_fr hkI8 rfl).trans hc35))) (by omega) hM hS (lv_sub hl [0, 1, 2, 3, 4, 5, 6] rfl)
            · have hc15 := c15
              have q15 := q_nle hc15
              refine lv_iload hx hb dX9_dark_90 (lv_at hl 1 rfl) ?_
              refine lv_iconst (v := (1)) hx hb dX9_dark_92 (by decide) ?_
              refine lv_iload hx hb dX9_dark_93 (lv_at hl 0 rfl) ?_
              refine lv_ishl hx hb dX9_dark_95 ?_
              refine lv_topi (fun v17 ev17 => ?_)
              refine lv_ior hx hb dX9_dark_96 ?_
              refine lv_topi (fun v18 ev18 => ?_)
              refine lv_istore (lv' := [(5, .int (v18)), (6, .int (x6_35)), (4, .ref (ad (w))), (0, .ref (ad (0))), (1, .int (a0)), (2, .int (a1)), (3, .int (a2))]) hx hb dX9_dark_97 hl (by decide) rfl (fun ls hl => ?_)
              obtain ⟨v19, ev19⟩ : ∃ z : Int32, z = x6_35 + Int32.ofInt (1) := ⟨_, rfl⟩
              have tv19 := a_inc ev19 (by decide) (by omega) (by omega)
              refine lv_iinc (v := v19) (lv' := [(6, .int (v19)), (5, .int (v18)), (4, .ref (ad (w))), (0, .ref (ad (0))), (1, .int (a0)), (2, .int (a1)), (3, .int (a2))]) hx hb dX9_dark_99 hl (k := 1) rfl ev19.symm (by decide) rfl (fun ls hl => ?_)
              refine lv_goto (tgt := 35) hx hb dX9_dark_102 (by decide) ?_
              exact ih35 (v19) (v18) I12 L13 _ _ ls hI hK (by first | omega | decide) xr11.2.1 ((cF_fr hkI12 rfl).trans ((cF_u (by decide)).trans ((cF_fr hkI8 rfl).trans hc35))) (by omega) hM hS (lv_sub hl [0, 1, 2, 3, 4, 5, 6] rfl)
      exact loop35 (_ + 1) (0) (0) I L _ _ ls hI hK (by first | omega | decide) h8 rfl (Nat.lt_succ_self _) hM hS (lv_sub hl [0, 1, 2, 3, 4, 5, 6] rfl)
    · have hc6 := c6
      have q6 := q_nle hc6
      refine lv_iconst (v := (-1)) hx hb dX9_dark_27 (by decide) ?_
      exact m_iret hx hb hr hlocks hM hS (Nat.le_of_ble_eq_true rfl) (Nat.le_of_ble_eq_true rfl) ⟨_, _, rfl, hI, hK, ⟨h8, EqV.rf⟩⟩ dX9_dark_28
