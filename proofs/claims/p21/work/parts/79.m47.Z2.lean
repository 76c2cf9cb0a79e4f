set_option maxHeartbeats 4000000 in
set_option maxRecDepth 20000 in
theorem V_X2_passDay_100_y (l : Launch) (D : va_G) (A : Nat → Prop) (ad : Nat → Nat) (ns : List Nat) (I : MI) (L : ML) (G : MG) (w : Nat) (a0 : Int32) (hG : SGC ns G) (hI : INV I) (hW : LOK ns G w) (hbg : 0 < (I 100 0).toInt) (hRK : RKw (cF 100 I)) (hOK : OKW (cF 100 I)) (hLF : LWF (lawC w I)) (hYL : YLY 100 I) (h8 : (I 10 8).toInt = 0) (ha0 : 0 ≤ a0.toInt ∧ a0.toInt ≤ 1) : Met l yX2_passDay (wd yX2_passDay cX2_passDay 6 (some .int)) ({ frames := 6, cells := 0, slots := 0, locals := 146 }) (va_Pc [.ref (ad (20)), .ref (ad (100)), .ref (ad (w)), .int a0] (PM D A ad ns I L G)) (va_Qi (fun r u => ∃ I2 L2, u = (ad, ns, I2, L2, G) ∧ INV I2 ∧ Kp [(11, 15), (21, 22), (107, 109)] [(10, 2), (10, 3), (10, 4), (10, 5), (10, 6), (10, 7), (10, 8), (10, 11), (10, 12), (20, 3), (100, 6)] I I2 ∧ (EqV (dayS (lawC w I) (cF 100 I)) (cF 100 I2) ∧ (I2 10 8).toInt = 0 ∧ (a0.toInt ≠ 0 → r = blS (lawC w I) (cF 100 I) 24))) (BM D A) A) 0 0 A := by
  refine m_ofW (by decide) (Nat.le_of_ble_eq_true rfl) ?_
  intro p e s m below meth c ls args hC hE hM hA hS hl
  obtain ⟨hx, hb, hml, hown, hts, hr, hlocks, hin⟩ := hC
  have km2 : (-2 : Int32).toInt = -2 := by decide
  have k0 : (0 : Int32).toInt = 0 := by decide
  have k1 : (1 : Int32).toInt = 1 := by decide
  have k24 : (24 : Int32).toInt = 24 := by decide
  have hK : Kp [(11, 15), (21, 22), (107, 109)] [(10, 2), (10, 3), (10, 4), (10, 5), (10, 6), (10, 7), (10, 8), (10, 11), (10, 12), (20, 3), (100, 6)] I I := Kp.rf
  have hl : lv_has ls 6 [(0, .ref (ad (20))), (1, .ref (ad (100))), (2, .ref (ad (w))), (3, .int (a0))] := hl
  refine lv_aload_n hx hb dX2_passDay_0 rfl (lv_at hl 0 rfl) ?_
  refine m_getr (20) 1 (21) hx hb hts hown hE oc2 hM (hG.1 20 (by decide)) rfl (by decide) rfl (hG.2 (20, 1, 21) (by decide)) (by decide) tb_186 dX2_passDay_1 ?_
  refine lv_iconst (v := (0)) hx hb dX2_passDay_4 (by decide) ?_
  refine m_callv (m_runS (As := [.ref (ad (21)), .int (0)]) (rest := []) hx hb hml hown hts hE hM hS hA ce_J7_fill_53178 tb_748 (C_J7_fill_53178 l D A ad ns I L G (21) 8 (0) (hG.1 21 (by decide)) rfl (by decide)) rfl rfl ⟨Nat.le_of_ble_eq_true rfl, Nat.le_of_ble_eq_true rfl⟩  rfl hl.1 rfl (Nat.le_of_ble_eq_true rfl) dX2_passDay_5 ⟨Nat.le_of_ble_eq_true rfl, Nat.le_of_ble_eq_true rfl⟩) hS (fun u H locs hw hM hS => ?_)
  subst hw
  obtain ⟨I1, eI1⟩ : ∃ z : MI, z = fillI I 21 8 (0) := ⟨_, rfl⟩
  have hM : Mem D A ad ns I1 L G H := by rw [eI1]; exact hM
  have hkI1 : Kp [(21, 22)] [] I I1 := by rw [eI1]; exact Kp.rf.fill rfl
  have hI : INV I1 := by rw [eI1]; exact hI.fill (fun k _ => (by decide : (-2147483648 : Int) ≤ (0 : Int32).toInt ∧ (0 : Int32).toInt ≤ (2147483647 : Int)))
  have hK := hK.trans hkI1 rfl
  refine lv_iconst (v := (0)) hx hb dX2_passDay_8 (by decide) ?_
  refine lv_istore (lv' := [(4, .int (0)), (0, .ref (ad (20))), (1, .ref (ad (100))), (2, .ref (ad (w))), (3, .int (a0))]) hx hb dX2_passDay_9 hl (by decide) rfl (fun ls hl => ?_)
  refine lv_iconst (v := (0)) hx hb dX2_passDay_11 (by decide) ?_
  refine lv_istore (lv' := [(5, .int (0)), (4, .int (0)), (0, .ref (ad (20))), (1, .ref (ad (100))), (2, .ref (ad (w))), (3, .int (a0))]) hx hb dX2_passDay_12 hl (by decide) rfl (fun ls hl => ?_)
  have loop14 : ∀ (n : Nat) (x5_14 : Int32) (x4_14 : Int32) (Ia14 : MI) (La14 : ML) (H : Heap) (locs : List Loc) (ls : Array Slot), INV Ia14 → Kp [(11, 15), (21, 22), (107, 109)] [(10, 2), (10, 3), (10, 4), (10, 5), (10, 6), (10, 7), (10, 8), (10, 11), (10, 12), (20, 3), (100, 6)] I Ia14 → (0 ≤ x5_14.toInt ∧ x5_14.toInt ≤ 24) → (EqV ((dyS (lawC w I) (cF 100 I) (x5_14).toNatClampNeg).1) (cF 100 Ia14)) → (∀ j : Nat, j < 8 → Ia14 21 j = (dyS (lawC w I) (cF 100 I) (x5_14).toNatClampNeg).2 j) → ((Ia14 10 8).toInt = 0) → (a0.toInt ≠ 0 → x4_14 = blS (lawC w I) (cF 100 I) (x5_14).toNatClampNeg) → (24 - x5_14.toInt).toNat < n → Mem D A ad ns Ia14 La14 G H → va_S A s.heap H locs → lv_has ls 6 [(5, .int (x5_14)), (4, .int (x4_14)), (0, .ref (ad (20))), (1, .ref (ad (100))), (2, .ref (ad (w))), (3, .int (a0))] → W p l e ({ frames := 6, cells := 0, slots := 0, locals := 146 } : Room) s m args below meth c H locs 0 0 (MQ below (va_Qi (fun r u => ∃ I2 L2, u = (ad, ns, I2, L2, G) ∧ INV I2 ∧ Kp [(11, 15), (21, 22), (107, 109)] [(10, 2), (10, 3), (10, 4), (10, 5), (10, 6), (10, 7), (10, 8), (10, 11), (10, 12), (20, 3), (100, 6)] I I2 ∧ (EqV (dayS (lawC w I) (cF 100 I)) (cF 100 I2) ∧ (I2 10 8).toInt = 0 ∧ (a0.toInt ≠ 0 → r = blS (lawC w I) (cF 100 I) 24))) (BM D A) A) args s 0 0 A) (F0 m 14 ls []) := by
    intro n
    induction n with
    | zero =>
      intro x5_14 x4_14 Ia14 La14 H locs ls hI hK hr5_14 hv14 hg14 h814 hb14 hmu
      exact absurd hmu (Nat.not_lt_zero _)
    | succ n ih14 =>
      intro x5_14 x4_14 Ia14 La14 H locs ls hI hK hr5_14 hv14 hg14 h814 hb14 hmu14 hM hS hl
      have hK14 := hK
      have hLc := lawC_kp hW.1 hK (by decide) (by decide)
      have hw14 : OKW (dyS (lawC w I) (cF 100 I) (x5_14).toNatClampNeg).1 := dyS_ok hOK _
      have hr14 : RKw (dyS (lawC w I) (cF 100 I) (x5_14).toNatClampNeg).1 := dyS_rk hRK _
      have hRK14 : RKw (cF 100 Ia14) := hr14.eq hv14
      have hbg14 : 0 < (Ia14 100 0).toInt := by rw [hK.get 100 0 rfl]; exact hbg
      have zh := tn (i := x5_14) (by omega)
      refine lv_iload hx hb dX2_passDay_14 (lv_at hl 0 rfl) ?_
      refine lv_bipush (v := (24)) hx hb dX2_passDay_16 (by decide) ?_
      refine lv_icmp_ge (tgt := 102) hx hb dX2_passDay_18 (by decide) (fun c2 => ?_) (fun c2 => ?_)
      · have hc2 := c2
        have q2 := q_le hc2
        refine lv_aload_n hx hb dX2_passDay_102 rfl (lv_at hl 3 rfl) ?_
        refine lv_aload_n hx hb dX2_passDay_103 rfl (lv_at hl 2 rfl) ?_
        refine m_getr (20) 1 (21) hx hb hts hown hE oc2 hM (hG.1 20 (by decide)) rfl (by decide) rfl (hG.2 (20, 1, 21) (by decide)) (by decide) tb_186 dX2_passDay_104 ?_
        refine m_callv (m_runV (100) (As := [.ref (ad (21))]) (rest := []) hx hb hml hown hts hE hM hS hA ce_X8_endDay tb_876 (V_X8_endDay_100_y l D A ad ns Ia14 La14 G hG hI) rfl rfl ⟨Nat.le_of_ble_eq_true rfl, Nat.le_of_ble_eq_true rfl⟩ (hG.1 100 (by decide)) rfl rfl (by decide) rfl hl.1 rfl (Nat.le_of_ble_eq_true rfl) dX2_passDay_107 ⟨Nat.le_of_ble_eq_true rfl, Nat.le_of_ble_eq_true rfl⟩) hS (fun u H locs hw hM hS => ?_)
        obtain ⟨I3, L4, rfl, hI, hkI3, xI3⟩ := hw
        have hM : Mem D A ad ns I3 L4 G H := hM
        have hK := hK.trans hkI3 rfl
        refine lv_iload hx hb dX2_passDay_110 (lv_at hl 1 rfl) ?_
        have h24 : (x5_14).toNatClampNeg = 24 := by have z := tn (i := x5_14) (by omega); omega
        have hb24 := hb14
        rw [h24] at hb24
        have hv24 := hv14
        rw [h24] at hv24
        have hg24 := hg14
        rw [h24] at hg24
        exact m_iret hx hb hr hlocks hM hS (Nat.le_of_ble_eq_true rfl) (Nat.le_of_ble_eq_true rfl) ⟨_, _, rfl, hI, hK, ⟨(edS_eq (p := (dyS (lawC w I) (cF 100 I) 24)) (q := (cF 100 Ia14, Ia14 21)) (dyS_ok hOK 24) ⟨hv24, fun j hj => hg24 j hj⟩).tr xI3, by rw [(hkI3.get (10) 8 rfl)]; exact h814, hb24⟩⟩ dX2_passDay_112
      · have hc2 := c2
        have q2 := q_nle hc2
        refine lv_aload_n hx hb dX2_passDay_21 rfl (lv_at hl 2 rfl) ?_
        refine lv_iload hx hb dX2_passDay_22 (lv_at hl 0 rfl) ?_
        refine m_puti (20) 3 hx hb hts hown hE oc2 hM hS (hG.1 20 (by decide)) rfl (by decide) rfl rfl rfl rfl tb_188 dX2_passDay_24 (fun H locs I5 eI5 hM hS => ?_)
        subst eI5
        have hI := hI.put (n := 20) (k := 3) (v := x5_14) (lo := 0) (hi := 23) rfl (by first | omega | decide)
        have hK := hK.put (n := 20) (k := 3) (v := x5_14) (by first | rfl | simp [inR])
        refine lv_aload_n hx hb dX2_passDay_27 rfl (lv_at hl 2 rfl) ?_
        refine lv_aload_n hx hb dX2_passDay_28 rfl (lv_at hl 3 rfl) ?_
        refine lv_aload_n hx hb dX2_passDay_29 rfl (lv_at hl 4 rfl) ?_
        have hLcJ : ∀ n, n < 6 → lawC w (u2 Ia14 (20) 3 (x5_14)) n = lawC w I n := fun n hn => (funext fun k => by show (u2 Ia14 (20) 3 (x5_14)) (w + n) k = Ia14 (w + n) k; have hlb := lbw hW.1; rw [u2_ne _ _ _ (by omega)] : lawC w (u2 Ia14 (20) 3 (x5_14)) n = lawC w Ia14 n).trans (hLc n hn)
        refine m_callv (m_runV (20) (As := [.ref (ad (100)), .ref (ad (w))]) (rest := []) hx hb hml hown hts hE hM hS hA ce_X2_turnMirrors tb_749 (V_X2_turnMirrors_100_y l D A ad ns (u2 Ia14 (20) 3 (x5_14)) La14 G (w) hG hI hW (by rw [show (u2 Ia14 (20) 3 (x5_14)) 100 0 = Ia14 100 0 from by rw [u2_ne _ _ _ (by decide)]]; exact hbg14) (by rw [cF_u (by decide)]; exact hRK14) (hLF.eq hLcJ)) rfl rfl ⟨Nat.le_of_ble_eq_true rfl, Nat.le_of_ble_eq_true rfl⟩ (hG.1 20 (by decide)) rfl rfl (by decide) rfl hl.1 rfl (Nat.le_of_ble_eq_true rfl) dX2_passDay_30 ⟨Nat.le_of_ble_eq_true rfl, Nat.le_of_ble_eq_true rfl⟩) hS (fun u H locs hw hM hS => ?_)
        obtain ⟨I6, L7, rfl, hI, hkI6, xI6⟩ := hw
        have hM : Mem D A ad ns I6 L7 G H := hM
        have hK := hK.trans hkI6 rfl
        have xT := xI6
        rw [trV_L hLcJ, u2_self, cF_u (by decide), show (u2 Ia14 (20) 3 (x5_14)) 21 = Ia14 21 from u2_ne _ _ _ (by decide)] at xT
        have hvT : EqV (trV (dyS (lawC w I) (cF 100 I) (x5_14).toNatClampNeg).1 x5_14 (dyS (lawC w I) (cF 100 I) (x5_14).toNatClampNeg).2 (lawC w I)) (cF 100 I6) := (trV_eq hw14 hv14 (fun j hj => hg14 j hj) (by omega)).tr xT
        have hOT : OKW (trV (dyS (lawC w I) (cF 100 I) (x5_14).toNatClampNeg).1 x5_14 (dyS (lawC w I) (cF 100 I) (x5_14).toNatClampNeg).2 (lawC w I)) := OKW.tV hw14
        have hRT : RKw (trV (dyS (lawC w I) (cF 100 I) (x5_14).toNatClampNeg).1 x5_14 (dyS (lawC w I) (cF 100 I) (x5_14).toNatClampNeg).2 (lawC w I)) := RKw.tV hr14
        refine lv_aload_n hx hb dX2_passDay_33 rfl (lv_at hl 3 rfl) ?_
        refine lv_iload hx hb dX2_passDay_34 (lv_at hl 0 rfl) ?_
        refine m_calli (m_runV (100) (As := [.int (x5_14)]) (rest := []) hx hb hml hown hts hE hM hS hA ce_X8_isLit tb_767 (V_X8_isLit_100 l D A ad ns I6 L7 G (x5_14) hG hI) rfl rfl ⟨Nat.le_of_ble_eq_true rfl, Nat.le_of_ble_eq_true rfl⟩ (hG.1 100 (by decide)) rfl rfl (by decide) rfl hl.1 rfl (Nat.le_of_ble_eq_true rfl) dX2_passDay_36 ⟨Nat.le_of_ble_eq_true rfl, Nat.le_of_ble_eq_true rfl⟩) hS (fun r8 u H locs hw hM hS => ?_)
        obtain ⟨rfl, xr8⟩ := hw
        have hM : Mem D A ad ns I6 L7 G H := hM
        have yr8 := bo01 xr8
        refine lv_if_eq (tgt := 96) hx hb dX2_passDay_39 (by decide) (fun c9 => ?_) (fun c9 => ?_)
        · have hc9 := c9
          have q9 := xr8.f hc9
          have hwy : (wyV (trV (dyS (lawC w I) (cF 100 I) (x5_14).toNatClampNeg).1 x5_14 (dyS (lawC w I) (cF 100 I) (x5_14).toNatClampNeg).2 (lawC w I)) x5_14).toInt = -1 := by rw [← (wyV_eq hvT hOT.1 (by omega)).2.1, wy_C]; exact Classical.not_not.mp (fun zz => q9 ⟨by rw [((hkI6.get (100) 0 rfl)).trans (show (u2 Ia14 (20) 3 (x5_14)) (100) 0 = Ia14 (100) 0 from by simp [u2_v])]; exact hbg14, ⟨by omega, by omega⟩, zz⟩)
          obtain ⟨v10, ev10⟩ : ∃ z : Int32, z = x5_14 + Int32.ofInt (1) := ⟨_, rfl⟩
          have tv10 := a_inc ev10 (by decide) (by omega) (by omega)
          refine lv_iinc (v := v10) (lv' := [(5, .int (v10)), (4, .int (x4_14)), (0, .ref (ad (20))), (1, .ref (ad (100))), (2, .ref (ad (w))), (3, .int (a0))]) hx hb dX2_passDay_96 hl (k := 0) rfl ev10.symm (by decide) rfl (fun ls hl => ?_)
          refine lv_goto (tgt := 14) hx hb dX2_passDay_99 (by decide) ?_
          have hnn : (v10).toNatClampNeg = (x5_14).toNatClampNeg + 1 := by have z1 := tn (i := v10) (by omega); have z2 := tn (i := x5_14) (by omega); omega
          have hhI : hrI (x5_14).toNatClampNeg = x5_14 := hrI_of (by omega)
          have hD1 : (dyS (lawC w I) (cF 100 I) ((x5_14).toNatClampNeg + 1)).1 = (trV (dyS (lawC w I) (cF 100 I) (x5_14).toNatClampNeg).1 x5_14 (dyS (lawC w I) (cF 100 I) (x5_14).toNatClampNeg).2 (lawC w I)) := by show trV (dyS (lawC w I) (cF 100 I) (x5_14).toNatClampNeg).1 (hrI (x5_14).toNatClampNeg) (dyS (lawC w I) (cF 100 I) (x5_14).toNatClampNeg).2 (lawC w I) = _; rw [hhI]
          have hD2 : ∀ j, (dyS (lawC w I) (cF 100 I) ((x5_14).toNatClampNeg + 1)).2 j = adG (trV (dyS (lawC w I) (cF 100 I) (x5_14).toNatClampNeg).1 x5_14 (dyS (lawC w I) (cF 100 I) (x5_14).toNatClampNeg).2 (lawC w I)) x5_14 (dyS (lawC w I) (cF 100 I) (x5_14).toNatClampNeg).2 j := fun j => by show adG (trV (dyS (lawC w I) (cF 100 I) (x5_14).toNatClampNeg).1 (hrI (x5_14).toNatClampNeg) (dyS (lawC w I) (cF 100 I) (x5_14).toNatClampNeg).2 (lawC w I)) (hrI (x5_14).toNatClampNeg) (dyS (lawC w I) (cF 100 I) (x5_14).toNatClampNeg).2 j = _; rw [hhI]
          have hD3 : blS (lawC w I) (cF 100 I) ((x5_14).toNatClampNeg + 1) = blS (lawC w I) (cF 100 I) (x5_14).toNatClampNeg + blH (trV (dyS (lawC w I) (cF 100 I) (x5_14).toNatClampNeg).1 x5_14 (dyS (lawC w I) (cF 100 I) (x5_14).toNatClampNeg).2 (lawC w I)) x5_14 := by show _ + blH (dyS (lawC w I) (cF 100 I) ((x5_14).toNatClampNeg + 1)).1 (hrI (x5_14).toNatClampNeg) = _; rw [hD1, hhI]
          exact ih14 (v10) (x4_14) I6 L7 _ _ ls hI hK (by first | omega | decide) (by rw [hnn, hD1]; exact hvT) (fun j hj => by rw [hnn, hD2]; unfold adG; rw [if_pos hwy]; exact (congrFun (((hkI6.getA 21 rfl)).trans (show (u2 Ia14 (20) 3 (x5_14)) 21 = Ia14 21 from by funext zz; simp [u2_v])) j).trans (hg14 j hj)) (by rw [((hkI6.get (10) 8 rfl)).trans (show (u2 Ia14 (20) 3 (x5_14)) (10) 8 = Ia14 (10) 8 from by simp [u2_v])]; exact h814) (fun hz => by rw [hnn, hD3]; unfold blH; rw [if_pos hwy, i_adz]; exact hb14 hz) (by omega) hM hS (lv_sub hl [0, 1, 2, 3, 4, 5] rfl)
        · have hc9 := c9
          have q9 := xr8.t hc9
          have lh9 := q9.2.1
          have hlitS : Lit 100 I6 x5_14 := q9.2
          have hI_T := hI
          have h8T : I6 10 8 = Ia14 10 8 := ((hkI6.get (10) 8 rfl)).trans (show (u2 Ia14 (20) 3 (x5_14)) (10) 8 = Ia14 (10) 8 from by simp [u2_v])
          have hwy : ¬ (wyV (trV (dyS (lawC w I) (cF 100 I) (x5_14).toNatClampNeg).1 x5_14 (dyS (lawC w I) (cF 100 I) (x5_14).toNatClampNeg).2 (lawC w I)) x5_14).toInt = -1 := by rw [← (wyV_eq hvT hOT.1 (by omega)).2.1, wy_C]; exact hlitS.2
          refine lv_iload_n hx hb dX2_passDay_42 rfl (lv_at hl 5 rfl) ?_
          refine lv_if_eq (tgt := 82) hx hb dX2_passDay_43 (by decide) (fun c11 => ?_) (fun c11 => ?_)
          · have hc11 := c11
            have q11 := q_eq hc11
            refine lv_aload_n hx hb dX2_passDay_82 rfl (lv_at hl 2 rfl) ?_
            refine m_getr (20) 0 (10) hx hb hts hown hE oc2 hM (hG.1 20 (by decide)) rfl (by decide) rfl (hG.2 (20, 0, 10) (by decide)) (by decide) tb_185 dX2_passDay_83 ?_
            refine lv_aload_n hx hb dX2_passDay_86 rfl (lv_at hl 3 rfl) ?_
            refine lv_iload hx hb dX2_passDay_87 (lv_at hl 0 rfl) ?_
            refine m_callv (m_runV (10) (As := [.ref (ad (100)), .int (x5_14)]) (rest := []) hx hb hml hown hts hE hM hS hA ce_X1_shine tb_871 (V_X1_shine_100_l l D A ad ns I6 L7 G (x5_14) hG hI (hlitS) (by first | omega | decide)) rfl rfl ⟨Nat.le_of_ble_eq_true rfl, Nat.le_of_ble_eq_true rfl⟩ (hG.1 10 (by decide)) rfl rfl (by decide) rfl hl.1 rfl (Nat.le_of_ble_eq_true rfl) dX2_passDay_89 ⟨Nat.le_of_ble_eq_true rfl, Nat.le_of_ble_eq_true rfl⟩) hS (fun u H locs hw hM hS => ?_)
            obtain ⟨I12, L13, rfl, hI, hkI12, xI12⟩ := hw
            have hM : Mem D A ad ns I12 L13 G H := hM
            have hK := hK.trans hkI12 rfl
            have hyT : YLY 100 I6 := hYL.of ((((hkI6.getA 104 rfl)).trans (show (u2 Ia14 (20) 3 (x5_14)) 104 = Ia14 104 from by funext zz; simp [u2_v])).trans (hK14.getA 104 rfl)) ((((hkI6.get (100) 9 rfl)).trans (show (u2 Ia14 (20) 3 (x5_14)) (100) 9 = Ia14 (100) 9 from by simp [u2_v])).trans (hK14.get 100 9 rfl)) (fun k hk => by obtain ⟨q1, q2, q3, q4⟩ := hvT.yds k hk; rw [q1, q2, q3, q4]; exact ⟨(trA_ne (by decide)).trans (dyS_st (by decide) _), (trA_ne (by decide)).trans (dyS_st (by decide) _), (trA_ne (by decide)).trans (dyS_st (by decide) _), (trA_ne (by decide)).trans (dyS_st (by decide) _)⟩) hOK.n9
            have htT : TNok (twC 100 I6) := twC_ok hI_T rfl rfl (fun _ => rfl) (fun _ => rfl)
            obtain ⟨S2, hS1, hS2⟩ := SHE.sh xI12 (fun zz => absurd zz (by rw [h8T]; omega)) hyT htT (hI_T.get 100 2 (lo := 0) (hi := 23) rfl) (hI_T.get 100 3 (lo := 0) (hi := 23) rfl)
            have hS3 : shV (trV (dyS (lawC w I) (cF 100 I) (x5_14).toNatClampNeg).1 x5_14 (dyS (lawC w I) (cF 100 I) (x5_14).toNatClampNeg).2 (lawC w I)) x5_14 = (nC I12, S2) := (shV_eq hOT hvT (by omega)).symm.trans hS2
            have hg1S : ∀ j : Nat, j < 8 → I12 11 j = S2.got j := hS1.1
            refine lv_aload_n hx hb dX2_passDay_92 rfl (lv_at hl 2 rfl) ?_
            refine m_callv (m_runV (20) (As := []) (rest := []) hx hb hml hown hts hE hM hS hA ce_X2_addToday tb_872 (V_X2_addToday_y l D A ad ns I12 L13 G hG hI) rfl rfl ⟨Nat.le_of_ble_eq_true rfl, Nat.le_of_ble_eq_true rfl⟩ (hG.1 20 (by decide)) rfl rfl (by decide) rfl hl.1 rfl (Nat.le_of_ble_eq_true rfl) dX2_passDay_93 ⟨Nat.le_of_ble_eq_true rfl, Nat.le_of_ble_eq_true rfl⟩) hS (fun u H locs hw hM hS => ?_)
            obtain ⟨I14, L15, rfl, hI, hkI14, xI14⟩ := hw
            have hM : Mem D A ad ns I14 L15 G H := hM
            have hK := hK.trans hkI14 rfl
            obtain ⟨v16, ev16⟩ : ∃ z : Int32, z = x5_14 + Int32.ofInt (1) := ⟨_, rfl⟩
            have tv16 := a_inc ev16 (by decide) (by omega) (by omega)
            refine lv_iinc (v := v16) (lv' := [(5, .int (v16)), (4, .int (x4_14)), (0, .ref (ad (20))), (1, .ref (ad (100))), (2, .ref (ad (w))), (3, .int (a0))]) hx hb dX2_passDay_96 hl (k := 0) rfl ev16.symm (by decide) rfl (fun ls hl => ?_)
            refine lv_goto (tgt := 14) hx hb dX2_passDay_99 (by decide) ?_
            have hnn : (v16).toNatClampNeg = (x5_14).toNatClampNeg + 1 := by have z1 := tn (i := v16) (by omega); have z2 := tn (i := x5_14) (by omega); omega
            have hhI : hrI (x5_14).toNatClampNeg = x5_14 := hrI_of (by omega)
            have hD1 : (dyS (lawC w I) (cF 100 I) ((x5_14).toNatClampNeg + 1)).1 = (trV (dyS (lawC w I) (cF 100 I) (x5_14).toNatClampNeg).1 x5_14 (dyS (lawC w I) (cF 100 I) (x5_14).toNatClampNeg).2 (lawC w I)) := by show trV (dyS (lawC w I) (cF 100 I) (x5_14).toNatClampNeg).1 (hrI (x5_14).toNatClampNeg) (dyS (lawC w I) (cF 100 I) (x5_14).toNatClampNeg).2 (lawC w I) = _; rw [hhI]
            have hD2 : ∀ j, (dyS (lawC w I) (cF 100 I) ((x5_14).toNatClampNeg + 1)).2 j = adG (trV (dyS (lawC w I) (cF 100 I) (x5_14).toNatClampNeg).1 x5_14 (dyS (lawC w I) (cF 100 I) (x5_14).toNatClampNeg).2 (lawC w I)) x5_14 (dyS (lawC w I) (cF 100 I) (x5_14).toNatClampNeg).2 j := fun j => by show adG (trV (dyS (lawC w I) (cF 100 I) (x5_14).toNatClampNeg).1 (hrI (x5_14).toNatClampNeg) (dyS (lawC w I) (cF 100 I) (x5_14).toNatClampNeg).2 (lawC w I)) (hrI (x5_14).toNatClampNeg) (dyS (lawC w I) (cF 100 I) (x5_14).toNatClampNeg).2 j = _; rw [hhI]
            have hD3 : blS (lawC w I) (cF 100 I) ((x5_14).toNatClampNeg + 1) = blS (lawC w I) (cF 100 I) (x5_14).toNatClampNeg + blH (trV (dyS (lawC w I) (cF 100 I) (x5_14).toNatClampNeg).1 x5_14 (dyS (lawC w I) (cF 100 I) (x5_14).toNatClampNeg).2 (lawC w I)) x5_14 := by show _ + blH (dyS (lawC w I) (cF 100 I) ((x5_14).toNatClampNeg + 1)).1 (hrI (x5_14).toNatClampNeg) = _; rw [hD1, hhI]
            exact ih14 (v16) (x4_14) I14 L15 _ _ ls hI hK (by first | omega | decide) (by rw [hnn, hD1]; exact ((hvT.nk hkI12 rfl).nk hkI14 rfl)) (fun j hj => by rw [hnn, hD2]; unfold adG; rw [if_neg hwy, hS3, xI14 j hj, show I12 21 = Ia14 21 from (((hkI12.getA 21 rfl)).trans (hkI6.getA 21 rfl)).trans (show (u2 Ia14 (20) 3 (x5_14)) 21 = Ia14 21 from by funext zz; simp [u2_v]), hg14 j hj, show I12 11 = I12 11 from rfl, hg1S j hj]) (by rw [((((hkI14.get (10) 8 rfl)).trans (hkI12.get (10) 8 rfl)).trans (hkI6.get (10) 8 rfl)).trans (show (u2 Ia14 (20) 3 (x5_14)) (10) 8 = Ia14 (10) 8 from by simp [u2_v])]; exact h814) (fun hz => by exfalso; omega) (by omega) hM hS (lv_sub hl [0, 1, 2, 3, 4, 5] rfl)
          · have hc11 := c11
            have q11 := q_ne hc11
            refine lv_aload_n hx hb dX2_passDay_46 rfl (lv_at hl 2 rfl) ?_
            refine m_getr (20) 0 (10) hx hb hts hown hE oc2 hM (hG.1 20 (by decide)) rfl (by decide) rfl (hG.2 (20, 0, 10) (by decide)) (by decide) tb_185 dX2_passDay_47 ?_
            refine lv_aload_n hx hb dX2_passDay_50 rfl (lv_at hl 3 rfl) ?_
            refine lv_iload hx hb dX2_passDay_51 (lv_at hl 0 rfl) ?_
            refine m_callv (m_runV (10) (As := [.ref (ad (100)), .int (x5_14)]) (rest := []) hx hb hml hown hts hE hM hS hA ce_X1_shineWatched tb_796 (V_X1_shineWatched_100_l l D A ad ns I6 L7 G (x5_14) hG hI (hlitS) (by first | omega | decide)) rfl rfl ⟨Nat.le_of_ble_eq_true rfl, Nat.le_of_ble_eq_true rfl⟩ (hG.1 10 (by decide)) rfl rfl (by decide) rfl hl.1 rfl (Nat.le_of_ble_eq_true rfl) dX2_passDay_53 ⟨Nat.le_of_ble_eq_true rfl, Nat.le_of_ble_eq_true rfl⟩) hS (fun u H locs hw hM hS => ?_)
            obtain ⟨I17, L18, rfl, hI, hkI17, xI17⟩ := hw
            have hM : Mem D A ad ns I17 L18 G H := hM
            have hK := hK.trans hkI17 rfl
            have hyT : YLY 100 I6 := hYL.of ((((hkI6.getA 104 rfl)).trans (show (u2 Ia14 (20) 3 (x5_14)) 104 = Ia14 104 from by funext zz; simp [u2_v])).trans (hK14.getA 104 rfl)) ((((hkI6.get (100) 9 rfl)).trans (show (u2 Ia14 (20) 3 (x5_14)) (100) 9 = Ia14 (100) 9 from by simp [u2_v])).trans (hK14.get 100 9 rfl)) (fun k hk => by obtain ⟨q1, q2, q3, q4⟩ := hvT.yds k hk; rw [q1, q2, q3, q4]; exact ⟨(trA_ne (by decide)).trans (dyS_st (by decide) _), (trA_ne (by decide)).trans (dyS_st (by decide) _), (trA_ne (by decide)).trans (dyS_st (by decide) _), (trA_ne (by decide)).trans (dyS_st (by decide) _)⟩) hOK.n9
            have htT : TNok (twC 100 I6) := twC_ok hI_T rfl rfl (fun _ => rfl) (fun _ => rfl)
            have h8S := xI17.2; obtain ⟨S2, hS1, hSp, hS2⟩ := SHV.sh xI17.1 hyT htT (hI_T.get 100 2 (lo := 0) (hi := 23) rfl) (hI_T.get 100 3 (lo := 0) (hi := 23) rfl)
            have hS3 : shV (trV (dyS (lawC w I) (cF 100 I) (x5_14).toNatClampNeg).1 x5_14 (dyS (lawC w I) (cF 100 I) (x5_14).toNatClampNeg).2 (lawC w I)) x5_14 = (nC I17, S2) := (shV_eq hOT hvT (by omega)).symm.trans hS2
            have hg1S : ∀ j : Nat, j < 8 → I17 11 j = S2.got j := hS1.1
            refine lv_iload hx hb dX2_passDay_56 (lv_at hl 1 rfl) ?_
            refine lv_aload_n hx hb dX2_passDay_58 rfl (lv_at hl 2 rfl) ?_
            refine m_getr (20) 0 (10) hx hb hts hown hE oc2 hM (hG.1 20 (by decide)) rfl (by decide) rfl (hG.2 (20, 0, 10) (by decide)) (by decide) tb_185 dX2_passDay_59 ?_
            refine lv_aload_n hx hb dX2_passDay_62 rfl (lv_at hl 3 rfl) ?_
            refine m_calli (m_runV (10) (As := [.ref (ad (100))]) (rest := [.int (x4_14)]) hx hb hml hown hts hE hM hS hA ce_X1_firstBlind tb_863 (V_X1_firstBlind_100_l l D A ad ns I17 L18 G hG hI) rfl rfl ⟨Nat.le_of_ble_eq_true rfl, Nat.le_of_ble_eq_true rfl⟩ (hG.1 10 (by decide)) rfl rfl (by decide) rfl hl.1 rfl (Nat.le_of_ble_eq_true rfl) dX2_passDay_63 ⟨Nat.le_of_ble_eq_true rfl, Nat.le_of_ble_eq_true rfl⟩) hS (fun r19 u H locs hw hM hS => ?_)
            obtain ⟨rfl, xr19⟩ := hw
            have hM : Mem D A ad ns I17 L18 G H := hM
            have hfb := fsB_bl xr19
            have hbN : blN 576 (I17 102) (I17 12) = blN 576 ((trV (dyS (lawC w I) (cF 100 I) (x5_14).toNatClampNeg).1 x5_14 (dyS (lawC w I) (cF 100 I) (x5_14).toNatClampNeg).2 (lawC w I)) 3) (shV (trV (dyS (lawC w I) (cF 100 I) (x5_14).toNatClampNeg).1 x5_14 (dyS (lawC w I) (cF 100 I) (x5_14).toNatClampNeg).2 (lawC w I)) x5_14).2.pas := by rw [hS3]; exact blN.same (Nat.le_refl _) (fun c hc => by rw [← cf3 (b := 100) (J := I17), show cF 100 I17 = cF 100 I6 from cF_kp (fun n h1 h2 => hkI17.ap (b := 100) rfl n h1 h2)]; exact hvT 3 c (by decide) (by decide) hc) (fun c hc => hSp c hc)
            rw [hbN] at hfb
            refine lv_bipush (v := (-2)) hx hb dX2_passDay_66 (by decide) ?_
            refine lv_icmp_ne (tgt := 75) hx hb dX2_passDay_68 (by decide) (fun c20 => ?_) (fun c20 => ?_)
            · have hc20 := c20
              have q20 := q_ne hc20
              refine lv_iconst (v := (1)) hx hb dX2_passDay_75 (by decide) ?_
              refine lv_iadd hx hb dX2_passDay_76 ?_
              refine lv_topi (fun v21 ev21 => ?_)
              refine lv_istore (lv' := [(4, .int (v21)), (5, .int (x5_14)), (0, .ref (ad (20))), (1, .ref (ad (100))), (2, .ref (ad (w))), (3, .int (a0))]) hx hb dX2_passDay_77 hl (by decide) rfl (fun ls hl => ?_)
              refine lv_goto (tgt := 92) hx hb dX2_passDay_79 (by decide) ?_
              refine lv_aload_n hx hb dX2_passDay_92 rfl (lv_at hl 2 rfl) ?_
              refine m_callv (m_runV (20) (As := []) (rest := []) hx hb hml hown hts hE hM hS hA ce_X2_addToday tb_872 (V_X2_addToday_y l D A ad ns I17 L18 G hG hI) rfl rfl ⟨Nat.le_of_ble_eq_true rfl, Nat.le_of_ble_eq_true rfl⟩ (hG.1 20 (by decide)) rfl rfl (by decide) rfl hl.1 rfl (Nat.le_of_ble_eq_true rfl) dX2_passDay_93 ⟨Nat.le_of_ble_eq_true rfl, Nat.le_of_ble_eq_true rfl⟩) hS (fun u H locs hw hM hS => ?_)
              obtain ⟨I22, L23, rfl, hI, hkI22, xI22⟩ := hw
              have hM : Mem D A ad ns I22 L23 G H := hM
              have hK := hK.trans hkI22 rfl
              obtain ⟨v24, ev24⟩ : ∃ z : Int32, z = x5_14 + Int32.ofInt (1) := ⟨_, rfl⟩
              have tv24 := a_inc ev24 (by decide) (by omega) (by omega)
              refine lv_iinc (v := v24) (lv' := [(5, .int (v24)), (4, .int (v21)), (0, .ref (ad (20))), (1, .ref (ad (100))), (2, .ref (ad (w))), (3, .int (a0))]) hx hb dX2_passDay_96 hl (k := 1) rfl ev24.symm (by decide) rfl (fun ls hl => ?_)
              refine lv_goto (tgt := 14) hx hb dX2_passDay_99 (by decide) ?_
              have hnn : (v24).toNatClampNeg = (x5_14).toNatClampNeg + 1 := by have z1 := tn (i := v24) (by omega); have z2 := tn (i := x5_14) (by omega); omega
              have hhI : hrI (x5_14).toNatClampNeg = x5_14 := hrI_of (by omega)
              have hD1 : (dyS (lawC w I) (cF 100 I) ((x5_14).toNatClampNeg + 1)).1 = (trV (dyS (lawC w I) (cF 100 I) (x5_14).toNatClampNeg).1 x5_14 (dyS (lawC w I) (cF 100 I) (x5_14).toNatClampNeg).2 (lawC w I)) := by show trV (dyS (lawC w I) (cF 100 I) (x5_14).toNatClampNeg).1 (hrI (x5_14).toNatClampNeg) (dyS (lawC w I) (cF 100 I) (x5_14).toNatClampNeg).2 (lawC w I) = _; rw [hhI]
              have hD2 : ∀ j, (dyS (lawC w I) (cF 100 I) ((x5_14).toNatClampNeg + 1)).2 j = adG (trV (dyS (lawC w I) (cF 100 I) (x5_14).toNatClampNeg).1 x5_14 (dyS (lawC w I) (cF 100 I) (x5_14).toNatClampNeg).2 (lawC w I)) x5_14 (dyS (lawC w I) (cF 100 I) (x5_14).toNatClampNeg).2 j := fun j => by show adG (trV (dyS (lawC w I) (cF 100 I) (x5_14).toNatClampNeg).1 (hrI (x5_14).toNatClampNeg) (dyS (lawC w I) (cF 100 I) (x5_14).toNatClampNeg).2 (lawC w I)) (hrI (x5_14).toNatClampNeg) (dyS (lawC w I) (cF 100 I) (x5_14).toNatClampNeg).2 j = _; rw [hhI]
              have hD3 : blS (lawC w I) (cF 100 I) ((x5_14).toNatClampNeg + 1) = blS (lawC w I) (cF 100 I) (x5_14).toNatClampNeg + blH (trV (dyS (lawC w I) (cF 100 I) (x5_14).toNatClampNeg).1 x5_14 (dyS (lawC w I) (cF 100 I) (x5_14).toNatClampNeg).2 (lawC w I)) x5_14 := by show _ + blH (dyS (lawC w I) (cF 100 I) ((x5_14).toNatClampNeg + 1)).1 (hrI (x5_14).toNatClampNeg) = _; rw [hD1, hhI]
              exact ih14 (v24) (v21) I22 L23 _ _ ls hI hK (by first | omega | decide) (by rw [hnn, hD1]; exact ((hvT.nk hkI17 rfl).nk hkI22 rfl)) (fun j hj => by rw [hnn, hD2]; unfold adG; rw [if_neg hwy, hS3, xI22 j hj, show I17 21 = Ia14 21 from (((hkI17.getA 21 rfl)).trans (hkI6.getA 21 rfl)).trans (show (u2 Ia14 (20) 3 (x5_14)) 21 = Ia14 21 from by funext zz; simp [u2_v]), hg14 j hj, show I17 11 = I17 11 from rfl, hg1S j hj]) (by rw [(hkI22.get (10) 8 rfl)]; exact h8S) (fun hz => by rw [hnn, hD3]; unfold blH; rw [if_neg hwy, if_pos (hfb.2 (by omega)), ev21, hb14 hz]) (by omega) hM hS (lv_sub hl [0, 1, 2, 3, 4, 5] rfl)
            · have hc20 := c20
              have q20 := q_eq hc20
              refine lv_iconst (v := (0)) hx hb dX2_passDay_71 (by decide) ?_
              refine lv_goto (tgt := 76) hx hb dX2_passDay_72 (by decide) ?_
              refine lv_iadd hx hb dX2_passDay_76 ?_
              refine lv_topi (fun v25 ev25 => ?_)
              refine lv_istore (lv' := [(4, .int (v25)), (5, .int (x5_14)), (0, .ref (ad (20))), (1, .ref (ad (100))), (2, .ref (ad (w))), (3, .int (a0))]) hx hb dX2_passDay_77 hl (by decide) rfl (fun ls hl => ?_)
              refine lv_goto (tgt := 92) hx hb dX2_passDay_79 (by decide) ?_
              refine lv_aload_n hx hb dX2_passDay_92 rfl (lv_at hl 2 rfl) ?_
              refine m_callv (m_runV (20) (As := []) (rest := []) hx hb hml hown hts hE hM hS hA ce_X2_addToday tb_872 (V_X2_addToday_y l D A ad ns I17 L18 G hG hI) rfl rfl ⟨Nat.le_of_ble_eq_true rfl, Nat.le_of_ble_eq_true rfl⟩ (hG.1 20 (by decide)) rfl rfl (by decide) rfl hl.1 rfl (Nat.le_of_ble_eq_true rfl) dX2_passDay_93 ⟨Nat.le_of_ble_eq_true rfl, Nat.le_of_ble_eq_true rfl⟩) hS (fun u H locs hw hM hS => ?_)
              obtain ⟨I26, L27, rfl, hI, hkI26, xI26⟩ := hw
              have hM : Mem D A ad ns I26 L27 G H := hM
              have hK := hK.trans hkI26 rfl
              obtain ⟨v28, ev28⟩ : ∃ z : Int32, z = x5_14 + Int32.ofInt (1) := ⟨_, rfl⟩
              have tv28 := a_inc ev28 (by decide) (by omega) (by omega)
              refine lv_iinc (v := v28) (lv' := [(5, .int (v28)), (4, .int (v25)), (0, .ref (ad (20))), (1, .ref (ad (100))), (2, .ref (ad (w))), (3, .int (a0))]) hx hb dX2_passDay_96 hl (k := 1) rfl ev28.symm (by decide) rfl (fun ls hl => ?_)
              refine lv_goto (tgt := 14) hx hb dX2_passDay_99 (by decide) ?_
              have hnn : (v28).toNatClampNeg = (x5_14).toNatClampNeg + 1 := by have z1 := tn (i := v28) (by omega); have z2 := tn (i := x5_14) (by omega); omega
              have hhI : hrI (x5_14).toNatClampNeg = x5_14 := hrI_of (by omega)
              have hD1 : (dyS (lawC w I) (cF 100 I) ((x5_14).toNatClampNeg + 1)).1 = (trV (dyS (lawC w I) (cF 100 I) (x5_14).toNatClampNeg).1 x5_14 (dyS (lawC w I) (cF 100 I) (x5_14).toNatClampNeg).2 (lawC w I)) := by show trV (dyS (lawC w I) (cF 100 I) (x5_14).toNatClampNeg).1 (hrI (x5_14).toNatClampNeg) (dyS (lawC w I) (cF 100 I) (x5_14).toNatClampNeg).2 (lawC w I) = _; rw [hhI]
              have hD2 : ∀ j, (dyS (lawC w I) (cF 100 I) ((x5_14).toNatClampNeg + 1)).2 j = adG (trV (dyS (lawC w I) (cF 100 I) (x5_14).toNatClampNeg).1 x5_14 (dyS (lawC w I) (cF 100 I) (x5_14).toNatClampNeg).2 (lawC w I)) x5_14 (dyS (lawC w I) (cF 100 I) (x5_14).toNatClampNeg).2 j := fun j => by show adG (trV (dyS (lawC w I) (cF 100 I) (x5_14).toNatClampNeg).1 (hrI (x5_14).toNatClampNeg) (dyS (lawC w I) (cF 100 I) (x5_14).toNatClampNeg).2 (lawC w I)) (hrI (x5_14).toNatClampNeg) (dyS (lawC w I) (cF 100 I) (x5_14).toNatClampNeg).2 j = _; rw [hhI]
              have hD3 : blS (lawC w I) (cF 100 I) ((x5_14).toNatClampNeg + 1) = blS (lawC w I) (cF 100 I) (x5_14).toNatClampNeg + blH (trV (dyS (lawC w I) (cF 100 I) (x5_14).toNatClampNeg).1 x5_14 (dyS (lawC w I) (cF 100 I) (x5_14).toNatClampNeg).2 (lawC w I)) x5_14 := by show _ + blH (dyS (lawC w I) (cF 100 I) ((x5_14).toNatClampNeg + 1)).1 (hrI (x5_14).toNatClampNeg) = _; rw [hD1, hhI]
              exact ih14 (v28) (v25) I26 L27 _ _ ls hI hK (by first | omega | decide) (by rw [hnn, hD1]; exact ((hvT.nk hkI17 rfl).nk hkI26 rfl)) (fun j hj => by rw [hnn, hD2]; unfold adG; rw [if_neg hwy, hS3, xI26 j hj, show I17 21 = Ia14 21 from (((hkI17.getA 21 rfl)).trans (hkI6.getA 21 rfl)).trans (show (u2 Ia14 (20) 3 (x5_14)) 21 = Ia14 21 from by funext zz; simp [u2_v]), hg14 j hj, show I17 11 = I17 11 from rfl, hg1S j hj]) (by rw [(hkI26.get (10) 8 rfl)]; exact h8S) (fun hz => by rw [hnn, hD3]; unfold blH; rw [if_neg hwy, if_neg (hfb.1 (by omega)), ev25, hb14 hz]) (by omega) hM hS (lv_sub hl [0, 1, 2, 3, 4, 5] rfl)
  exact loop14 (_ + 1) (0) (0) I1 L _ _ ls hI hK (by first | omega | decide) (show EqV (dyS (lawC w I) (cF 100 I) 0).1 (cF 100 I1) from by rw [show cF 100 I1 = (cF 100 I) from cF_kp (fun n h1 h2 => hkI1.ap (b := 100) rfl n h1 h2)]; exact EqV.rf) (fun j hj => by rw [eI1]; simp [fillI, hj]; rfl) (by rw [show I1 10 8 = I 10 8 from (hkI1.get (10) 8 rfl)]; exact h8) (fun _ => rfl) (Nat.lt_succ_self _) hM hS (lv_sub hl [0, 1, 2, 3, 4, 5] rfl)
set_option maxHeartbeats 4000000 in
set_option maxRecDepth 20000 in
theorem V_X2_passDay_110_y (l : Launch) (D : va_G) (A : Nat → Prop) (ad : Nat → Nat) (ns : List Nat) (I : MI) (L : ML) (G : MG) (w : Nat) (a0 : Int32) (hG : SGC ns G) (hI : INV I) (hW : LOK ns G w) (hbg : 0 < (I 110 0).toInt) (hRK : RKw (cF 110 I)) (hOK : OKW (cF 110 I)) (hLF : LWF (lawC w I)) (hYL : YLY 110 I) (h8 : (I 10 8).toInt = 0) (ha0 : 0 ≤ a0.toInt ∧ a0.toInt ≤ 1) : Met l yX2_passDay (wd yX2_passDay cX2_passDay 6 (some .int)) ({ frames := 6, cells := 0, slots := 0, locals := 146 }) (va_Pc [.ref (ad (20)), .ref (ad (110)), .ref (ad (w)), .int a0] (PM D A ad ns I L G)) (va_Qi (fun r u => ∃ I2 L2, u = (ad, ns, I2, L2, G) ∧ INV I2 ∧ Kp [(11, 15), (21, 22), (117, 119)] [(10, 2), (10, 3), (10, 4), (10, 5), (10, 6), (10, 7), (10, 8), (10, 11), (10, 12), (20, 3), (110, 6)] I I2 ∧ (EqV (dayS (lawC w I) (cF 110 I)) (cF 110 I2) ∧ (I2 10 8).toInt = 0 ∧ (a0.toInt ≠ 0 → r = blS (lawC w I) (cF 110 I) 24))) (BM D A) A) 0 0 A := by
  refine m_ofW (by decide) (Nat.le_of_ble_eq_true rfl) ?_
  intro p e s m below meth c ls args hC hE hM hA hS hl
  obtain ⟨hx, hb, hml, hown, hts, hr, hlocks, hin⟩ := hC
  have km2 : (-2 : Int32).toInt = -2 := by decide
  have k0 : (0 : Int32).toInt = 0 := by decide
  have k1 : (1 : Int32).toInt = 1 := by decide
  have k24 : (24 : Int32).toInt = 24 := by decide
  have hK : Kp [(11, 15), (21, 22), (117, 119)] [(10, 2), (10, 3), (10, 4), (10, 5), (10, 6), (10, 7), (10, 8), (10, 11), (10, 12), (20, 3), (110, 6)] I I := Kp.rf
  have hl : lv_has ls 6 [(0, .ref (ad (20))), (1, .ref (ad (110))), (2, .ref (ad (w))), (3, .int (a0))] := hl
  refine lv_aload_n hx hb dX2_passDay_0 rfl (lv_at hl 0 rfl) ?_
  refine m_getr (20) 1 (21) hx hb hts hown hE oc2 hM (hG.1 20 (by decide)) rfl (by decide) rfl (hG.2 (20, 1, 21) (by decide)) (by decide) tb_186 dX2_passDay_1 ?_
  refine lv_iconst (v := (0)) hx hb dX2_passDay_4 (by decide) ?_
  refine m_callv (m_runS (As := [.ref (ad (21)), .int (0)]) (rest := []) hx hb hml hown hts hE hM hS hA ce_J7_fill_53178 tb_748 (C_J7_fill_53178 l D A ad ns I L G (21) 8 (0) (hG.1 21 (by decide)) rfl (by decide)) rfl rfl ⟨Nat.le_of_ble_eq_true rfl, Nat.le_of_ble_eq_true rfl⟩  rfl hl.1 rfl (Nat.le_of_ble_eq_true rfl) dX2_passDay_5 ⟨Nat.le_of_ble_eq_true rfl, Nat.le_of_ble_eq_true rfl⟩) hS (fun u H locs hw hM hS => ?_)
  subst hw
  obtain ⟨I1, eI1⟩ : ∃ z : MI, z = fillI I 21 8 (0) := ⟨_, rfl⟩
  have hM : Mem D A ad ns I1 L G H := by rw [eI1]; exact hM
  have hkI1 : Kp [(21, 22)] [] I I1 := by rw [eI1]; exact Kp.rf.fill rfl
  have hI : INV I1 := by rw [eI1]; exact hI.fill (fun k _ => (by decide : (-2147483648 : Int) ≤ (0 : Int32).toInt ∧ (0 : Int32).toInt ≤ (2147483647 : Int)))
  have hK := hK.trans hkI1 rfl
  refine lv_iconst (v := (0)) hx hb dX2_passDay_8 (by decide) ?_
  refine lv_istore (lv' := [(4, .int (0)), (0, .ref (ad (20))), (1, .ref (ad (110))), (2, .ref (ad (w))), (3, .int (a0))]) hx hb dX2_passDay_9 hl (by decide) rfl (fun ls hl => ?_)
  refine lv_iconst (v := (0)) hx hb dX2_passDay_11 (by decide) ?_
  refine lv_istore (lv' := [(5, .int (0)), (4, .int (0)), (0, .ref (ad (20))), (1, .ref (ad (110))), (2, .ref (ad (w))), (3, .int (a0))]) hx hb dX2_passDay_12 hl (by decide) rfl (fun ls hl => ?_)
  have loop14 : ∀ (n : Nat) (x5_14 : Int32) (x4_14 : Int32) (Ia14 : MI) (La14 : ML) (H : Heap) (locs : List Loc) (ls : Array Slot), INV Ia14 → Kp [(11, 15), (21, 22), (117, 119)] [(10, 2), (10, 3), (10, 4), (10, 5), (10, 6), (10, 7), (10, 8), (10, 11), (10, 12), (20, 3), (110, 6)] I Ia14 → (0 ≤ x5_14.toInt ∧ x5_14.toInt ≤ 24) → (EqV ((dyS (lawC w I) (cF 110 I) (x5_14).toNatClampNeg).1) (cF 110 Ia14)) → (∀ j : Nat, j < 8 → Ia14 21 j = (dyS (lawC w I) (cF 110 I) (x5_14).toNatClampNeg).2 j) → ((Ia14 10 8).toInt = 0) → (a0.toInt ≠ 0 → x4_14 = blS (lawC w I) (cF 110 I) (x5_14).toNatClampNeg) → (24 - x5_14.toInt).toNat < n → Mem D A ad ns Ia14 La14 G H → va_S A s.heap H locs → lv_has ls 6 [(5, .int (x5_14)), (4, .int (x4_14)), (0, .ref (ad (20))), (1, .ref (ad (110))), (2, .ref (ad (w))), (3, .int (a0))] → W p l e ({ frames := 6, cells := 0, slots := 0, locals := 146 } : Room) s m args below meth c H locs 0 0 (MQ below (va_Qi (fun r u => ∃ I2 L2, u = (ad, ns, I2, L2, G) ∧ INV I2 ∧ Kp [(11, 15), (21, 22), (117, 119)] [(10, 2), (10, 3), (10, 4), (10, 5), (10, 6), (10, 7), (10, 8), (10, 11), (10, 12), (20, 3), (110, 6)] I I2 ∧ (EqV (dayS (lawC w I) (cF 110 I)) (cF 110 I2) ∧ (I2 10 8).toInt = 0 ∧ (a0.toInt ≠ 0 → r = blS (lawC w I) (cF 110 I) 24))) (BM D A) A) args s 0 0 A) (F0 m 14 ls []) := by
    intro n
    induction n with
    | zero =>
      intro x5_14 x4_14 Ia14 La14 H locs ls hI hK hr5_14 hv14 hg14 h814 hb14 hmu
      exact absurd hmu (Nat.not_lt_zero _)
    | succ n ih14 =>
      intro x5_14 x4_14 Ia14 La14 H locs ls hI hK hr5_14 hv14 hg14 h814 hb14 hmu14 hM hS hl
      have hK14 := hK
      have hLc := lawC_kp hW.1 hK (by decide) (by decide)
      have hw14 : OKW (dyS (lawC w I) (cF 110 I) (x5_14).toNatClampNeg).1 := dyS_ok hOK _
      have hr14 : RKw (dyS (lawC w I) (cF 110 I) (x5_14).toNatClampNeg).1 := dyS_rk hRK _
      have hRK14 : RKw (cF 110 Ia14) := hr14.eq hv14
      have hbg14 : 0 < (Ia14 110 0).toInt := by rw [hK.get 110 0 rfl]; exact hbg
      have zh := tn (i := x5_14) (by omega)
      refine lv_iload hx hb dX2_passDay_14 (lv_at hl 0 rfl) ?_
      refine lv_bipush (v := (24)) hx hb dX2_passDay_16 (by decide) ?_
      refine lv_icmp_ge (tgt := 102) hx hb dX2_passDay_18 (by decide) (fun c2 => ?_) (fun c2 => ?_)
      · have hc2 := c2
        have q2 := q_le hc2
        refine lv_aload_n hx hb dX2_passDay_102 rfl (lv_at hl 3 rfl) ?_
        refine lv_aload_n hx hb dX2_passDay_103 rfl (lv_at hl 2 rfl) ?_
        refine m_getr (20) 1 (21) hx hb hts hown hE oc2 hM (hG.1 20 (by decide)) rfl (by decide) rfl (hG.2 (20, 1, 21) (by decide)) (by decide) tb_186 dX2_passDay_104 ?_
        refine m_callv (m_runV (110) (As := [.ref (ad (21))]) (rest := []) hx hb hml hown hts hE hM hS hA ce_X8_endDay tb_876 (V_X8_endDay_110_y l D A ad ns Ia14 La14 G hG hI) rfl rfl ⟨Nat.le_of_ble_eq_true rfl, Nat.le_of_ble_eq_true rfl⟩ (hG.1 110 (by decide)) rfl rfl (by decide) rfl hl.1 rfl (Nat.le_of_ble_eq_true rfl) dX2_passDay_107 ⟨Nat.le_of_ble_eq_true rfl, Nat.le_of_ble_eq_true rfl⟩) hS (fun u H locs hw hM hS => ?_)
        obtain ⟨I3, L4, rfl, hI, hkI3, xI3⟩ := hw
        have hM : Mem D A ad ns I3 L4 G H := hM
        have hK := hK.trans hkI3 rfl
        refine lv_iload hx hb dX2_passDay_110 (lv_at hl 1 rfl) ?_
        have h24 : (x5_14).toNatClampNeg = 24 := by have z := tn (i := x5_14) (by omega); omega
        have hb24 := hb14
        rw [h24] at hb24
        have hv24 := hv14
        rw [h24] at hv24
        have hg24 := hg14
        rw [h24] at hg24
        exact m_iret hx hb hr hlocks hM hS (Nat.le_of_ble_eq_true rfl) (Nat.le_of_ble_eq_true rfl) ⟨_, _, rfl, hI, hK, ⟨(edS_eq (p := (dyS (lawC w I) (cF 110 I) 24)) (q := (cF 110 Ia14, Ia14 21)) (dyS_ok hOK 24) ⟨hv24, fun j hj => hg24 j hj⟩).tr xI3, by rw [(hkI3.get (10) 8 rfl)]; exact h814, hb24⟩⟩ dX2_passDay_112
      · have hc2 := c2
        have q2 := q_nle hc2
        refine lv_aload_n hx hb dX2_passDay_21 rfl (lv_at hl 2 rfl) ?_
        refine lv_iload hx hb dX2_passDay_22 (lv_at hl 0 rfl) ?_
        refine m_puti (20) 3 hx hb hts hown hE oc2 hM hS (hG.1 20 (by decide)) rfl (by decide) rfl rfl rfl rfl tb_188 dX2_passDay_24 (fun H locs I5 eI5 hM hS => ?_)
        subst eI5
        have hI := hI.put (n := 20) (k := 3) (v := x5_14) (lo := 0) (hi := 23) rfl (by first | omega | decide)
        have hK := hK.put (n := 20) (k := 3) (v := x5_14) (by first | rfl | simp [inR])
        refine lv_aload_n hx hb dX2_passDay_27 rfl (lv_at hl 2 rfl) ?_
        refine lv_aload_n hx hb dX2_passDay_28 rfl (lv_at hl 3 rfl) ?_
        refine lv_aload_n hx hb dX2_passDay_29 rfl (lv_at hl 4 rfl) ?_
        have hLcJ : ∀ n, n < 6 → lawC w (u2 Ia14 (20) 3 (x5_14)) n = lawC w I n := fun n hn => (funext fun k => by show (u2 Ia14 (20) 3 (x5_14)) (w + n) k = Ia14 (w + n) k; have hlb := lbw hW.1; rw [u2_ne _ _ _ (by omega)] : lawC w (u2 Ia14 (20) 3 (x5_14)) n = lawC w Ia14 n).trans (hLc n hn)
        refine m_callv (m_runV (20) (As := [.ref (ad (110)), .ref (ad (w))]) (rest := []) hx hb hml hown hts hE hM hS hA ce_X2_turnMirrors tb_749 (V_X2_turnMirrors_110_y l D A ad ns (u2 Ia14 (20) 3 (x5_14)) La14 G (w) hG hI hW (by rw [show (u2 Ia14 (20) 3 (x5_14)) 110 0 = Ia14 110 0 from by rw [u2_ne _ _ _ (by decide)]]; exact hbg14) (by rw [cF_u (by decide)]; exact hRK14) (hLF.eq hLcJ)) rfl rfl ⟨Nat.le_of_ble_eq_true rfl, Nat.le_of_ble_eq_true rfl⟩ (hG.1 20 (by decide)) rfl rfl (by decide) rfl hl.1 rfl (Nat.le_of_ble_eq_true rfl) dX2_passDay_30 ⟨Nat.le_of_ble_eq_true rfl, Nat.le_of_ble_eq_true rfl⟩) hS (fun u H locs hw hM hS => ?_)
        obtain ⟨I6, L7, rfl, hI, hkI6, xI6⟩ := hw
        have hM : Mem D A ad ns I6 L7 G H := hM
        have hK := hK.trans hkI6 rfl
        have xT := xI6
        rw [trV_L hLcJ, u2_self, cF_u (by decide), show (u2 Ia14 (20) 3 (x5_14)) 21 = Ia14 21 from u2_ne _ _ _ (by decide)] at xT
        have hvT : EqV (trV (dyS (lawC w I) (cF 110 I) (x5_14).toNatClampNeg).1 x5_14 (dyS (lawC w I) (cF 110 I) (x5_14).toNatClampNeg).2 (lawC w I)) (cF 110 I6) := (trV_eq hw14 hv14 (fun j hj => hg14 j hj) (by omega)).tr xT
        have hOT : OKW (trV (dyS (lawC w I) (cF 110 I) (x5_14).toNatClampNeg).1 x5_14 (dyS (lawC w I) (cF 110 I) (x5_14).toNatClampNeg).2 (lawC w I)) := OKW.tV hw14
        have hRT : RKw (trV (dyS (lawC w I) (cF 110 I) (x5_14).toNatClampNeg).1 x5_14 (dyS (lawC w I) (cF 110 I) (x5_14).toNatClampNeg).2 (lawC w I)) := RKw.tV hr14
        refine lv_aload_n hx hb dX2_passDay_33 rfl (lv_at hl 3 rfl) ?_
        refine lv_iload hx hb dX2_passDay_34 (lv_at hl 0 rfl) ?_
        refine m_calli (m_runV (110) (As := [.int (x5_14)]) (rest := []) hx hb hml hown hts hE hM hS hA ce_X8_isLit tb_767 (V_X8_isLit_110 l D A ad ns I6 L7 G (x5_14) hG hI) rfl rfl ⟨Nat.le_of_ble_eq_true rfl, Nat.le_of_ble_eq_true rfl⟩ (hG.1 110 (by decide)) rfl rfl (by decide) rfl hl.1 rfl (Nat.le_of_ble_eq_true rfl) dX2_passDay_36 ⟨Nat.le_of_ble_eq_true rfl, Nat.le_of_ble_eq_true rfl⟩) hS (fun r8 u H locs hw hM hS => ?_)
        obtain ⟨rfl, xr8⟩ := hw
        have hM : Mem D A ad ns I6 L7 G H := hM
        have yr8 := bo01 xr8
        refine lv_if_eq (tgt := 96) hx hb dX2_passDay_39 (by decide) (fun c9 => ?_) (fun c9 => ?_)
        · have hc9 := c9
          have q9 := xr8.f hc9
          have hwy : (wyV (trV (dyS (lawC w I) (cF 110 I) (x5_14).toNatClampNeg).1 x5_14 (dyS (lawC w I) (cF 110 I) (x5_14).toNatClampNeg).2 (lawC w I)) x5_14).toInt = -1 := by rw [← (wyV_eq hvT hOT.1 (by omega)).2.1, wy_C]; exact Classical.not_not.mp (fun zz => q9 ⟨by rw [((hkI6.get (110) 0 rfl)).trans (show (u2 Ia14 (20) 3 (x5_14)) (110) 0 = Ia14 (110) 0 from by simp [u2_v])]; exact hbg14, ⟨by omega, by omega⟩, zz⟩)
          obtain ⟨v10, ev10⟩ : ∃ z : Int32, z = x5_14 + Int32.ofInt (1) := ⟨_, rfl⟩
          have tv10 := a_inc ev10 (by decide) (by omega) (by omega)
          refine lv_iinc (v := v10) (lv' := [(5, .int (v10)), (4, .int (x4_14)), (0, .ref (ad (20))), (1, .ref (ad (110))), (2, .ref (ad (w))), (3, .int (a0))]) hx hb dX2_passDay_96 hl (k := 0) rfl ev10.symm (by decide) rfl (fun ls hl => ?_)
          refine lv_goto (tgt := 14) hx hb dX2_passDay_99 (by decide) ?_
          have hnn : (v10).toNatClampNeg = (x5_14).toNatClampNeg + 1 := by have z1 := tn (i := v10) (by omega); have z2 := tn (i := x5_14) (by omega); omega
          have hhI : hrI (x5_14).toNatClampNeg = x5_14 := hrI_of (by omega)
          have hD1 : (dyS (lawC w I) (cF 110 I) ((x5_14).toNatClampNeg + 1)).1 = (trV (dyS (lawC w I) (cF 110 I) (x5_14).toNatClampNeg).1 x5_14 (dyS (lawC w I) (cF 110 I) (x5_14).toNatClampNeg).2 (lawC w I)) := by show trV (dyS (lawC w I) (cF 110 I) (x5_14).toNatClampNeg).1 (hrI (x5_14).toNatClampNeg) (dyS (lawC w I) (cF 110 I) (x5_14).toNatClampNeg).2 (lawC w I) = _; rw [hhI]
          have hD2 : ∀ j, (dyS (lawC w I) (cF 110 I) ((x5_14).toNatClampNeg + 1)).2 j = adG (trV (dyS (lawC w I) (cF 110 I) (x5_14).toNatClampNeg).1 x5_14 (dyS (lawC w I) (cF 110 I) (x5_14).toNatClampNeg).2 (lawC w I)) x5_14 (dyS (lawC w I) (cF 110 I) (x5_14).toNatClampNeg).2 j := fun j => by show adG (trV (dyS (lawC w I) (cF 110 I) (x5_14).toNatClampNeg).1 (hrI (x5_14).toNatClampNeg) (dyS (lawC w I) (cF 110 I) (x5_14).toNatClampNeg).2 (lawC w I)) (hrI (x5_14).toNatClampNeg) (dyS (lawC w I) (cF 110 I) (x5_14).toNatClampNeg).2 j = _; rw [hhI]
          have hD3 : blS (lawC w I) (cF 110 I) ((x5_14).toNatClampNeg + 1) = blS (lawC w I) (cF 110 I) (x5_14).toNatClampNeg + blH (trV (dyS (lawC w I) (cF 110 I) (x5_14).toNatClampNeg).1 x5_14 (dyS (lawC w I) (cF 110 I) (x5_14).toNatClampNeg).2 (lawC w I)) x5_14 := by show _ + blH (dyS (lawC w I) (cF 110 I) ((x5_14).toNatClampNeg + 1)).1 (hrI (x5_14).toNatClampNeg) = _; rw [hD1, hhI]
          exact ih14 (v10) (x4_14) I6 L7 _ _ ls hI hK (by first | omega | decide) (by rw [hnn, hD1]; exact hvT) (fun j hj => by rw [hnn, hD2]; unfold adG; rw [if_pos hwy]; exact (congrFun (((hkI6.getA 21 rfl)).trans (show (u2 Ia14 (20) 3 (x5_14)) 21 = Ia14 21 from by funext zz; simp [u2_v])) j).trans (hg14 j hj)) (by rw [((hkI6.get (10) 8 rfl)).trans (show (u2 Ia14 (20) 3 (x5_14)) (10) 8 = Ia14 (10) 8 from by simp [u2_v])]; exact h814) (fun hz => by rw [hnn, hD3]; unfold blH; rw [if_pos hwy, i_adz]; exact hb14 hz) (by omega) hM hS (lv_sub hl [0, 1, 2, 3, 4, 5] rfl)
        · have hc9 := c9
          have q9 := xr8.t hc9
          have lh9 := q9.2.1
          have hlitS : Lit 110 I6 x5_14 := q9.2
          have hI_T := hI
          have h8T : I6 10 8 = Ia14 10 8 := ((hkI6.get (10) 8 rfl)).trans (show (u2 Ia14 (20) 3 (x5_14)) (10) 8 = Ia14 (10) 8 from by simp [u2_v])
          have hwy : ¬ (wyV (trV (dyS (lawC w I) (cF 110 I) (x5_14).toNatClampNeg).1 x5_14 (dyS (lawC w I) (cF 110 I) (x5_14).toNatClampNeg).2 (lawC w I)) x5_14).toInt = -1 := by rw [← (wyV_eq hvT hOT.1 (by omega)).2.1, wy_C]; exact hlitS.2
          refine lv_iload_n hx hb dX2_passDay_42 rfl (lv_at hl 5 rfl) ?_
          refine lv_if_eq (tgt := 82) hx hb dX2_passDay_43 (by decide) (fun c11 => ?_) (fun c11 => ?_)
          · have hc11 := c11
            have q11 := q_eq hc11
            refine lv_aload_n hx hb dX2_passDay_82 rfl (lv_at hl 2 rfl) ?_
            refine m_getr (20) 0 (10) hx hb hts hown hE oc2 hM (hG.1 20 (by decide)) rfl (by decide) rfl (hG.2 (20, 0, 10) (by decide)) (by decide) tb_185 dX2_passDay_83 ?_
            refine lv_aload_n hx hb dX2_passDay_86 rfl (lv_at hl 3 rfl) ?_
            refine lv_iload hx hb dX2_passDay_87 (lv_at hl 0 rfl) ?_
            refine m_callv (m_runV (10) (As := [.ref (ad (110)), .int (x5_14)]) (rest := []) hx hb hml hown hts hE hM hS hA ce_X1_shine tb_871 (V_X1_shine_110_l l D A ad ns I6 L7 G (x5_14) hG hI (hlitS) (by first | omega | decide)) rfl rfl ⟨Nat.le_of_ble_eq_true rfl, Nat.le_of_ble_eq_true rfl⟩ (hG.1 10 (by decide)) rfl rfl (by decide) rfl hl.1 rfl (Nat.le_of_ble_eq_true rfl) dX2_passDay_89 ⟨Nat.le_of_ble_eq_true rfl, Nat.le_of_ble_eq_true rfl⟩) hS (fun u H locs hw hM hS => ?_)
            obtain ⟨I12, L13, rfl, hI, hkI12, xI12⟩ := hw
            have hM : Mem D A ad ns I12 L13 G H := hM
            have hK := hK.trans hkI12 rfl
            have hyT : YLY 110 I6 := hYL.of ((((hkI6.getA 114 rfl)).trans (show (u2 Ia14 (20) 3 (x5_14)) 114 = Ia14 114 from by funext zz; simp [u2_v])).trans (hK14.getA 114 rfl)) ((((hkI6.get (110) 9 rfl)).trans (show (u2 Ia14 (20) 3 (x5_14)) (110) 9 = Ia14 (110) 9 from by simp [u2_v])).trans (hK14.get 110 9 rfl)) (fun k hk => by obtain ⟨q1, q2, q3, q4⟩ := hvT.yds k hk; rw [q1, q2, q3, q4]; exact ⟨(trA_ne (by decide)).trans (dyS_st (by decide) _), (trA_ne (by decide)).trans (dyS_st (by decide) _), (trA_ne (by decide)).trans (dyS_st (by decide) _), (trA_ne (by decide)).trans (dyS_st (by decide) _)⟩) hOK.n9
            have htT : TNok (twC 110 I6) := twC_ok hI_T rfl rfl (fun _ => rfl) (fun _ => rfl)
            obtain ⟨S2, hS1, hS2⟩ := SHE.sh xI12 (fun zz => absurd zz (by rw [h8T]; omega)) hyT htT (hI_T.get 110 2 (lo := 0) (hi := 23) rfl) (hI_T.get 110 3 (lo := 0) (hi := 23) rfl)
            have hS3 : shV (trV (dyS (lawC w I) (cF 110 I) (x5_14).toNatClampNeg).1 x5_14 (dyS (lawC w I) (cF 110 I) (x5_14).toNatClampNeg).2 (lawC w I)) x5_14 = (nC I12, S2) := (shV_eq hOT hvT (by omega)).symm.trans hS2
            have hg1S : ∀ j : Nat, j < 8 → I12 11 j = S2.got j := hS1.1
            refine lv_aload_n hx hb dX2_passDay_92 rfl (lv_at hl 2 rfl) ?_
            refine m_callv (m_runV (20) (As := []) (rest := []) hx hb hml hown hts hE hM hS hA ce_X2_addToday tb_872 (V_X2_addToday_y l D A ad ns I12 L13 G hG hI) rfl rfl ⟨Nat.le_of_ble_eq_true rfl, Nat.le_of_ble_eq_true rfl⟩ (hG.1 20 (by decide)) rfl rfl (by decide) rfl hl.1 rfl (Nat.le_of_ble_eq_true rfl) dX2_passDay_93 ⟨Nat.le_of_ble_eq_true rfl, Nat.le_of_ble_eq_true rfl⟩) hS (fun u H locs hw hM hS => ?_)
            obtain ⟨I14, L15, rfl, hI, hkI14, xI14⟩ := hw
            have hM : Mem D A ad ns I14 L15 G H := hM
            have hK := hK.trans hkI14 rfl
            obtain ⟨v16, ev16⟩ : ∃ z : Int32, z = x5_14 + Int32.ofInt (1) := ⟨_, rfl⟩
            have tv16 := a_inc ev16 (by decide) (by omega) (by omega)
            refine lv_iinc (v := v16) (lv' := [(5, .int (v16)), (4, .int (x4_14)), (0, .ref (ad (20))), (1, .ref (ad (110))), (2, .ref (ad (w))), (3, .int (a0))]) hx hb dX2_passDay_96 hl (k := 0) rfl ev16.symm (by decide) rfl (fun ls hl => ?_)
            refine lv_goto (tgt := 14) hx hb dX2_passDay_99 (by decide) ?_
            have hnn : (v16).toNatClampNeg = (x5_14).toNatClampNeg + 1 := by have z1 := tn (i := v16) (by omega); have z2 := tn (i := x5_14) (by omega); omega
            have hhI : hrI (x5_14).toNatClampNeg = x5_14 := hrI_of (by omega)
            have hD1 : (dyS (lawC w I) (cF 110 I) ((x5_14).toNatClampNeg + 1)).1 = (trV (dyS (lawC w I) (cF 110 I) (x5_14).toNatClampNeg).1 x5_14 (dyS (lawC w I) (cF 110 I) (x5_14).toNatClampNeg).2 (lawC w I)) := by show trV (dyS (lawC w I) (cF 110 I) (x5_14).toNatClampNeg).1 (hrI (x5_14).toNatClampNeg) (dyS (lawC w I) (cF 110 I) (x5_14).toNatClampNeg).2 (lawC w I) = _; rw [hhI]
            have hD2 : ∀ j, (dyS (lawC w I) (cF 110 I) ((x5_14).toNatClampNeg + 1)).2 j = adG (trV (dyS (lawC w I) (cF 110 I) (x5_14).toNatClampNeg).1 x5_14 (dyS (lawC w I) (cF 110 I) (x5_14).toNatClampNeg).2 (lawC w I)) x5_14 (dyS (lawC w I) (cF 110 I) (x5_14).toNatClampNeg).2 j := fun j => by show adG (trV (dyS (lawC w I) (cF 110 I) (x5_14).toNatClampNeg).1 (hrI (x5_14).toNatClampNeg) (dyS (lawC w I) (cF 110 I) (x5_14).toNatClampNeg).2 (lawC w I)) (hrI (x5_14).toNatClampNeg) (dyS (lawC w I) (cF 110 I) (x5_14).toNatClampNeg).2 j = _; rw [hhI]
            have hD3 : blS (lawC w I) (cF 110 I) ((x5_14).toNatClampNeg + 1) = blS (lawC w I) (cF 110 I) (x5_14).toNatClampNeg + blH (trV (dyS (lawC w I) (cF 110 I) (x5_14).toNatClampNeg).1 x5_14 (dyS (lawC w I) (cF 110 I) (x5_14).toNatClampNeg).2 (lawC w I)) x5_14 := by show _ + blH (dyS (lawC w I) (cF 110 I) ((x5_14).toNatClampNeg + 1)).1 (hrI (x5_14).toNatClampNeg) = _; rw [hD1, hhI]
            exact ih14 (v16) (x4_14) I14 L15 _ _ ls hI hK (by first | omega | decide) (by rw [hnn, hD1]; exact ((hvT.nk hkI12 rfl).nk hkI14 rfl)) (fun j hj => by rw [hnn, hD2]; unfold adG; rw [if_neg hwy, hS3, xI14 j hj, show I12 21 = Ia14 21 from (((hkI12.getA 21 rfl)).trans (hkI6.getA 21 rfl)).trans (show (u2 Ia14 (20) 3 (x5_14)) 21 = Ia14 21 from by funext zz; simp [u2_v]), hg14 j hj, show I12 11 = I12 11 from rfl, hg1S j hj]) (by rw [((((hkI14.get (10) 8 rfl)).trans (hkI12.get (10) 8 rfl)).trans (hkI6.get (10) 8 rfl)).trans (show (u2 Ia14 (20) 3 (x5_14)) (10) 8 = Ia14 (10) 8 from by simp [u2_v])]; exact h814) (fun hz => by exfalso; omega) (by omega) hM hS (lv_sub hl [0, 1, 2, 3, 4, 5] rfl)
          · have hc11 := c11
            have q11 := q_ne hc11
            refine lv_aload_n hx hb dX2_passDay_46 rfl (lv_at hl 2 rfl) ?_
            refine m_getr (20) 0 (10) hx hb hts hown hE oc2 hM (hG.1 20 (by decide)) rfl (by decide) rfl (hG.2 (20, 0, 10) (by decide)) (by decide) tb_185 dX2_passDay_47 ?_
            refine lv_aload_n hx hb dX2_passDay_50 rfl (lv_at hl 3 rfl) ?_
            refine lv_iload hx hb dX2_passDay_51 (lv_at hl 0 rfl) ?_
            refine m_callv (m_runV (10) (As := [.ref (ad (110)), .int (x5_14)]) (rest := []) hx hb hml hown hts hE hM hS hA ce_X1_shineWatched tb_796 (V_X1_shineWatched_110_l l D A ad ns I6 L7 G (x5_14) hG hI (hlitS) (by first | omega | decide)) rfl rfl ⟨Nat.le_of_ble_eq_true rfl, Nat.le_of_ble_eq_true rfl⟩ (hG.1 10 (by decide)) rfl rfl (by decide) rfl hl.1 rfl (Nat.le_of_ble_eq_true rfl) dX2_passDay_53 ⟨Nat.le_of_ble_eq_true rfl, Nat.le_of_ble_eq_true rfl⟩) hS (fun u H locs hw hM hS => ?_)
            obtain ⟨I17, L18, rfl, hI, hkI17, xI17⟩ := hw
            have hM : Mem D A ad ns I17 L18 G H := hM
            have hK := hK.trans hkI17 rfl
            have hyT : YLY 110 I6 := hYL.of ((((hkI6.getA 114 rfl)).trans (show (u2 Ia14 (20) 3 (x5_14)) 114 = Ia14 114 from by funext zz; simp [u2_v])).trans (hK14.getA 114 rfl)) ((((hkI6.get (110) 9 rfl)).trans (show (u2 Ia14 (20) 3 (x5_14)) (110) 9 = Ia14 (110) 9 from by simp [u2_v])).trans (hK14.get 110 9 rfl)) (fun k hk => by obtain ⟨q1, q2, q3, q4⟩ := hvT.yds k hk; rw [q1, q2, q3, q4]; exact ⟨(trA_ne (by decide)).trans (dyS_st (by decide) _), (trA_ne (by decide)).trans (dyS_st (by decide) _), (trA_ne (by decide)).trans (dyS_st (by decide) _), (trA_ne (by decide)).trans (dyS_st (by decide) _)⟩) hOK.n9
            have htT : TNok (twC 110 I6) := twC_ok hI_T rfl rfl (fun _ => rfl) (fun _ => rfl)
            have h8S := xI17.2; obtain ⟨S2, hS1, hSp, hS2⟩ := SHV.sh xI17.1 hyT htT (hI_T.get 110 2 (lo := 0) (hi := 23) rfl) (hI_T.get 110 3 (lo := 0) (hi := 23) rfl)
            have hS3 : shV (trV (dyS (lawC w I) (cF 110 I) (x5_14).toNatClampNeg).1 x5_14 (dyS (lawC w I) (cF 110 I) (x5_14).toNatClampNeg).2 (lawC w I)) x5_14 = (nC I17, S2) := (shV_eq hOT hvT (by omega)).symm.trans hS2
            have hg1S : ∀ j : Nat, j < 8 → I17 11 j = S2.got j := hS1.1
            refine lv_iload hx hb dX2_passDay_56 (lv_at hl 1 rfl) ?_
            refine lv_aload_n hx hb dX2_passDay_58 rfl (lv_at hl 2 rfl) ?_
            refine m_getr (20) 0 (10) hx hb hts hown hE oc2 hM (hG.1 20 (by decide)) rfl (by decide) rfl (hG.2 (20, 0, 10) (by decide)) (by decide) tb_185 dX2_passDay_59 ?_
            refine lv_aload_n hx hb dX2_passDay_62 rfl (lv_at hl 3 rfl) ?_
            refine m_calli (m_runV (10) (As := [.ref (ad (110))]) (rest := [.int (x4_14)]) hx hb hml hown hts hE hM hS hA ce_X1_firstBlind tb_863 (V_X1_firstBlind_110_l l D A ad ns I17 L18 G hG hI) rfl rfl ⟨Nat.le_of_ble_eq_true rfl, Nat.le_of_ble_eq_true rfl⟩ (hG.1 10 (by decide)) rfl rfl (by decide) rfl hl.1 rfl (Nat.le_of_ble_eq_true rfl) dX2_passDay_63 ⟨Nat.le_of_ble_eq_true rfl, Nat.le_of_ble_eq_true rfl⟩) hS (fun r19 u H locs hw hM hS => ?_)
            obtain ⟨rfl, xr19⟩ := hw
            have hM : Mem D A ad ns I17 L18 G H := hM
            have hfb := fsB_bl xr19
            have hbN : blN 576 (I17 112) (I17 12) = blN 576 ((trV (dyS (lawC w I) (cF 110 I) (x5_14).toNatClampNeg).1 x5_14 (dyS (lawC w I) (cF 110 I) (x5_14).toNatClampNeg).2 (lawC w I)) 3) (shV (trV (dyS (lawC w I) (cF 110 I) (x5_14).toNatClampNeg).1 x5_14 (dyS (lawC w I) (cF 110 I) (x5_14).toNatClampNeg).2 (lawC w I)) x5_14).2.pas := by rw [hS3]; exact blN.same (Nat.le_refl _) (fun c hc => by rw [← cf3 (b := 110) (J := I17), show cF 110 I17 = cF 110 I6 from cF_kp (fun n h1 h2 => hkI17.ap (b := 110) rfl n h1 h2)]; exact hvT 3 c (by decide) (by decide) hc) (fun c hc => hSp c hc)
            rw [hbN] at hfb
            refine lv_bipush (v := (-2)) hx hb dX2_passDay_66 (by decide) ?_
            refine lv_icmp_ne (tgt := 75) hx hb dX2_passDay_68 (by decide) (fun c20 => ?_) (fun c20 => ?_)
            · have hc20 := c20
              have q20 := q_ne hc20
              refine lv_iconst (v := (1)) hx hb dX2_passDay_75 (by decide) ?_
              refine lv_iadd hx hb dX2_passDay_76 ?_
              refine lv_topi (fun v21 ev21 => ?_)
              refine lv_istore (lv' := [(4, .int (v21)), (5, .int (x5_14)), (0, .ref (ad (20))), (1, .ref (ad (110))), (2, .ref (ad (w))), (3, .int (a0))]) hx hb dX2_passDay_77 hl (by decide) rfl (fun ls hl => ?_)
              refine lv_goto (tgt := 92) hx hb dX2_passDay_79 (by decide) ?_
              refine lv_aload_n hx hb dX2_passDay_92 rfl (lv_at hl 2 rfl) ?_
              refine m_callv (m_runV (20) (As := []) (rest := []) hx hb hml hown hts hE hM hS hA ce_X2_addToday tb_872 (V_X2_addToday_y l D A ad ns I17 L18 G hG hI) rfl rfl ⟨Nat.le_of_ble_eq_true rfl, Nat.le_of_ble_eq_true rfl⟩ (hG.1 20 (by decide)) rfl rfl (by decide) rfl hl.1 rfl (Nat.le_of_ble_eq_true rfl) dX2_passDay_93 ⟨Nat.le_of_ble_eq_true rfl, Nat.le_of_ble_eq_true rfl⟩) hS (fun u H locs hw hM hS => ?_)
              obtain ⟨I22, L23, rfl, hI, hkI22, xI22⟩ := hw
              have hM : Mem D A ad ns I22 L23 G H := hM
              have hK := hK.trans hkI22 rfl
              obtain ⟨v24, ev24⟩ : ∃ z : Int32, z = x5_14 + Int32.ofInt (1) := ⟨_, rfl⟩
              have tv24 := a_inc ev24 (by decide) (by omega) (by omega)
              refine lv_iinc (v := v24) (lv' := [(5, .int (v24)), (4, .int (v21)), (0, .ref (ad (20))), (1, .ref (ad (110))), (2, .ref (ad (w))), (3, .int (a0))]) hx hb dX2_passDay_96 hl (k := 1) rfl ev24.symm (by decide) rfl (fun ls hl => ?_)
              refine lv_goto (tgt := 14) hx hb dX2_passDay_99 (by decide) ?_
              have hnn : (v24).toNatClampNeg = (x5_14).toNatClampNeg + 1 := by have z1 := tn (i := v24) (by omega); have z2 := tn (i := x5_14) (by omega); omega
              have hhI : hrI (x5_14).toNatClampNeg = x5_14 := hrI_of (by omega)
              have hD1 : (dyS (lawC w I) (cF 110 I) ((x5_14).toNatClampNeg + 1)).1 = (trV (dyS (lawC w I) (cF 110 I) (x5_14).toNatClampNeg).1 x5_14 (dyS (lawC w I) (cF 110 I) (x5_14).toNatClampNeg).2 (lawC w I)) := by show trV (dyS (lawC w I) (cF 110 I) (x5_14).toNatClampNeg).1 (hrI (x5_14).toNatClampNeg) (dyS (lawC w I) (cF 110 I) (x5_14).toNatClampNeg).2 (lawC w I) = _; rw [hhI]
              have hD2 : ∀ j, (dyS (lawC w I) (cF 110 I) ((x5_14).toNatClampNeg + 1)).2 j = adG (trV (dyS (lawC w I) (cF 110 I) (x5_14).toNatClampNeg).1 x5_14 (dyS (lawC w I) (cF 110 I) (x5_14).toNatClampNeg).2 (lawC w I)) x5_14 (dyS (lawC w I) (cF 110 I) (x5_14).toNatClampNeg).2 j := fun j => by show adG (trV (dyS (lawC w I) (cF 110 I) (x5_14).toNatClampNeg).1 (hrI (x5_14).toNatClampNeg) (dyS (lawC w I) (cF 110 I) (x5_14).toNatClampNeg).2 (lawC w I)) (hrI (x5_14).toNatClampNeg) (dyS (lawC w I) (cF 110 I) (x5_14).toNatClampNeg).2 j = _; rw [hhI]
              have hD3 : blS (lawC w I) (cF 110 I) ((x5_14).toNatClampNeg + 1) = blS (lawC w I) (cF 110 I) (x5_14).toNatClampNeg + blH (trV (dyS (lawC w I) (cF 110 I) (x5_14).toNatClampNeg).1 x5_14 (dyS (lawC w I) (cF 110 I) (x5_14).toNatClampNeg).2 (lawC w I)) x5_14 := by show _ + blH (dyS (lawC w I) (cF 110 I) ((x5_14).toNatClampNeg + 1)).1 (hrI (x5_14).toNatClampNeg) = _; rw [hD1, hhI]
              exact ih14 (v24) (v21) I22 L23 _ _ ls hI hK (by first | omega | decide) (by rw [hnn, hD1]; exact ((hvT.nk hkI17 rfl).nk hkI22 rfl)) (fun j hj => by rw [hnn, hD2]; unfold adG; rw [if_neg hwy, hS3, xI22 j hj, show I17 21 = Ia14 21 from (((hkI17.getA 21 rfl)).trans (hkI6.getA 21 rfl)).trans (show (u2 Ia14 (20) 3 (x5_14)) 21 = Ia14 21 from by funext zz; simp [u2_v]), hg14 j hj, show I17 11 = I17 11 from rfl, hg1S j hj]) (by rw [(hkI22.get (10) 8 rfl)]; exact h8S) (fun hz => by rw [hnn, hD3]; unfold blH; rw [if_neg hwy, if_pos (hfb.2 (by omega)), ev21, hb14 hz]) (by omega) hM hS (lv_sub hl [0, 1, 2, 3, 4, 5] rfl)
            · have hc20 := c20
              have q20 := q_eq hc20
              refine lv_iconst (v := (0)) hx hb dX2_passDay_71 (by decide) ?_
              refine lv_goto (tgt := 76) hx hb dX2_passDay_72 (by decide) ?_
              refine lv_iadd hx hb dX2_passDay_76 ?_
              refine lv_topi (fun v25 ev25 => ?_)
              refine lv_istore (lv' := [(4, .int (v25)), (5, .int (x5_14)), (0, .ref (ad (20))), (1, .ref (ad (110))), (2, .ref (ad (w))), (3, .int (a0))]) hx hb dX2_passDay_77 hl (by decide) rfl (fun ls hl => ?_)
              refine lv_goto (tgt := 92) hx hb dX2_passDay_79 (by decide) ?_
              refine lv_aload_n hx hb dX2_passDay_92 rfl (lv_at hl 2 rfl) ?_
              refine m_callv (m_runV (20) (As := []) (rest := []) hx hb hml hown hts hE hM hS hA ce_X2_addToday tb_872 (V_X2_addToday_y l D A ad ns I17 L18 G hG hI) rfl rfl ⟨Nat.le_of_ble_eq_true rfl, Nat.le_of_ble_eq_true rfl⟩ (hG.1 20 (by decide)) rfl rfl (by decide) rfl hl.1 rfl (Nat.le_of_ble_eq_true rfl) dX2_passDay_93 ⟨Nat.le_of_ble_eq_true rfl, Nat.le_of_ble_eq_true rfl⟩) hS (fun u H locs hw hM hS => ?_)
              obtain ⟨I26, L27, rfl, hI, hkI26, xI26⟩ := hw
              have hM : Mem D A ad ns I26 L27 G H := hM
              have hK := hK.trans hkI26 rfl
              obtain ⟨v28, ev28⟩ : ∃ z : Int32, z = x5_14 + Int32.ofInt (1) := ⟨_, rfl⟩
              have tv28 := a_inc ev28 (by decide) (by omega) (by omega)
              refine lv_iinc (v := v28) (lv' := [(5, .int (v28)), (4, .int (v25)), (0, .ref (ad (20))), (1, .ref (ad (110))), (2, .ref (ad (w))), (3, .int (a0))]) hx hb dX2_passDay_96 hl (k := 1) rfl ev28.symm (by decide) rfl (fun ls hl => ?_)
              refine lv_goto (tgt := 14) hx hb dX2_passDay_99 (by decide) ?_
              have hnn : (v28).toNatClampNeg = (x5_14).toNatClampNeg + 1 := by have z1 := tn (i := v28) (by omega); have z2 := tn (i := x5_14) (by omega); omega
              have hhI : hrI (x5_14).toNatClampNeg = x5_14 := hrI_of (by omega)
              have hD1 : (dyS (lawC w I) (cF 110 I) ((x5_14).toNatClampNeg + 1)).1 = (trV (dyS (lawC w I) (cF 110 I) (x5_14).toNatClampNeg).1 x5_14 (dyS (lawC w I) (cF 110 I) (x5_14).toNatClampNeg).2 (lawC w I)) := by show trV (dyS (lawC w I) (cF 110 I) (x5_14).toNatClampNeg).1 (hrI (x5_14).toNatClampNeg) (dyS (lawC w I) (cF 110 I) (x5_14).toNatClampNeg).2 (lawC w I) = _; rw [hhI]
              have hD2 : ∀ j, (dyS (lawC w I) (cF 110 I) ((x5_14).toNatClampNeg + 1)).2 j = adG (trV (dyS (lawC w I) (cF 110 I) (x5_14).toNatClampNeg).1 x5_14 (dyS (lawC w I) (cF 110 I) (x5_14).toNatClampNeg).2 (lawC w I)) x5_14 (dyS (lawC w I) (cF 110 I) (x5_14).toNatClampNeg).2 j := fun j => by show adG (trV (dyS (lawC w I) (cF 110 I) (x5_14).toNatClampNeg).1 (hrI (x5_14).toNatClampNeg) (dyS (lawC w I) (cF 110 I) (x5_14).toNatClampNeg).2 (lawC w I)) (hrI (x5_14).toNatClampNeg) (dyS (lawC w I) (cF 110 I) (x5_14).toNatClampNeg).2 j = _; rw [hhI]
              have hD3 : blS (lawC w I) (cF 110 I) ((x5_14).toNatClampNeg + 1) = blS (lawC w I) (cF 110 I) (x5_14).toNatClampNeg + blH (trV (dyS (lawC w I) (cF 110 I) (x5_14).toNatClampNeg).1 x5_14 (dyS (lawC w I) (cF 110 I) (x5_14).toNatClampNeg).2 (lawC w I)) x5_14 := by show _ + blH (dyS (lawC w I) (cF 110 I) ((x5_14).toNatClampNeg + 1)).1 (hrI (x5_14).toNatClampNeg) = _; rw [hD1, hhI]
              exact ih14 (v28) (v25) I26 L27 _ _ ls hI hK (by first | omega | decide) (by rw [hnn, hD1]; exact ((hvT.nk hkI17 rfl).nk hkI26 rfl)) (fun j hj => by rw [hnn, hD2]; unfold adG; rw [if_neg hwy, hS3, xI26 j hj, show I17 21 = Ia14 21 from (((hkI17.getA 21 rfl)).trans (hkI6.getA 21 rfl)).trans (show (u2 Ia14 (20) 3 (x5_14)) 21 = Ia14 21 from by funext zz; simp [u2_v]), hg14 j hj, show I17 11 = I17 11 from rfl, hg1S j hj]) (by rw [(hkI26.get (10) 8 rfl)]; exact h8S) (fun hz => by rw [hnn, hD3]; unfold blH; rw [if_neg hwy, if_neg (hfb.1 (by omega)), ev25, hb14 hz]) (by omega) hM hS (lv_sub hl [0, 1, 2, 3, 4, 5] rfl)
  exact loop14 (_ + 1) (0) (0) I1 L _ _ ls hI hK (by first | omega | decide) (show EqV (dyS (lawC w I) (cF 110 I) 0).1 (cF 110 I1) from by rw [show cF 110 I1 = (cF 110 I) from cF_kp (fun n h1 h2 => hkI1.ap (b := 110) rfl n h1 h2)]; exact EqV.rf) (fun j hj => by rw [eI1]; simp [fillI, hj]; rfl) (by rw [show I1 10 8 = I 10 8 from (hkI1.get (10) 8 rfl)]; exact h8) (fun _ => rfl) (Nat.lt_succ_self _) hM hS (lv_sub hl [0, 1, 2, 3, 4, 5] rfl)
