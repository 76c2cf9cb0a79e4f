set_option maxHeartbeats 4000000 in
set_option maxRecDepth 20000 in
theorem V_X10_sign_h (l : Launch) (D : va_G) (A : Nat → Prop) (ad : Nat → Nat) (ns : List Nat) (I : MI) (L : ML) (G : MG) (hJ : SGM ns G) (hI : INV I) : Met l yX10_sign (wd yX10_sign cX10_sign 1 (some .int)) ({ frames := 0, cells := 0, slots := 0, locals := 0 }) (va_Pc [.ref (ad (1000))] (PM D A ad ns I L G)) (va_Qi (fun r u => u = (ad, ns, I, L, G) ∧ (SGX (TM I (I 1000 25).toNatClampNeg) r ∧ -1 ≤ r.toInt ∧ r.toInt ≤ 255 ∧ Imp (0 ≤ r.toInt) ((I 1000 25).toInt < (I 1000 24).toInt))) (BM D A) A) 0 0 A := by
  refine m_ofW (by decide) (Nat.le_of_ble_eq_true rfl) ?_
  intro p e s m below meth c ls args hC hE hM hA hS hl
  obtain ⟨hx, hb, hml, hown, hts, hr, hlocks, hin⟩ := hC
  have km1 : (-1 : Int32).toInt = -1 := by decide
  have k0 : (0 : Int32).toInt = 0 := by decide
  have k255 : (255 : Int32).toInt = 255 := by decide
  have hl : lv_has ls 1 [(0, .ref (ad (1000)))] := hl
  refine lv_aload_n hx hb dX10_sign_0 rfl (lv_at hl 0 rfl) ?_
  refine m_geti (1000) 25 hx hb hts hown hE oc10 hM hJ.1 rfl (by decide) rfl tb_1202 dX10_sign_1 ?_
  have g1 := hI.get (1000) 25 (lo := 0) (hi := 100000) rfl
  refine lv_aload_n hx hb dX10_sign_4 rfl (lv_at hl 0 rfl) ?_
  refine m_geti (1000) 24 hx hb hts hown hE oc10 hM hJ.1 rfl (by decide) rfl tb_1201 dX10_sign_5 ?_
  have g2 := hI.get (1000) 24 (lo := 0) (hi := 400) rfl
  refine lv_icmp_ge (tgt := 27) hx hb dX10_sign_8 (by decide) (fun c3 => ?_) (fun c3 => ?_)
  · have hc3 := c3
    have q3 := q_le hc3
    refine lv_iconst (v := (-1)) hx hb dX10_sign_27 (by decide) ?_
    have z1 := tn (i := I 1000 25) (by omega)
    exact m_iret hx hb hr hlocks hM hS (Nat.le_of_ble_eq_true rfl) (Nat.le_of_ble_eq_true rfl) ⟨rfl, ⟨Or.inl ⟨TXT_n (by omega), km1⟩, ⟨by omega, by omega, fun hz => by omega⟩⟩⟩ dX10_sign_28
  · have hc3 := c3
    have q3 := q_nle hc3
    refine lv_aload_n hx hb dX10_sign_11 rfl (lv_at hl 0 rfl) ?_
    refine m_getr (1000) 34 (1034) hx hb hts hown hE oc10 hM hJ.1 rfl (by decide) rfl (hJ.2 34 (by decide)).2 (by decide) tb_1211 dX10_sign_12 ?_
    refine lv_aload_n hx hb dX10_sign_15 rfl (lv_at hl 0 rfl) ?_
    refine m_geti (1000) 25 hx hb hts hown hE oc10 hM hJ.1 rfl (by decide) rfl tb_1202 dX10_sign_16 ?_
    refine m_bald (1034) hx hb hE hM (hJ.2 34 (by decide)).1 rfl (vp_in_iff.mpr (by omega)) dX10_sign_19 ?_
    refine lv_sipush (v := (255)) hx hb dX10_sign_20 (by decide) ?_
    refine lv_iand hx hb dX10_sign_23 ?_
    refine lv_topi (fun v4 ev4 => ?_)
    have tv4 := a_and (c := 255) ev4 (by decide) (by decide)
    refine lv_goto (tgt := 28) hx hb dX10_sign_24 (by decide) ?_
    have z1 := tn (i := I 1000 25) (by omega)
    have hy : TM I (I 1000 25).toNatClampNeg = (v4).toInt := by rw [ev4]; exact TXT_y (by omega)
    exact m_iret hx hb hr hlocks hM hS (Nat.le_of_ble_eq_true rfl) (Nat.le_of_ble_eq_true rfl) ⟨rfl, ⟨Or.inr ⟨by omega, hy.symm⟩, ⟨by omega, by omega, fun hz => by omega⟩⟩⟩ dX10_sign_28
set_option maxHeartbeats 4000000 in
set_option maxRecDepth 20000 in
theorem V_X10_blanks_h (l : Launch) (D : va_G) (A : Nat → Prop) (ad : Nat → Nat) (ns : List Nat) (I : MI) (L : ML) (G : MG) (hJ : SGM ns G) (hI : INV I) (hp : (I 1000 25).toInt ≤ 400) : Met l yX10_blanks (wd yX10_blanks cX10_blanks 1 none) ({ frames := 1, cells := 0, slots := 0, locals := 20 }) (va_Pc [.ref (ad (1000))] (PM D A ad ns I L G)) (va_Qv (fun u => ∃ I2 L2, u = (ad, ns, I2, L2, G) ∧ INV I2 ∧ Kp [] [(1000, 25)] I I2 ∧ ((I2 1000 25).toNatClampNeg = skp (TM I) (I 1000 25).toNatClampNeg ∧ (I 1000 25).toInt ≤ (I2 1000 25).toInt ∧ (I2 1000 25).toInt ≤ 400)) (BM D A) A) 0 0 A := by
  refine m_ofW (by decide) (Nat.le_of_ble_eq_true rfl) ?_
  intro p e s m below meth c ls args hC hE hM hA hS hl
  obtain ⟨hx, hb, hml, hown, hts, hr, hlocks, hin⟩ := hC
  have k0 : (0 : Int32).toInt = 0 := by decide
  have k1 : (1 : Int32).toInt = 1 := by decide
  have k32 : (32 : Int32).toInt = 32 := by decide
  have hT := TM_ok hI
  have hK : Kp [] [(1000, 25)] I I := Kp.rf
  have hl : lv_has ls 1 [(0, .ref (ad (1000)))] := hl
  have loop0 : ∀ (n : Nat)  (Ia0 : MI) (La0 : ML) (H : Heap) (locs : List Loc) (ls : Array Slot), INV Ia0 → Kp [] [(1000, 25)] I Ia0 → ((I 1000 25).toInt ≤ (Ia0 1000 25).toInt ∧ (Ia0 1000 25).toInt ≤ 400) → (skp (TM I) (Ia0 1000 25).toNatClampNeg = skp (TM I) (I 1000 25).toNatClampNeg) → (400 - (Ia0 1000 25).toInt).toNat < n → Mem D A ad ns Ia0 La0 G H → va_S A s.heap H locs → lv_has ls 1 [(0, .ref (ad (1000)))] → W p l e ({ frames := 1, cells := 0, slots := 0, locals := 20 } : Room) s m args below meth c H locs 0 0 (MQ below (va_Qv (fun u => ∃ I2 L2, u = (ad, ns, I2, L2, G) ∧ INV I2 ∧ Kp [] [(1000, 25)] I I2 ∧ ((I2 1000 25).toNatClampNeg = skp (TM I) (I 1000 25).toNatClampNeg ∧ (I 1000 25).toInt ≤ (I2 1000 25).toInt ∧ (I2 1000 25).toInt ≤ 400)) (BM D A) A) args s 0 0 A) (F0 m 0 ls []) := by
    intro n
    induction n with
    | zero =>
      intro  Ia0 La0 H locs ls hI hK hpg hsk hmu
      exact absurd hmu (Nat.not_lt_zero _)
    | succ n ih0 =>
      intro  Ia0 La0 H locs ls hI hK hpg hsk hmu0 hM hS hl
      refine lv_aload_n hx hb dX10_blanks_0 rfl (lv_at hl 0 rfl) ?_
      refine m_calli (m_runV (1000) (As := []) (rest := []) hx hb hml hown hts hE hM hS hA ce_X10_sign tb_1510 (V_X10_sign_h l D A ad ns Ia0 La0 G hJ hI) rfl rfl ⟨Nat.le_of_ble_eq_true rfl, Nat.le_of_ble_eq_true rfl⟩ hJ.1 rfl rfl (by decide) rfl hl.1 rfl (Nat.le_of_ble_eq_true rfl) dX10_blanks_1 ⟨Nat.le_of_ble_eq_true rfl, Nat.le_of_ble_eq_true rfl⟩) hS (fun r1 u H locs hw hM hS => ?_)
      obtain ⟨rfl, xr1⟩ := hw
      have hM : Mem D A ad ns Ia0 La0 G H := hM
      have g2 := hI.get 1000 24 (lo := 0) (hi := 400) rfl
      have g3 := hI.get 1000 25 (lo := 0) (hi := 100000) rfl
      have sx4 := xr1.1
      rw [show TM Ia0 = TM I from (TM_of (hK.getA 1034 rfl) (hK.get 1000 24 rfl))] at sx4
      refine lv_bipush (v := (32)) hx hb dX10_blanks_4 (by decide) ?_
      refine lv_icmp_ne (tgt := 22) hx hb dX10_blanks_6 (by decide) (fun c5 => ?_) (fun c5 => ?_)
      · have hc5 := c5
        have q5 := q_ne hc5
        have sc6 := sx4.n (k := 32) (by omega) (by decide)
        exact m_vret hx hb hr hlocks hM hS (Nat.le_of_ble_eq_true rfl) (Nat.le_of_ble_eq_true rfl) ⟨_, _, rfl, hI, hK, ⟨by rw [← hsk]; exact (skp_n sc6).symm, by omega⟩⟩ dX10_blanks_22
      · have hc5 := c5
        have q5 := q_eq hc5
        have sg7 := xr1.2.2.2 (by omega)
        have sc8 := sx4.y (k := 32) (by omega) (by decide)
        refine lv_aload_n hx hb dX10_blanks_9 rfl (lv_at hl 0 rfl) ?_
        refine lv_dup hx hb dX10_blanks_10 rfl ?_
        refine m_geti (1000) 25 hx hb hts hown hE oc10 hM hJ.1 rfl (by decide) rfl tb_1202 dX10_blanks_11 ?_
        have g9 := hI.get (1000) 25 (lo := 0) (hi := 100000) rfl
        refine lv_iconst (v := (1)) hx hb dX10_blanks_14 (by decide) ?_
        refine lv_iadd hx hb dX10_blanks_15 ?_
        refine lv_topi (fun v10 ev10 => ?_)
        have tv10 := a_add ev10 (by omega) (by omega)
        refine m_puti (1000) 25 hx hb hts hown hE oc10 hM hS hJ.1 rfl (by decide) rfl rfl rfl rfl tb_1202 dX10_blanks_16 (fun H locs I11 eI11 hM hS => ?_)
        subst eI11
        have hI := hI.put (n := 1000) (k := 25) (v := v10) (lo := 0) (hi := 100000) rfl (by first | omega | decide)
        have hK := hK.put (n := 1000) (k := 25) (v := v10) (by first | rfl | simp [inR])
        refine lv_goto (tgt := 0) hx hb dX10_blanks_19 (by decide) ?_
        have tr100025 : ((u2 Ia0 (1000) 25 (v10)) (1000) 25).toInt = (v10 : Int32).toInt := congrArg Int32.toInt ((show (u2 Ia0 (1000) 25 (v10)) (1000) 25 = v10 from by simp [u2_v]))
        have e25 : (u2 Ia0 (1000) 25 (v10)) (1000) 25 = v10 := (show (u2 Ia0 (1000) 25 (v10)) (1000) 25 = v10 from by simp [u2_v])
        exact ih0  (u2 Ia0 (1000) 25 (v10)) La0 _ _ ls hI hK (by omega) (by rw [e25, show (v10).toNatClampNeg = (Ia0 1000 25).toNatClampNeg + 1 from by have z1 := tn (i := v10) (by omega); have z2 := tn (i := Ia0 1000 25) (by omega); omega, skp_y hT sc8]; exact hsk) (by omega) hM hS (lv_sub hl [0] rfl)
  exact loop0 (_ + 1)  I L _ _ ls hI hK (by omega) rfl (Nat.lt_succ_self _) hM hS (lv_sub hl [0] rfl)
set_option maxHeartbeats 4000000 in
set_option maxRecDepth 20000 in
theorem V_X10_blanks_hw (l : Launch) (D : va_G) (A : Nat → Prop) (ad : Nat → Nat) (ns : List Nat) (I : MI) (L : ML) (G : MG) (hJ : SGM ns G) (hI : INV I) (hp : (I 1000 25).toInt ≤ 401) : Met l yX10_blanks (wd yX10_blanks cX10_blanks 1 none) ({ frames := 1, cells := 0, slots := 0, locals := 20 }) (va_Pc [.ref (ad (1000))] (PM D A ad ns I L G)) (va_Qv (fun u => ∃ I2 L2, u = (ad, ns, I2, L2, G) ∧ INV I2 ∧ Kp [] [(1000, 25)] I I2 ∧ ((I2 1000 25).toNatClampNeg = skp (TM I) (I 1000 25).toNatClampNeg ∧ (I 1000 25).toInt ≤ (I2 1000 25).toInt ∧ (I2 1000 25).toInt ≤ 401)) (BM D A) A) 0 0 A := by
  refine m_ofW (by decide) (Nat.le_of_ble_eq_true rfl) ?_
  intro p e s m below meth c ls args hC hE hM hA hS hl
  obtain ⟨hx, hb, hml, hown, hts, hr, hlocks, hin⟩ := hC
  have k0 : (0 : Int32).toInt = 0 := by decide
  have k1 : (1 : Int32).toInt = 1 := by decide
  have k32 : (32 : Int32).toInt = 32 := by decide
  have hT := TM_ok hI
  have hK : Kp [] [(1000, 25)] I I := Kp.rf
  have hl : lv_has ls 1 [(0, .ref (ad (1000)))] := hl
  have loop0 : ∀ (n : Nat)  (Ia0 : MI) (La0 : ML) (H : Heap) (locs : List Loc) (ls : Array Slot), INV Ia0 → Kp [] [(1000, 25)] I Ia0 → ((I 1000 25).toInt ≤ (Ia0 1000 25).toInt ∧ (Ia0 1000 25).toInt ≤ 401) → (skp (TM I) (Ia0 1000 25).toNatClampNeg = skp (TM I) (I 1000 25).toNatClampNeg) → (400 - (Ia0 1000 25).toInt).toNat < n → Mem D A ad ns Ia0 La0 G H → va_S A s.heap H locs → lv_has ls 1 [(0, .ref (ad (1000)))] → W p l e ({ frames := 1, cells := 0, slots := 0, locals := 20 } : Room) s m args below meth c H locs 0 0 (MQ below (va_Qv (fun u => ∃ I2 L2, u = (ad, ns, I2, L2, G) ∧ INV I2 ∧ Kp [] [(1000, 25)] I I2 ∧ ((I2 1000 25).toNatClampNeg = skp (TM I) (I 1000 25).toNatClampNeg ∧ (I 1000 25).toInt ≤ (I2 1000 25).toInt ∧ (I2 1000 25).toInt ≤ 401)) (BM D A) A) args s 0 0 A) (F0 m 0 ls []) := by
    intro n
    induction n with
    | zero =>
      intro  Ia0 La0 H locs ls hI hK hpg hsk hmu
      exact absurd hmu (Nat.not_lt_zero _)
    | succ n ih0 =>
      intro  Ia0 La0 H locs ls hI hK hpg hsk hmu0 hM hS hl
      refine lv_aload_n hx hb dX10_blanks_0 rfl (lv_at hl 0 rfl) ?_
      refine m_calli (m_runV (1000) (As := []) (rest := []) hx hb hml hown hts hE hM hS hA ce_X10_sign tb_1510 (V_X10_sign_h l D A ad ns Ia0 La0 G hJ hI) rfl rfl ⟨Nat.le_of_ble_eq_true rfl, Nat.le_of_ble_eq_true rfl⟩ hJ.1 rfl rfl (by decide) rfl hl.1 rfl (Nat.le_of_ble_eq_true rfl) dX10_blanks_1 ⟨Nat.le_of_ble_eq_true rfl, Nat.le_of_ble_eq_true rfl⟩) hS (fun r1 u H locs hw hM hS => ?_)
      obtain ⟨rfl, xr1⟩ := hw
      have hM : Mem D A ad ns Ia0 La0 G H := hM
      have g2 := hI.get 1000 24 (lo := 0) (hi := 400) rfl
      have g3 := hI.get 1000 25 (lo := 0) (hi := 100000) rfl
      have sx4 := xr1.1
      rw [show TM Ia0 = TM I from (TM_of (hK.getA 1034 rfl) (hK.get 1000 24 rfl))] at sx4
      refine lv_bipush (v := (32)) hx hb dX10_blanks_4 (by decide) ?_
      refine lv_icmp_ne (tgt := 22) hx hb dX10_blanks_6 (by decide) (fun c5 => ?_) (fun c5 => ?_)
      · have hc5 := c5
        have q5 := q_ne hc5
        have sc6 := sx4.n (k := 32) (by omega) (by decide)
        exact m_vret hx hb hr hlocks hM hS (Nat.le_of_ble_eq_true rfl) (Nat.le_of_ble_eq_true rfl) ⟨_, _, rfl, hI, hK, ⟨by rw [← hsk]; exact (skp_n sc6).symm, by omega⟩⟩ dX10_blanks_22
      · have hc5 := c5
        have q5 := q_eq hc5
        have sg7 := xr1.2.2.2 (by omega)
        have sc8 := sx4.y (k := 32) (by omega) (by decide)
        refine lv_aload_n hx hb dX10_blanks_9 rfl (lv_at hl 0 rfl) ?_
        refine lv_dup hx hb dX10_blanks_10 rfl ?_
        refine m_geti (1000) 25 hx hb hts hown hE oc10 hM hJ.1 rfl (by decide) rfl tb_1202 dX10_blanks_11 ?_
        have g9 := hI.get (1000) 25 (lo := 0) (hi := 100000) rfl
        refine lv_iconst (v := (1)) hx hb dX10_blanks_14 (by decide) ?_
        refine lv_iadd hx hb dX10_blanks_15 ?_
        refine lv_topi (fun v10 ev10 => ?_)
        have tv10 := a_add ev10 (by omega) (by omega)
        refine m_puti (1000) 25 hx hb hts hown hE oc10 hM hS hJ.1 rfl (by decide) rfl rfl rfl rfl tb_1202 dX10_blanks_16 (fun H locs I11 eI11 hM hS => ?_)
        subst eI11
        have hI := hI.put (n := 1000) (k := 25) (v := v10) (lo := 0) (hi := 100000) rfl (by first | omega | decide)
        have hK := hK.put (n := 1000) (k := 25) (v := v10) (by first | rfl | simp [inR])
        refine lv_goto (tgt := 0) hx hb dX10_blanks_19 (by decide) ?_
        have tr100025 : ((u2 Ia0 (1000) 25 (v10)) (1000) 25).toInt = (v10 : Int32).toInt := congrArg Int32.toInt ((show (u2 Ia0 (1000) 25 (v10)) (1000) 25 = v10 from by simp [u2_v]))
        have e25 : (u2 Ia0 (1000) 25 (v10)) (1000) 25 = v10 := (show (u2 Ia0 (1000) 25 (v10)) (1000) 25 = v10 from by simp [u2_v])
        exact ih0  (u2 Ia0 (1000) 25 (v10)) La0 _ _ ls hI hK (by omega) (by rw [e25, show (v10).toNatClampNeg = (Ia0 1000 25).toNatClampNeg + 1 from by have z1 := tn (i := v10) (by omega); have z2 := tn (i := Ia0 1000 25) (by omega); omega, skp_y hT sc8]; exact hsk) (by omega) hM hS (lv_sub hl [0] rfl)
  exact loop0 (_ + 1)  I L _ _ ls hI hK (by omega) rfl (Nat.lt_succ_self _) hM hS (lv_sub hl [0] rfl)
set_option maxHeartbeats 4000000 in
set_option maxRecDepth 20000 in
theorem V_X10_isDigit_h (l : Launch) (D : va_G) (A : Nat → Prop) (ad : Nat → Nat) (ns : List Nat) (I : MI) (L : ML) (G : MG) (hJ : SGM ns G) (hI : INV I) : Met l yX10_isDigit (wd yX10_isDigit cX10_isDigit 1 (some .boolean)) ({ frames := 1, cells := 0, slots := 0, locals := 25 }) (va_Pc [.ref (ad (1000))] (PM D A ad ns I L G)) (va_Qi (fun r u => u = (ad, ns, I, L, G) ∧ (DGX (TM I (I 1000 25).toNatClampNeg) r ∧ 0 ≤ r.toInt ∧ r.toInt ≤ 1 ∧ Imp (r.toInt ≠ 0) ((I 1000 25).toInt < (I 1000 24).toInt))) (BM D A) A) 0 0 A := by
  refine m_ofW (by decide) (Nat.le_of_ble_eq_true rfl) ?_
  intro p e s m below meth c ls args hC hE hM hA hS hl
  obtain ⟨hx, hb, hml, hown, hts, hr, hlocks, hin⟩ := hC
  have k0 : (0 : Int32).toInt = 0 := by decide
  have kl48 : (48 : Int64).toInt = 48 := by decide
  have kl57 : (57 : Int64).toInt = 57 := by decide
  have k1 : (1 : Int32).toInt = 1 := by decide
  have hl : lv_has ls 1 [(0, .ref (ad (1000)))] := hl
  refine lv_aload_n hx hb dX10_isDigit_0 rfl (lv_at hl 0 rfl) ?_
  refine m_calli (m_runV (1000) (As := []) (rest := []) hx hb hml hown hts hE hM hS hA ce_X10_sign tb_1510 (V_X10_sign_h l D A ad ns I L G hJ hI) rfl rfl ⟨Nat.le_of_ble_eq_true rfl, Nat.le_of_ble_eq_true rfl⟩ hJ.1 rfl rfl (by decide) rfl hl.1 rfl (Nat.le_of_ble_eq_true rfl) dX10_isDigit_1 ⟨Nat.le_of_ble_eq_true rfl, Nat.le_of_ble_eq_true rfl⟩) hS (fun r1 u H locs hw hM hS => ?_)
  obtain ⟨rfl, xr1⟩ := hw
  have hM : Mem D A ad ns I L G H := hM
  have g2 := hI.get 1000 24 (lo := 0) (hi := 400) rfl
  have g3 := hI.get 1000 25 (lo := 0) (hi := 100000) rfl
  have sx4 := xr1.1
  refine lv_i2l hx hb dX10_isDigit_4 rfl ?_
  refine lv_topl (fun v5 ev5 => ?_)
  have tv5 := q_i2l ev5
  refine lv_ldc2 (v := (48)) hx hb hown (hts _ tb_1533) dX10_isDigit_5 ?_
  refine lv_ldc2 (v := (57)) hx hb hown (hts _ tb_1534) dX10_isDigit_8 ?_
  refine m_calli (m_runS (As := [.long (v5), .long ((48 : Int64)), .long ((57 : Int64))]) (rest := []) hx hb hml hown hts hE hM hS hA ce_X10_in tb_1425 (V_X10_in l D A ad ns I L G (v5) ((48 : Int64)) ((57 : Int64)) hI) rfl rfl ⟨Nat.le_of_ble_eq_true rfl, Nat.le_of_ble_eq_true rfl⟩  rfl hl.1 rfl (Nat.le_of_ble_eq_true rfl) dX10_isDigit_11 ⟨Nat.le_of_ble_eq_true rfl, Nat.le_of_ble_eq_true rfl⟩) hS (fun r6 u H locs hw hM hS => ?_)
  obtain ⟨rfl, xr6⟩ := hw
  have hM : Mem D A ad ns I L G H := hM
  have yr6 := bo01 xr6
  have sy := sx4
  unfold SGX at sy
  have hd : DGX (TM I (I 1000 25).toNatClampNeg) r6 := by rcases xr6 with ⟨h, e⟩ | ⟨h, e⟩ <;> unfold DGX <;> rw [e] <;> omega
  exact m_zret hx hb hr (nar01 (by omega) (by omega)).1 hlocks hM hS (Nat.le_of_ble_eq_true rfl) (Nat.le_of_ble_eq_true rfl) ⟨rfl, ⟨hd, by omega, by omega, fun hz => xr1.2.2.2 (by have hq := bo_or xr6; omega)⟩⟩ dX10_isDigit_14
set_option maxHeartbeats 4000000 in
set_option maxRecDepth 20000 in
theorem V_X10_fails_h (l : Launch) (D : va_G) (A : Nat → Prop) (ad : Nat → Nat) (ns : List Nat) (I : MI) (L : ML) (G : MG) (a0 : Int32) (a1 : Int32) (hJ : SGM ns G) (hI : INV I) (ha0 : 0 ≤ a0.toInt ∧ a0.toInt ≤ 10) (ha1 : 0 ≤ a1.toInt ∧ a1.toInt ≤ 100000) : Met l yX10_fails (wd yX10_fails cX10_fails 3 none) ({ frames := 0, cells := 0, slots := 0, locals := 0 }) (va_Pc [.ref (ad (1000)), .int a0, .int a1] (PM D A ad ns I L G)) (va_Qv (fun u => ∃ I2 L2, u = (ad, ns, I2, L2, G) ∧ INV I2 ∧ Kp [] [(1000, 26)] I I2 ∧ (True ∧ Imp ((I2 1000 26).toInt = 0) False ∧ Imp ((I 1000 26).toInt = 0) ((I2 1000 26).toInt = 1 + 8 * a1.toInt + a0.toInt) ∧ Imp ((I 1000 26).toInt ≠ 0) ((I2 1000 26).toInt = (I 1000 26).toInt))) (BM D A) A) 0 0 A := by
  refine m_ofW (by decide) (Nat.le_of_ble_eq_true rfl) ?_
  intro p e s m below meth c ls args hC hE hM hA hS hl
  obtain ⟨hx, hb, hml, hown, hts, hr, hlocks, hin⟩ := hC
  have k0 : (0 : Int32).toInt = 0 := by decide
  have k1 : (1 : Int32).toInt = 1 := by decide
  have k8 : (8 : Int32).toInt = 8 := by decide
  have hK : Kp [] [(1000, 26)] I I := Kp.rf
  have hl : lv_has ls 3 [(0, .ref (ad (1000))), (1, .int (a0)), (2, .int (a1))] := hl
  refine lv_aload_n hx hb dX10_fails_0 rfl (lv_at hl 0 rfl) ?_
  refine lv_aload_n hx hb dX10_fails_1 rfl (lv_at hl 0 rfl) ?_
  refine m_geti (1000) 26 hx hb hts hown hE oc10 hM hJ.1 rfl (by decide) rfl tb_1203 dX10_fails_2 ?_
  refine lv_if_ne (tgt := 19) hx hb dX10_fails_5 (by decide) (fun c1 => ?_) (fun c1 => ?_)
  · have hc1 := c1
    have q1 := q_ne hc1
    refine lv_aload_n hx hb dX10_fails_19 rfl (lv_at hl 0 rfl) ?_
    refine m_geti (1000) 26 hx hb hts hown hE oc10 hM hJ.1 rfl (by decide) rfl tb_1203 dX10_fails_20 ?_
    refine m_puti (1000) 26 hx hb hts hown hE oc10 hM hS hJ.1 rfl (by decide) rfl rfl rfl rfl tb_1203 dX10_fails_23 (fun H locs I2 eI2 hM hS => ?_)
    subst eI2
    have hI := hI.putF (n := 1000) (k := 26) (v := I (1000) 26) rfl
    have hK := hK.put (n := 1000) (k := 26) (v := I (1000) 26) (by first | rfl | simp [inR])
    have pw3 : ((u2 I (1000) 26 (I (1000) 26)) (1000) 24).toInt = (I (1000) 24 : Int32).toInt := congrArg Int32.toInt ((show (u2 I (1000) 26 (I (1000) 26)) (1000) 24 = I (1000) 24 from by simp [u2_v]))
    have pw4 : ((u2 I (1000) 26 (I (1000) 26)) (1000) 25).toInt = (I (1000) 25 : Int32).toInt := congrArg Int32.toInt ((show (u2 I (1000) 26 (I (1000) 26)) (1000) 25 = I (1000) 25 from by simp [u2_v]))
    have pw5 : ((u2 I (1000) 26 (I (1000) 26)) (1000) 26).toInt = (I (1000) 26 : Int32).toInt := congrArg Int32.toInt ((show (u2 I (1000) 26 (I (1000) 26)) (1000) 26 = I (1000) 26 from by simp [u2_v]))
    have pw6 : ((u2 I (1000) 26 (I (1000) 26)) (1000) 27).toInt = (I (1000) 27 : Int32).toInt := congrArg Int32.toInt ((show (u2 I (1000) 26 (I (1000) 26)) (1000) 27 = I (1000) 27 from by simp [u2_v]))
    have pw7 : ((u2 I (1000) 26 (I (1000) 26)) (1000) 29).toInt = (I (1000) 29 : Int32).toInt := congrArg Int32.toInt ((show (u2 I (1000) 26 (I (1000) 26)) (1000) 29 = I (1000) 29 from by simp [u2_v]))
    have pw8 : ((u2 I (1000) 26 (I (1000) 26)) (1000) 30).toInt = (I (1000) 30 : Int32).toInt := congrArg Int32.toInt ((show (u2 I (1000) 26 (I (1000) 26)) (1000) 30 = I (1000) 30 from by simp [u2_v]))
    have pw9 : ((u2 I (1000) 26 (I (1000) 26)) (1000) 31).toInt = (I (1000) 31 : Int32).toInt := congrArg Int32.toInt ((show (u2 I (1000) 26 (I (1000) 26)) (1000) 31 = I (1000) 31 from by simp [u2_v]))
    have pw10 : ((u2 I (1000) 26 (I (1000) 26)) (1000) 32).toInt = (I (1000) 32 : Int32).toInt := congrArg Int32.toInt ((show (u2 I (1000) 26 (I (1000) 26)) (1000) 32 = I (1000) 32 from by simp [u2_v]))
    exact m_vret hx hb hr hlocks hM hS (Nat.le_of_ble_eq_true rfl) (Nat.le_of_ble_eq_true rfl) ⟨_, _, rfl, hI, hK, ⟨trivial, fun hz => by omega, fun hz => by omega, fun hz => by omega⟩⟩ dX10_fails_26
  · have hc1 := c1
    have q1 := q_eq hc1
    refine lv_iconst (v := (1)) hx hb dX10_fails_8 (by decide) ?_
    refine lv_bipush (v := (8)) hx hb dX10_fails_9 (by decide) ?_
    refine lv_iload_n hx hb dX10_fails_11 rfl (lv_at hl 2 rfl) ?_
    refine lv_imul hx hb dX10_fails_12 ?_
    refine lv_topi (fun v11 ev11 => ?_)
    have tv11 := a_mulL (c := 8) ev11 (by decide) (by omega) (by omega)
    refine lv_iadd hx hb dX10_fails_13 ?_
    refine lv_topi (fun v12 ev12 => ?_)
    have tv12 := a_add ev12 (by omega) (by omega)
    refine lv_iload_n hx hb dX10_fails_14 rfl (lv_at hl 1 rfl) ?_
    refine lv_iadd hx hb dX10_fails_15 ?_
    refine lv_topi (fun v13 ev13 => ?_)
    have tv13 := a_add ev13 (by omega) (by omega)
    refine lv_goto (tgt := 23) hx hb dX10_fails_16 (by decide) ?_
    refine m_puti (1000) 26 hx hb hts hown hE oc10 hM hS hJ.1 rfl (by decide) rfl rfl rfl rfl tb_1203 dX10_fails_23 (fun H locs I14 eI14 hM hS => ?_)
    subst eI14
    have hI := hI.putF (n := 1000) (k := 26) (v := v13) rfl
    have hK := hK.put (n := 1000) (k := 26) (v := v13) (by first | rfl | simp [inR])
    have pw15 : ((u2 I (1000) 26 (v13)) (1000) 24).toInt = (I (1000) 24 : Int32).toInt := congrArg Int32.toInt ((show (u2 I (1000) 26 (v13)) (1000) 24 = I (1000) 24 from by simp [u2_v]))
    have pw16 : ((u2 I (1000) 26 (v13)) (1000) 25).toInt = (I (1000) 25 : Int32).toInt := congrArg Int32.toInt ((show (u2 I (1000) 26 (v13)) (1000) 25 = I (1000) 25 from by simp [u2_v]))
    have pw17 : ((u2 I (1000) 26 (v13)) (1000) 26).toInt = (v13 : Int32).toInt := congrArg Int32.toInt ((show (u2 I (1000) 26 (v13)) (1000) 26 = v13 from by simp [u2_v]))
    have pw18 : ((u2 I (1000) 26 (v13)) (1000) 27).toInt = (I (1000) 27 : Int32).toInt := congrArg Int32.toInt ((show (u2 I (1000) 26 (v13)) (1000) 27 = I (1000) 27 from by simp [u2_v]))
    have pw19 : ((u2 I (1000) 26 (v13)) (1000) 29).toInt = (I (1000) 29 : Int32).toInt := congrArg Int32.toInt ((show (u2 I (1000) 26 (v13)) (1000) 29 = I (1000) 29 from by simp [u2_v]))
    have pw20 : ((u2 I (1000) 26 (v13)) (1000) 30).toInt = (I (1000) 30 : Int32).toInt := congrArg Int32.toInt ((show (u2 I (1000) 26 (v13)) (1000) 30 = I (1000) 30 from by simp [u2_v]))
    have pw21 : ((u2 I (1000) 26 (v13)) (1000) 31).toInt = (I (1000) 31 : Int32).toInt := congrArg Int32.toInt ((show (u2 I (1000) 26 (v13)) (1000) 31 = I (1000) 31 from by simp [u2_v]))
    have pw22 : ((u2 I (1000) 26 (v13)) (1000) 32).toInt = (I (1000) 32 : Int32).toInt := congrArg Int32.toInt ((show (u2 I (1000) 26 (v13)) (1000) 32 = I (1000) 32 from by simp [u2_v]))
    exact m_vret hx hb hr hlocks hM hS (Nat.le_of_ble_eq_true rfl) (Nat.le_of_ble_eq_true rfl) ⟨_, _, rfl, hI, hK, ⟨trivial, fun hz => by omega, fun hz => by omega, fun hz => by omega⟩⟩ dX10_fails_26
set_option maxHeartbeats 4000000 in
set_option maxRecDepth 20000 in
theorem V_X10_isCounted_h (l : Launch) (D : va_G) (A : Nat → Prop) (ad : Nat → Nat) (ns : List Nat) (I : MI) (L : ML) (G : MG) (a0 : Int32) (hJ : SGM ns G) (hI : INV I) (hc : Imp ((I 1000 26).toInt = 0) (0 ≤ (I 1000 31).toInt ∧ (I 1000 31).toInt ≤ 60)) (ha0 : 0 ≤ a0.toInt ∧ a0.toInt ≤ 100000) : Met l yX10_isCounted (wd yX10_isCounted cX10_isCounted 2 none) ({ frames := 1, cells := 0, slots := 0, locals := 22 }) (va_Pc [.ref (ad (1000)), .int a0] (PM D A ad ns I L G)) (va_Qv (fun u => ∃ I2 L2, u = (ad, ns, I2, L2, G) ∧ INV I2 ∧ Kp [] [(1000, 26), (1000, 31)] I I2 ∧ (CTX I I2 a0 ∧ Imp ((I2 1000 26).toInt = 0) ((I 1000 26).toInt = 0 ∧ 0 ≤ (I 1000 31).toInt ∧ (I 1000 31).toInt ≤ 59 ∧ (I2 1000 31).toInt = (I 1000 31).toInt + 1))) (BM D A) A) 0 0 A := by
  refine m_ofW (by decide) (Nat.le_of_ble_eq_true rfl) ?_
  intro p e s m below meth c ls args hC hE hM hA hS hl
  obtain ⟨hx, hb, hml, hown, hts, hr, hlocks, hin⟩ := hC
  have k0 : (0 : Int32).toInt = 0 := by decide
  have k1 : (1 : Int32).toInt = 1 := by decide
  have k3 : (3 : Int32).toInt = 3 := by decide
  have k60 : (60 : Int32).toInt = 60 := by decide
  have hK : Kp [] [(1000, 26), (1000, 31)] I I := Kp.rf
  have hl : lv_has ls 2 [(0, .ref (ad (1000))), (1, .int (a0))] := hl
  refine lv_aload_n hx hb dX10_isCounted_0 rfl (lv_at hl 0 rfl) ?_
  refine m_geti (1000) 31 hx hb hts hown hE oc10 hM hJ.1 rfl (by decide) rfl tb_1208 dX10_isCounted_1 ?_
  refine lv_bipush (v := (60)) hx hb dX10_isCounted_4 (by decide) ?_
  refine lv_icmp_ne (tgt := 15) hx hb dX10_isCounted_6 (by decide) (fun c1 => ?_) (fun c1 => ?_)
  · have hc1 := c1
    have q1 := q_ne hc1
    refine lv_aload_n hx hb dX10_isCounted_15 rfl (lv_at hl 0 rfl) ?_
    refine lv_dup hx hb dX10_isCounted_16 rfl ?_
    refine m_geti (1000) 31 hx hb hts hown hE oc10 hM hJ.1 rfl (by decide) rfl tb_1208 dX10_isCounted_17 ?_
    refine lv_iconst (v := (1)) hx hb dX10_isCounted_20 (by decide) ?_
    refine lv_iadd hx hb dX10_isCounted_21 ?_
    refine lv_topi (fun v2 ev2 => ?_)
    have tv2 : Imp (-1 ≤ (I (1000) 31).toInt ∧ (I (1000) 31).toInt ≤ 60) ((v2).toInt = (I (1000) 31).toInt + 1) := fun hz => a_add ev2 (by omega) (by omega)
    refine m_puti (1000) 31 hx hb hts hown hE oc10 hM hS hJ.1 rfl (by decide) rfl rfl rfl rfl tb_1208 dX10_isCounted_22 (fun H locs I3 eI3 hM hS => ?_)
    subst eI3
    have hI := hI.putF (n := 1000) (k := 31) (v := v2) rfl
    have hK := hK.put (n := 1000) (k := 31) (v := v2) (by first | rfl | simp [inR])
    have pw4 : ((u2 I (1000) 31 (v2)) (1000) 24).toInt = (I (1000) 24 : Int32).toInt := congrArg Int32.toInt ((show (u2 I (1000) 31 (v2)) (1000) 24 = I (1000) 24 from by simp [u2_v]))
    have pw5 : ((u2 I (1000) 31 (v2)) (1000) 25).toInt = (I (1000) 25 : Int32).toInt := congrArg Int32.toInt ((show (u2 I (1000) 31 (v2)) (1000) 25 = I (1000) 25 from by simp [u2_v]))
    have pw6 : ((u2 I (1000) 31 (v2)) (1000) 26).toInt = (I (1000) 26 : Int32).toInt := congrArg Int32.toInt ((show (u2 I (1000) 31 (v2)) (1000) 26 = I (1000) 26 from by simp [u2_v]))
    have pw7 : ((u2 I (1000) 31 (v2)) (1000) 27).toInt = (I (1000) 27 : Int32).toInt := congrArg Int32.toInt ((show (u2 I (1000) 31 (v2)) (1000) 27 = I (1000) 27 from by simp [u2_v]))
    have pw8 : ((u2 I (1000) 31 (v2)) (1000) 29).toInt = (I (1000) 29 : Int32).toInt := congrArg Int32.toInt ((show (u2 I (1000) 31 (v2)) (1000) 29 = I (1000) 29 from by simp [u2_v]))
    have pw9 : ((u2 I (1000) 31 (v2)) (1000) 30).toInt = (I (1000) 30 : Int32).toInt := congrArg Int32.toInt ((show (u2 I (1000) 31 (v2)) (1000) 30 = I (1000) 30 from by simp [u2_v]))
    have pw10 : ((u2 I (1000) 31 (v2)) (1000) 31).toInt = (v2 : Int32).toInt := congrArg Int32.toInt ((show (u2 I (1000) 31 (v2)) (1000) 31 = v2 from by simp [u2_v]))
    have pw11 : ((u2 I (1000) 31 (v2)) (1000) 32).toInt = (I (1000) 32 : Int32).toInt := congrArg Int32.toInt ((show (u2 I (1000) 31 (v2)) (1000) 32 = I (1000) 32 from by simp [u2_v]))
    exact m_vret hx hb hr hlocks hM hS (Nat.le_of_ble_eq_true rfl) (Nat.le_of_ble_eq_true rfl) ⟨_, _, rfl, hI, hK, ⟨⟨fun hz => ⟨fun h2 => by omega, fun _ => by omega⟩, fun hz => by omega⟩, (fun hz => by have w0 := hc (by omega); have wt := tv2 (by omega); omega)⟩⟩ dX10_isCounted_25
  · have hc1 := c1
    have q1 := q_eq hc1
    refine lv_aload_n hx hb dX10_isCounted_9 rfl (lv_at hl 0 rfl) ?_
    refine lv_iconst (v := (3)) hx hb dX10_isCounted_10 (by decide) ?_
    refine lv_iload_n hx hb dX10_isCounted_11 rfl (lv_at hl 1 rfl) ?_
    refine m_callv (m_runV (1000) (As := [.int (3), .int (a0)]) (rest := []) hx hb hml hown hts hE hM hS hA ce_X10_fails tb_1521 (V_X10_fails_h l D A ad ns I L G (3) (a0) hJ hI (by first | omega | decide) (by first | omega | decide)) rfl rfl ⟨Nat.le_of_ble_eq_true rfl, Nat.le_of_ble_eq_true rfl⟩ hJ.1 rfl rfl (by decide) rfl hl.1 rfl (Nat.le_of_ble_eq_true rfl) dX10_isCounted_12 ⟨Nat.le_of_ble_eq_true rfl, Nat.le_of_ble_eq_true rfl⟩) hS (fun u H locs hw hM hS => ?_)
    obtain ⟨I12, L13, rfl, hI, hkI12, xI12⟩ := hw
    have hM : Mem D A ad ns I12 L13 G H := hM
    have hK := hK.trans hkI12 rfl
    have pw14 : (I12 (1000) 24).toInt = (I (1000) 24 : Int32).toInt := congrArg Int32.toInt ((hkI12.get (1000) 24 rfl))
    have pw15 : (I12 (1000) 25).toInt = (I (1000) 25 : Int32).toInt := congrArg Int32.toInt ((hkI12.get (1000) 25 rfl))
    have pw16 : (I12 (1000) 27).toInt = (I (1000) 27 : Int32).toInt := congrArg Int32.toInt ((hkI12.get (1000) 27 rfl))
    have pw17 : (I12 (1000) 29).toInt = (I (1000) 29 : Int32).toInt := congrArg Int32.toInt ((hkI12.get (1000) 29 rfl))
    have pw18 : (I12 (1000) 30).toInt = (I (1000) 30 : Int32).toInt := congrArg Int32.toInt ((hkI12.get (1000) 30 rfl))
    have pw19 : (I12 (1000) 31).toInt = (I (1000) 31 : Int32).toInt := congrArg Int32.toInt ((hkI12.get (1000) 31 rfl))
    have pw20 : (I12 (1000) 32).toInt = (I (1000) 32 : Int32).toInt := congrArg Int32.toInt ((hkI12.get (1000) 32 rfl))
    refine lv_aload_n hx hb dX10_isCounted_15 rfl (lv_at hl 0 rfl) ?_
    refine lv_dup hx hb dX10_isCounted_16 rfl ?_
    refine m_geti (1000) 31 hx hb hts hown hE oc10 hM hJ.1 rfl (by decide) rfl tb_1208 dX10_isCounted_17 ?_
    have z21 : I12 (1000) 31 = I (1000) 31 := (hkI12.get (1000) 31 rfl)
    rw [z21]
    refine lv_iconst (v := (1)) hx hb dX10_isCounted_20 (by decide) ?_
    refine lv_iadd hx hb dX10_isCounted_21 ?_
    refine lv_topi (fun v22 ev22 => ?_)
    have tv22 : Imp (-1 ≤ (I (1000) 31).toInt ∧ (I (1000) 31).toInt ≤ 60) ((v22).toInt = (I (1000) 31).toInt + 1) := fun hz => a_add ev22 (by omega) (by omega)
    refine m_puti (1000) 31 hx hb hts hown hE oc10 hM hS hJ.1 rfl (by decide) rfl rfl rfl rfl tb_1208 dX10_isCounted_22 (fun H locs I23 eI23 hM hS => ?_)
    subst eI23
    have hI := hI.putF (n := 1000) (k := 31) (v := v22) rfl
    have hK := hK.put (n := 1000) (k := 31) (v := v22) (by first | rfl | simp [inR])
    have pw24 : ((u2 I12 (1000) 31 (v22)) (1000) 24).toInt = (I (1000) 24 : Int32).toInt := (congrArg Int32.toInt ((show (u2 I12 (1000) 31 (v22)) (1000) 24 = I12 (1000) 24 from by simp [u2_v]))).trans pw14
    have pw25 : ((u2 I12 (1000) 31 (v22)) (1000) 25).toInt = (I (1000) 25 : Int32).toInt := (congrArg Int32.toInt ((show (u2 I12 (1000) 31 (v22)) (1000) 25 = I12 (1000) 25 from by simp [u2_v]))).trans pw15
    have pw26 : ((u2 I12 (1000) 31 (v22)) (1000) 26).toInt = (I12 (1000) 26 : Int32).toInt := congrArg Int32.toInt ((show (u2 I12 (1000) 31 (v22)) (1000) 26 = I12 (1000) 26 from by simp [u2_v]))
    have pw27 : ((u2 I12 (1000) 31 (v22)) (1000) 27).toInt = (I (1000) 27 : Int32).toInt := (congrArg Int32.toInt ((show (u2 I12 (1000) 31 (v22)) (1000) 27 = I12 (1000) 27 from by simp [u2_v]))).trans pw16
    have pw28 : ((u2 I12 (1000) 31 (v22)) (1000) 29).toInt = (I (1000) 29 : Int32).toInt := (congrArg Int32.toInt ((show (u2 I12 (1000) 31 (v22)) (1000) 29 = I12 (1000) 29 from by simp [u2_v]))).trans pw17
    have pw29 : ((u2 I12 (1000) 31 (v22)) (1000) 30).toInt = (I (1000) 30 : Int32).toInt := (congrArg Int32.toInt ((show (u2 I12 (1000) 31 (v22)) (1000) 30 = I12 (1000) 30 from by simp [u2_v]))).trans pw18
    have pw30 : ((u2 I12 (1000) 31 (v22)) (1000) 31).toInt = (v22 : Int32).toInt := congrArg Int32.toInt ((show (u2 I12 (1000) 31 (v22)) (1000) 31 = v22 from by simp [u2_v]))
    have pw31 : ((u2 I12 (1000) 31 (v22)) (1000) 32).toInt = (I (1000) 32 : Int32).toInt := (congrArg Int32.toInt ((show (u2 I12 (1000) 31 (v22)) (1000) 32 = I12 (1000) 32 from by simp [u2_v]))).trans pw20
    exact m_vret hx hb hr hlocks hM hS (Nat.le_of_ble_eq_true rfl) (Nat.le_of_ble_eq_true rfl) ⟨_, _, rfl, hI, hK, ⟨⟨fun hz => ⟨fun _ => by have w1 := xI12.2.2.1 (by omega); omega, fun h2 => by omega⟩, fun hz => by have w1 := xI12.2.2.2 (by omega); omega⟩, (fun hz => by have w0 := xI12.2.1 (by omega); exact w0.elim)⟩⟩ dX10_isCounted_25
set_option maxHeartbeats 4000000 in
set_option maxRecDepth 20000 in
theorem V_X10_digits_h (l : Launch) (D : va_G) (A : Nat → Prop) (ad : Nat → Nat) (ns : List Nat) (I : MI) (L : ML) (G : MG) (a0 : Int32) (hJ : SGM ns G) (hI : INV I) (hp : (I 1000 25).toInt ≤ 400) : Met l yX10_digits (wd yX10_digits cX10_digits 4 (some .int)) ({ frames := 2, cells := 0, slots := 0, locals := 45 }) (va_Pc [.ref (ad (1000)), .int a0] (PM D A ad ns I L G)) (va_Qi (fun r u => ∃ I2 L2, u = (ad, ns, I2, L2, G) ∧ INV I2 ∧ Kp [] [(1000, 25), (1000, 26)] I I2 ∧ ((DIX (TM I) I I2 a0.toInt r ∧ KF I I2) ∧ (I 1000 25).toInt ≤ (I2 1000 25).toInt ∧ (I2 1000 25).toInt ≤ 400 ∧ Imp ((I2 1000 26).toInt = 0) ((I 1000 26).toInt = 0))) (BM D A) A) 0 0 A := by
  refine m_ofW (by decide) (Nat.le_of_ble_eq_true rfl) ?_
  intro p e s m below meth c ls args hC hE hM hA hS hl
  obtain ⟨hx, hb, hml, hown, hts, hr, hlocks, hin⟩ := hC
  have k0 : (0 : Int32).toInt = 0 := by decide
  have k1 : (1 : Int32).toInt = 1 := by decide
  have k5 : (5 : Int32).toInt = 5 := by decide
  have k10 : (10 : Int32).toInt = 10 := by decide
  have k48 : (48 : Int32).toInt = 48 := by decide
  have hT := TM_ok hI
  have hK : Kp [] [(1000, 25), (1000, 26)] I I := Kp.rf
  have hl : lv_has ls 4 [(0, .ref (ad (1000))), (1, .int (a0))] := hl
  refine lv_aload_n hx hb dX10_digits_0 rfl (lv_at hl 0 rfl) ?_
  refine m_calli (m_runV (1000) (As := []) (rest := []) hx hb hml hown hts hE hM hS hA ce_X10_isDigit tb_1529 (V_X10_isDigit_h l D A ad ns I L G hJ hI) rfl rfl ⟨Nat.le_of_ble_eq_true rfl, Nat.le_of_ble_eq_true rfl⟩ hJ.1 rfl rfl (by decide) rfl hl.1 rfl (Nat.le_of_ble_eq_true rfl) dX10_digits_1 ⟨Nat.le_of_ble_eq_true rfl, Nat.le_of_ble_eq_true rfl⟩) hS (fun r1 u H locs hw hM hS => ?_)
  obtain ⟨rfl, xr1⟩ := hw
  have hM : Mem D A ad ns I L G H := hM
  have g2 := hI.get 1000 24 (lo := 0) (hi := 400) rfl
  have g3 := hI.get 1000 25 (lo := 0) (hi := 100000) rfl
  have sx4 := xr1.1
  refine lv_if_ne (tgt := 18) hx hb dX10_digits_4 (by decide) (fun c5 => ?_) (fun c5 => ?_)
  · have hc5 := c5
    have q5 := q_ne hc5
    have sg6 := xr1.2.2.2 (by omega)
    have sc7 := sx4.y (by omega)
    refine lv_aload_n hx hb dX10_digits_18 rfl (lv_at hl 0 rfl) ?_
    refine m_geti (1000) 25 hx hb hts hown hE oc10 hM hJ.1 rfl (by decide) rfl tb_1202 dX10_digits_19 ?_
    have g8 := hI.get (1000) 25 (lo := 0) (hi := 100000) rfl
    refine lv_istore_n (lv' := [(2, .int (I (1000) 25)), (0, .ref (ad (1000))), (1, .int (a0))]) hx hb dX10_digits_22 rfl hl (by decide) rfl (fun ls hl => ?_)
    refine lv_iconst (v := (0)) hx hb dX10_digits_23 (by decide) ?_
    refine lv_istore_n (lv' := [(3, .int (0)), (2, .int (I (1000) 25)), (0, .ref (ad (1000))), (1, .int (a0))]) hx hb dX10_digits_24 rfl hl (by decide) rfl (fun ls hl => ?_)
    have loop25 : ∀ (n : Nat) (x3_25 : Int32) (Ia25 : MI) (La25 : ML) (H : Heap) (locs : List Loc) (ls : Array Slot), INV Ia25 → Kp [] [(1000, 25), (1000, 26)] I Ia25 → ((I 1000 25).toInt ≤ (Ia25 1000 25).toInt ∧ (Ia25 1000 25).toInt ≤ 400 ∧ (Ia25 1000 26).toInt = (I 1000 26).toInt) → (((Ia25 1000 25).toNatClampNeg - (I 1000 25).toNatClampNeg) + rnl dg (TM I) ((I 1000 25).toNatClampNeg + ((Ia25 1000 25).toNatClampNeg - (I 1000 25).toNatClampNeg)) = rnl dg (TM I) (I 1000 25).toNatClampNeg) → ((x3_25).toInt = nv (TM I) (I 1000 25).toNatClampNeg ((Ia25 1000 25).toNatClampNeg - (I 1000 25).toNatClampNeg)) → (400 - (Ia25 1000 25).toInt).toNat < n → Mem D A ad ns Ia25 La25 G H → va_S A s.heap H locs → lv_has ls 4 [(3, .int (x3_25)), (2, .int (I (1000) 25)), (0, .ref (ad (1000))), (1, .int (a0))] → W p l e ({ frames := 2, cells := 0, slots := 0, locals := 45 } : Room) s m args below meth c H locs 0 0 (MQ below (va_Qi (fun r u => ∃ I2 L2, u = (ad, ns, I2, L2, G) ∧ INV I2 ∧ Kp [] [(1000, 25), (1000, 26)] I I2 ∧ ((DIX (TM I) I I2 a0.toInt r ∧ KF I I2) ∧ (I 1000 25).toInt ≤ (I2 1000 25).toInt ∧ (I2 1000 25).toInt ≤ 400 ∧ Imp ((I2 1000 26).toInt = 0) ((I 1000 26).toInt = 0))) (BM D A) A) args s 0 0 A) (F0 m 25 ls []) := by
      intro n
      induction n with
      | zero =>
        intro x3_25 Ia25 La25 H locs ls hI hK hpg hn25 hv25 hmu
        exact absurd hmu (Nat.not_lt_zero _)
      | succ n ih25 =>
        intro x3_25 Ia25 La25 H locs ls hI hK hpg hn25 hv25 hmu25 hM hS hl
        refine lv_aload_n hx hb dX10_digits_25 rfl (lv_at hl 2 rfl) ?_
        refine m_calli (m_runV (1000) (As := []) (rest := []) hx hb hml hown hts hE hM hS hA ce_X10_isDigit tb_1529 (V_X10_isDigit_h l D A ad ns Ia25 La25 G hJ hI) rfl rfl ⟨Nat.le_of_ble_eq_true rfl, Nat.le_of_ble_eq_true rfl⟩ hJ.1 rfl rfl (by decide) rfl hl.1 rfl (Nat.le_of_ble_eq_true rfl) dX10_digits_26 ⟨Nat.le_of_ble_eq_true rfl, Nat.le_of_ble_eq_true rfl⟩) hS (fun r9 u H locs hw hM hS => ?_)
        obtain ⟨rfl, xr9⟩ := hw
        have hM : Mem D A ad ns Ia25 La25 G H := hM
        have g10 := hI.get 1000 24 (lo := 0) (hi := 400) rfl
        have g11 := hI.get 1000 25 (lo := 0) (hi := 100000) rfl
        have sx12 := xr9.1
        rw [show TM Ia25 = TM I from (TM_of (hK.getA 1034 rfl) (hK.get 1000 24 rfl))] at sx12
        refine lv_if_eq (tgt := 72) hx hb dX10_digits_29 (by decide) (fun c13 => ?_) (fun c13 => ?_)
        · have hc13 := c13
          have q13 := q_eq hc13
          have sc14 := sx12.n (by omega)
          refine lv_aload_n hx hb dX10_digits_72 rfl (lv_at hl 2 rfl) ?_
          refine m_geti (1000) 25 hx hb hts hown hE oc10 hM hJ.1 rfl (by decide) rfl tb_1202 dX10_digits_73 ?_
          have g15 := hI.get (1000) 25 (lo := 0) (hi := 100000) rfl
          refine lv_iload_n hx hb dX10_digits_76 rfl (lv_at hl 1 rfl) ?_
          refine lv_isub hx hb dX10_digits_77 ?_
          refine lv_topi (fun v16 ev16 => ?_)
          have tv16 := a_sub ev16 (by omega) (by omega)
          refine lv_iconst (v := (5)) hx hb dX10_digits_78 (by decide) ?_
          refine lv_icmp_gt (tgt := 87) hx hb dX10_digits_79 (by decide) (fun c17 => ?_) (fun c17 => ?_)
          · have hc17 := c17
            have q17 := q_lt hc17
            refine lv_aload_n hx hb dX10_digits_87 rfl (lv_at hl 2 rfl) ?_
            refine lv_iconst (v := (1)) hx hb dX10_digits_88 (by decide) ?_
            refine lv_iload_n hx hb dX10_digits_89 rfl (lv_at hl 1 rfl) ?_
            refine m_callv (m_runV (1000) (As := [.int (1), .int (I (1000) 25)]) (rest := []) hx hb hml hown hts hE hM hS hA ce_X10_fails tb_1521 (V_X10_fails_h l D A ad ns Ia25 La25 G (1) (I (1000) 25) hJ hI (by first | omega | decide) (by first | omega | decide)) rfl rfl ⟨Nat.le_of_ble_eq_true rfl, Nat.le_of_ble_eq_true rfl⟩ hJ.1 rfl rfl (by decide) rfl hl.1 rfl (Nat.le_of_ble_eq_true rfl) dX10_digits_90 ⟨Nat.le_of_ble_eq_true rfl, Nat.le_of_ble_eq_true rfl⟩) hS (fun u H locs hw hM hS => ?_)
            obtain ⟨I18, L19, rfl, hI, hkI18, xI18⟩ := hw
            have hM : Mem D A ad ns I18 L19 G H := hM
            have hK := hK.trans hkI18 rfl
            have pw20 : (I18 (1000) 24).toInt = (Ia25 (1000) 24 : Int32).toInt := congrArg Int32.toInt ((hkI18.get (1000) 24 rfl))
            have pw21 : (I18 (1000) 25).toInt = (Ia25 (1000) 25 : Int32).toInt := congrArg Int32.toInt ((hkI18.get (1000) 25 rfl))
            have pw22 : (I18 (1000) 27).toInt = (Ia25 (1000) 27 : Int32).toInt := congrArg Int32.toInt ((hkI18.get (1000) 27 rfl))
            have pw23 : (I18 (1000) 29).toInt = (Ia25 (1000) 29 : Int32).toInt := congrArg Int32.toInt ((hkI18.get (1000) 29 rfl))
            have pw24 : (I18 (1000) 30).toInt = (Ia25 (1000) 30 : Int32).toInt := congrArg Int32.toInt ((hkI18.get (1000) 30 rfl))
            have pw25 : (I18 (1000) 31).toInt = (Ia25 (1000) 31 : Int32).toInt := congrArg Int32.toInt ((hkI18.get (1000) 31 rfl))
            have pw26 : (I18 (1000) 32).toInt = (Ia25 (1000) 32 : Int32).toInt := congrArg Int32.toInt ((hkI18.get (1000) 32 rfl))
            refine lv_iload_n hx hb dX10_digits_93 rfl (lv_at hl 0 rfl) ?_
            have z8 := tn (i := I 1000 25) (by omega)
            have z9 := tn (i := Ia25 1000 25) (by omega)
            have zp : (Ia25 1000 25).toNatClampNeg = (I 1000 25).toNatClampNeg + ((Ia25 1000 25).toNatClampNeg - (I 1000 25).toNatClampNeg) := by omega
            have hnd := sc14
            rw [zp] at hnd
            have hz0 := rnl_n (P := dg) (T := TM I) (p := (I 1000 25).toNatClampNeg + ((Ia25 1000 25).toNatClampNeg - (I 1000 25).toNatClampNeg)) (dg_f hnd)
            have hk := hn25
            rw [hz0] at hk
            have hv := hv25
            rw [show (Ia25 1000 25).toNatClampNeg - (I 1000 25).toNatClampNeg = rnl dg (TM I) (I 1000 25).toNatClampNeg from by omega] at hv
            exact m_iret hx hb hr hlocks hM hS (Nat.le_of_ble_eq_true rfl) (Nat.le_of_ble_eq_true rfl) ⟨_, _, rfl, hI, hK, ⟨⟨Or.inr ⟨sc7, by rw [show (I18 1000 25).toNatClampNeg = (Ia25 1000 25).toNatClampNeg from cl_eq (by omega)]; omega, hv, fun hz => ⟨fun _ => by have w1 := xI18.2.2.1 (by omega); omega, fun h2 => by omega⟩⟩, (fun hz => by have w1 := xI18.2.2.2 (by omega); omega)⟩, ⟨by omega, by omega, (fun hz => by have w0 := xI18.2.1 (by omega); exact w0.elim)⟩⟩⟩ dX10_digits_94
          · have hc17 := c17
            have q17 := q_nlt hc17
            refine lv_iload_n hx hb dX10_digits_82 rfl (lv_at hl 0 rfl) ?_
            refine lv_iload_n hx hb dX10_digits_83 rfl (lv_at hl 3 rfl) ?_
            refine lv_icmp_le (tgt := 93) hx hb dX10_digits_84 (by decide) (fun c27 => ?_) (fun c27 => ?_)
            · have hc27 := c27
              have q27 := q_le hc27
              refine lv_iload_n hx hb dX10_digits_93 rfl (lv_at hl 0 rfl) ?_
              have z8 := tn (i := I 1000 25) (by omega)
              have z9 := tn (i := Ia25 1000 25) (by omega)
              have zp : (Ia25 1000 25).toNatClampNeg = (I 1000 25).toNatClampNeg + ((Ia25 1000 25).toNatClampNeg - (I 1000 25).toNatClampNeg) := by omega
              have hnd := sc14
              rw [zp] at hnd
              have hz0 := rnl_n (P := dg) (T := TM I) (p := (I 1000 25).toNatClampNeg + ((Ia25 1000 25).toNatClampNeg - (I 1000 25).toNatClampNeg)) (dg_f hnd)
              have hk := hn25
              rw [hz0] at hk
              have hv := hv25
              rw [show (Ia25 1000 25).toNatClampNeg - (I 1000 25).toNatClampNeg = rnl dg (TM I) (I 1000 25).toNatClampNeg from by omega] at hv
              exact m_iret hx hb hr hlocks hM hS (Nat.le_of_ble_eq_true rfl) (Nat.le_of_ble_eq_true rfl) ⟨_, _, rfl, hI, hK, ⟨⟨Or.inr ⟨sc7, by rw [show (Ia25 1000 25).toNatClampNeg = (Ia25 1000 25).toNatClampNeg from cl_eq (by omega)]; omega, hv, fun hz => ⟨fun h2 => by omega, fun _ => by omega⟩⟩, (fun hz => by omega)⟩, ⟨by omega, by omega, (fun hz => by omega)⟩⟩⟩ dX10_digits_94
            · have hc27 := c27
              have q27 := q_nle hc27
              refine lv_aload_n hx hb dX10_digits_87 rfl (lv_at hl 2 rfl) ?_
              refine lv_iconst (v := (1)) hx hb dX10_digits_88 (by decide) ?_
              refine lv_iload_n hx hb dX10_digits_89 rfl (lv_at hl 1 rfl) ?_
              refine m_callv (m_runV (1000) (As := [.int (1), .int (I (1000) 25)]) (rest := []) hx hb hml hown hts hE hM hS hA ce_X10_fails tb_1521 (V_X10_fails_h l D A ad ns Ia25 La25 G (1) (I (1000) 25) hJ hI (by first | omega | decide) (by first | omega | decide)) rfl rfl ⟨Nat.le_of_ble_eq_true rfl, Nat.le_of_ble_eq_true rfl⟩ hJ.1 rfl rfl (by decide) rfl hl.1 rfl (Nat.le_of_ble_eq_true rfl) dX10_digits_90 ⟨Nat.le_of_ble_eq_true rfl, Nat.le_of_ble_eq_true rfl⟩) hS (fun u H locs hw hM hS => ?_)
              obtain ⟨I28, L29, rfl, hI, hkI28, xI28⟩ := hw
              have hM : Mem D A ad ns I28 L29 G H := hM
              have hK := hK.trans hkI28 rfl
              have pw30 : (I28 (1000) 24).toInt = (Ia25 (1000) 24 : Int32).toInt := congrArg Int32.toInt ((hkI28.get (1000) 24 rfl))
              have pw31 : (I28 (1000) 25).toInt = (Ia25 (1000) 25 : Int32).toInt := congrArg Int32.toInt ((hkI28.get (1000) 25 rfl))
              have pw32 : (I28 (1000) 27).toInt = (Ia25 (1000) 27 : Int32).toInt := congrArg Int32.toInt ((hkI28.get (1000) 27 rfl))
              have pw33 : (I28 (1000) 29).toInt = (Ia25 (1000) 29 : Int32).toInt := congrArg Int32.toInt ((hkI28.get (1000) 29 rfl))
              have pw34 : (I28 (1000) 30).toInt = (Ia25 (1000) 30 : Int32).toInt := congrArg Int32.toInt ((hkI28.get (1000) 30 rfl))
              have pw35 : (I28 (1000) 31).toInt = (Ia25 (1000) 31 : Int32).toInt := congrArg Int32.toInt ((hkI28.get (1000) 31 rfl))
              have pw36 : (I28 (1000) 32).toInt = (Ia25 (1000) 32 : Int32).toInt := congrArg Int32.toInt ((hkI28.get (1000) 32 rfl))
              refine lv_iload_n hx hb dX10_digits_93 rfl (lv_at hl 0 rfl) ?_
              have z8 := tn (i := I 1000 25) (by omega)
              have z9 := tn (i := Ia25 1000 25) (by omega)
              have zp : (Ia25 1000 25).toNatClampNeg = (I 1000 25).toNatClampNeg + ((Ia25 1000 25).toNatClampNeg - (I 1000 25).toNatClampNeg) := by omega
              have hnd := sc14
              rw [zp] at hnd
              have hz0 := rnl_n (P := dg) (T := TM I) (p := (I 1000 25).toNatClampNeg + ((Ia25 1000 25).toNatClampNeg - (I 1000 25).toNatClampNeg)) (dg_f hnd)
              have hk := hn25
              rw [hz0] at hk
              have hv := hv25
              rw [show (Ia25 1000 25).toNatClampNeg - (I 1000 25).toNatClampNeg = rnl dg (TM I) (I 1000 25).toNatClampNeg from by omega] at hv
              exact m_iret hx hb hr hlocks hM hS (Nat.le_of_ble_eq_true rfl) (Nat.le_of_ble_eq_true rfl) ⟨_, _, rfl, hI, hK, ⟨⟨Or.inr ⟨sc7, by rw [show (I28 1000 25).toNatClampNeg = (Ia25 1000 25).toNatClampNeg from cl_eq (by omega)]; omega, hv, fun hz => ⟨fun _ => by have w1 := xI28.2.2.1 (by omega); omega, fun h2 => by omega⟩⟩, (fun hz => by have w1 := xI28.2.2.2 (by omega); omega)⟩, ⟨by omega, by omega, (fun hz => by have w0 := xI28.2.1 (by omega); exact w0.elim)⟩⟩⟩ dX10_digits_94
        · have hc13 := c13
          have q13 := q_ne hc13
          have sg37 := xr9.2.2.2 (by omega)
          have sc38 := sx12.y (by omega)
          refine lv_aload_n hx hb dX10_digits_32 rfl (lv_at hl 2 rfl) ?_
          refine m_geti (1000) 25 hx hb hts hown hE oc10 hM hJ.1 rfl (by decide) rfl tb_1202 dX10_digits_33 ?_
          have g39 := hI.get (1000) 25 (lo := 0) (hi := 100000) rfl
          refine lv_iload_n hx hb dX10_digits_36 rfl (lv_at hl 1 rfl) ?_
          refine lv_isub hx hb dX10_digits_37 ?_
          refine lv_topi (fun v40 ev40 => ?_)
          have tv40 := a_sub ev40 (by omega) (by omega)
          refine lv_iconst (v := (5)) hx hb dX10_digits_38 (by decide) ?_
          refine lv_icmp_ge (tgt := 57) hx hb dX10_digits_39 (by decide) (fun c41 => ?_) (fun c41 => ?_)
          · have hc41 := c41
            have q41 := q_le hc41
            refine lv_iload_n hx hb dX10_digits_57 rfl (lv_at hl 0 rfl) ?_
            refine lv_istore_n (lv' := [(3, .int (x3_25)), (2, .int (I (1000) 25)), (0, .ref (ad (1000))), (1, .int (a0))]) hx hb dX10_digits_58 rfl hl (by decide) rfl (fun ls hl => ?_)
            refine lv_aload_n hx hb dX10_digits_59 rfl (lv_at hl 2 rfl) ?_
            refine lv_dup hx hb dX10_digits_60 rfl ?_
            refine m_geti (1000) 25 hx hb hts hown hE oc10 hM hJ.1 rfl (by decide) rfl tb_1202 dX10_digits_61 ?_
            refine lv_iconst (v := (1)) hx hb dX10_digits_64 (by decide) ?_
            refine lv_iadd hx hb dX10_digits_65 ?_
            refine lv_topi (fun v42 ev42 => ?_)
            have tv42 := a_add ev42 (by omega) (by omega)
            refine m_puti (1000) 25 hx hb hts hown hE oc10 hM hS hJ.1 rfl (by decide) rfl rfl rfl rfl tb_1202 dX10_digits_66 (fun H locs I43 eI43 hM hS => ?_)
            subst eI43
            have hI := hI.put (n := 1000) (k := 25) (v := v42) (lo := 0) (hi := 100000) rfl (by first | omega | decide)
            have hK := hK.put (n := 1000) (k := 25) (v := v42) (by first | rfl | simp [inR])
            refine lv_goto (tgt := 25) hx hb dX10_digits_69 (by decide) ?_
            have tr100025 : ((u2 Ia25 (1000) 25 (v42)) (1000) 25).toInt = (v42 : Int32).toInt := congrArg Int32.toInt ((show (u2 Ia25 (1000) 25 (v42)) (1000) 25 = v42 from by simp [u2_v]))
            have tr100026 : ((u2 Ia25 (1000) 25 (v42)) (1000) 26).toInt = (Ia25 (1000) 26 : Int32).toInt := congrArg Int32.toInt ((show (u2 Ia25 (1000) 25 (v42)) (1000) 26 = Ia25 (1000) 26 from by simp [u2_v]))
            have e25 : (u2 Ia25 (1000) 25 (v42)) (1000) 25 = v42 := (show (u2 Ia25 (1000) 25 (v42)) (1000) 25 = v42 from by simp [u2_v])
            have z8 := tn (i := I 1000 25) (by omega)
            have z9 := tn (i := Ia25 1000 25) (by omega)
            have z7 := tn (i := v42) (by omega)
            have zk : (v42).toNatClampNeg - (I 1000 25).toNatClampNeg = ((Ia25 1000 25).toNatClampNeg - (I 1000 25).toNatClampNeg) + 1 := by omega
            have zp : (Ia25 1000 25).toNatClampNeg = (I 1000 25).toNatClampNeg + ((Ia25 1000 25).toNatClampNeg - (I 1000 25).toNatClampNeg) := by omega
            have hdd := sc38
            have hd2 := hdd
            rw [zp] at hd2
            have hd6 := rnl_y (P := dg) (T := TM I) (okt_lt hT (p := (I 1000 25).toNatClampNeg + ((Ia25 1000 25).toNatClampNeg - (I 1000 25).toNatClampNeg)) (by omega)) (dg_t hd2)
            exact ih25 (x3_25) (u2 Ia25 (1000) 25 (v42)) La25 _ _ ls hI hK (by omega) (by rw [e25, zk]; rw [show (I 1000 25).toNatClampNeg + (((Ia25 1000 25).toNatClampNeg - (I 1000 25).toNatClampNeg) + 1) = (I 1000 25).toNatClampNeg + ((Ia25 1000 25).toNatClampNeg - (I 1000 25).toNatClampNeg) + 1 from rfl]; omega) (by rw [e25, zk, nv_c (by omega)]; exact hv25) (by omega) hM hS (lv_sub hl [0, 1, 2, 3] rfl)
          · have hc41 := c41
            have q41 := q_nle hc41
            refine lv_bipush (v := (10)) hx hb dX10_digits_42 (by decide) ?_
            refine lv_iload_n hx hb dX10_digits_44 rfl (lv_at hl 0 rfl) ?_
            refine lv_imul hx hb dX10_digits_45 ?_
            refine lv_topi (fun v44 ev44 => ?_)
            have hb9 := nv_9 (T := TM I) (p := (I 1000 25).toNatClampNeg) (k := ((Ia25 1000 25).toNatClampNeg - (I 1000 25).toNatClampNeg)) (fun i hi => rnl_all _ _ rfl i (by omega)) (by have z8 := tn (i := I 1000 25) (by omega); have z9 := tn (i := Ia25 1000 25) (by omega); omega)
            have tv44 := a_mulL (c := 10) ev44 (by decide) (by omega) (by omega)
            refine lv_aload_n hx hb dX10_digits_46 rfl (lv_at hl 2 rfl) ?_
            refine m_calli (m_runV (1000) (As := []) (rest := [.int (v44)]) hx hb hml hown hts hE hM hS hA ce_X10_sign tb_1510 (V_X10_sign_h l D A ad ns Ia25 La25 G hJ hI) rfl rfl ⟨Nat.le_of_ble_eq_true rfl, Nat.le_of_ble_eq_true rfl⟩ hJ.1 rfl rfl (by decide) rfl hl.1 rfl (Nat.le_of_ble_eq_true rfl) dX10_digits_47 ⟨Nat.le_of_ble_eq_true rfl, Nat.le_of_ble_eq_true rfl⟩) hS (fun r45 u H locs hw hM hS => ?_)
            obtain ⟨rfl, xr45⟩ := hw
            have hM : Mem D A ad ns Ia25 La25 G H := hM
            have g46 := hI.get 1000 24 (lo := 0) (hi := 400) rfl
            have g47 := hI.get 1000 25 (lo := 0) (hi := 100000) rfl
            have sx48 := xr45.1
            rw [show TM Ia25 = TM I from (TM_of (hK.getA 1034 rfl) (hK.get 1000 24 rfl))] at sx48
            refine lv_iadd hx hb dX10_digits_50 ?_
            refine lv_topi (fun v49 ev49 => ?_)
            have tv49 := a_add ev49 (by omega) (by omega)
            refine lv_bipush (v := (48)) hx hb dX10_digits_51 (by decide) ?_
            refine lv_isub hx hb dX10_digits_53 ?_
            refine lv_topi (fun v50 ev50 => ?_)
            have tv50 := a_sub ev50 (by omega) (by omega)
            refine lv_goto (tgt := 58) hx hb dX10_digits_54 (by decide) ?_
            refine lv_istore_n (lv' := [(3, .int (v50)), (2, .int (I (1000) 25)), (0, .ref (ad (1000))), (1, .int (a0))]) hx hb dX10_digits_58 rfl hl (by decide) rfl (fun ls hl => ?_)
            refine lv_aload_n hx hb dX10_digits_59 rfl (lv_at hl 2 rfl) ?_
            refine lv_dup hx hb dX10_digits_60 rfl ?_
            refine m_geti (1000) 25 hx hb hts hown hE oc10 hM hJ.1 rfl (by decide) rfl tb_1202 dX10_digits_61 ?_
            refine lv_iconst (v := (1)) hx hb dX10_digits_64 (by decide) ?_
            refine lv_iadd hx hb dX10_digits_65 ?_
            refine lv_topi (fun v51 ev51 => ?_)
            have tv51 := a_add ev51 (by omega) (by omega)
            refine m_puti (1000) 25 hx hb hts hown hE oc10 hM hS hJ.1 rfl (by decide) rfl rfl rfl rfl tb_1202 dX10_digits_66 (fun H locs I52 eI52 hM hS => ?_)
            subst eI52
            have hI := hI.put (n := 1000) (k := 25) (v := v51) (lo := 0) (hi := 100000) rfl (by first | omega | decide)
            have hK := hK.put (n := 1000) (k := 25) (v := v51) (by first | rfl | simp [inR])
            refine lv_goto (tgt := 25) hx hb dX10_digits_69 (by decide) ?_
            have tr100025 : ((u2 Ia25 (1000) 25 (v51)) (1000) 25).toInt = (v51 : Int32).toInt := congrArg Int32.toInt ((show (u2 Ia25 (1000) 25 (v51)) (1000) 25 = v51 from by simp [u2_v]))
            have tr100026 : ((u2 Ia25 (1000) 25 (v51)) (1000) 26).toInt = (Ia25 (1000) 26 : Int32).toInt := congrArg Int32.toInt ((show (u2 Ia25 (1000) 25 (v51)) (1000) 26 = Ia25 (1000) 26 from by simp [u2_v]))
            have e25 : (u2 Ia25 (1000) 25 (v51)) (1000) 25 = v51 := (show (u2 Ia25 (1000) 25 (v51)) (1000) 25 = v51 from by simp [u2_v])
            have z8 := tn (i := I 1000 25) (by omega)
            have z9 := tn (i := Ia25 1000 25) (by omega)
            have z7 := tn (i := v51) (by omega)
            have zk : (v51).toNatClampNeg - (I 1000 25).toNatClampNeg = ((Ia25 1000 25).toNatClampNeg - (I 1000 25).toNatClampNeg) + 1 := by omega
            have zp : (Ia25 1000 25).toNatClampNeg = (I 1000 25).toNatClampNeg + ((Ia25 1000 25).toNatClampNeg - (I 1000 25).toNatClampNeg) := by omega
            have hdd := sc38
            have hd2 := hdd
            rw [zp] at hd2
            have hd6 := rnl_y (P := dg) (T := TM I) (okt_lt hT (p := (I 1000 25).toNatClampNeg + ((Ia25 1000 25).toNatClampNeg - (I 1000 25).toNatClampNeg)) (by omega)) (dg_t hd2)
            have sgy := sx48
            unfold SGX at sgy
            exact ih25 (v50) (u2 Ia25 (1000) 25 (v51)) La25 _ _ ls hI hK (by omega) (by rw [e25, zk]; rw [show (I 1000 25).toNatClampNeg + (((Ia25 1000 25).toNatClampNeg - (I 1000 25).toNatClampNeg) + 1) = (I 1000 25).toNatClampNeg + ((Ia25 1000 25).toNatClampNeg - (I 1000 25).toNatClampNeg) + 1 from rfl]; omega) (by rw [e25, zk, nv_s (by omega), ← zp]; omega) (by omega) hM hS (lv_sub hl [0, 1, 2, 3] rfl)
    exact loop25 (_ + 1) (0) I L _ _ ls hI hK (by omega) (by rw [Nat.sub_self, Nat.add_zero, Nat.zero_add]) (by rw [Nat.sub_self]; exact k0) (Nat.lt_succ_self _) hM hS (lv_sub hl [0, 1, 2, 3] rfl)
  · have hc5 := c5
    have q5 := q_eq hc5
    have sc53 := sx4.n (by omega)
    refine lv_aload_n hx hb dX10_digits_7 rfl (lv_at hl 0 rfl) ?_
    refine lv_iconst (v := (0)) hx hb dX10_digits_8 (by decide) ?_
    refine lv_aload_n hx hb dX10_digits_9 rfl (lv_at hl 0 rfl) ?_
    refine m_geti (1000) 25 hx hb hts hown hE oc10 hM hJ.1 rfl (by decide) rfl tb_1202 dX10_digits_10 ?_
    have g54 := hI.get (1000) 25 (lo := 0) (hi := 100000) rfl
    refine m_callv (m_runV (1000) (As := [.int (0), .int (I (1000) 25)]) (rest := []) hx hb hml hown hts hE hM hS hA ce_X10_fails tb_1521 (V_X10_fails_h l D A ad ns I L G (0) (I (1000) 25) hJ hI (by first | omega | decide) (by first | omega | decide)) rfl rfl ⟨Nat.le_of_ble_eq_true rfl, Nat.le_of_ble_eq_true rfl⟩ hJ.1 rfl rfl (by decide) rfl hl.1 rfl (Nat.le_of_ble_eq_true rfl) dX10_digits_13 ⟨Nat.le_of_ble_eq_true rfl, Nat.le_of_ble_eq_true rfl⟩) hS (fun u H locs hw hM hS => ?_)
    obtain ⟨I55, L56, rfl, hI, hkI55, xI55⟩ := hw
    have hM : Mem D A ad ns I55 L56 G H := hM
    have hK := hK.trans hkI55 rfl
    have pw57 : (I55 (1000) 24).toInt = (I (1000) 24 : Int32).toInt := congrArg Int32.toInt ((hkI55.get (1000) 24 rfl))
    have pw58 : (I55 (1000) 25).toInt = (I (1000) 25 : Int32).toInt := congrArg Int32.toInt ((hkI55.get (1000) 25 rfl))
    have pw59 : (I55 (1000) 27).toInt = (I (1000) 27 : Int32).toInt := congrArg Int32.toInt ((hkI55.get (1000) 27 rfl))
    have pw60 : (I55 (1000) 29).toInt = (I (1000) 29 : Int32).toInt := congrArg Int32.toInt ((hkI55.get (1000) 29 rfl))
    have pw61 : (I55 (1000) 30).toInt = (I (1000) 30 : Int32).toInt := congrArg Int32.toInt ((hkI55.get (1000) 30 rfl))
    have pw62 : (I55 (1000) 31).toInt = (I (1000) 31 : Int32).toInt := congrArg Int32.toInt ((hkI55.get (1000) 31 rfl))
    have pw63 : (I55 (1000) 32).toInt = (I (1000) 32 : Int32).toInt := congrArg Int32.toInt ((hkI55.get (1000) 32 rfl))
    refine lv_iconst (v := (0)) hx hb dX10_digits_16 (by decide) ?_
    have z8 := tn (i := I 1000 25) (by omega)
    exact m_iret hx hb hr hlocks hM hS (Nat.le_of_ble_eq_true rfl) (Nat.le_of_ble_eq_true rfl) ⟨_, _, rfl, hI, hK, ⟨⟨Or.inl ⟨sc53, cl_eq (by omega), fun hz => by have w1 := xI55.2.2.1 (by omega); omega⟩, fun hz => by have w1 := xI55.2.2.2 (by omega); omega⟩, ⟨by omega, by omega, (fun hz => by have w0 := xI55.2.1 (by omega); exact w0.elim)⟩⟩⟩ dX10_digits_17
set_option maxHeartbeats 4000000 in
set_option maxRecDepth 20000 in
theorem V_X10_stands_h (l : Launch) (D : va_G) (A : Nat → Prop) (ad : Nat → Nat) (ns : List Nat) (I : MI) (L : ML) (G : MG) (i : Nat) (q : String × Nat × String × List Int32) (hJ : SGM ns G) (hI : INV I) (hq : sq[i]? = some q) (hn : q.2.2.2.length < 16) (hn1 : 1 ≤ q.2.2.2.length) (hbt : BTM I) : Met l yX10_stands (wd yX10_stands cX10_stands 5 (some .boolean)) ({ frames := 4, cells := 0, slots := 0, locals := 85 }) (va_Pc [.ref (ad (1000)), .ref (D.2 100 i)] (PM D A ad ns I L G)) (va_Qi (fun r u => u = (ad, ns, I, L, G) ∧ (WQX (TM I) (I 1000 25).toNatClampNeg (q.2.2.2.map b8) r ∧ 0 ≤ r.toInt ∧ r.toInt ≤ 1 ∧ Imp (r.toInt ≠ 0) ((I 1000 25).toInt + (q.2.2.2.length : Int) ≤ (I 1000 24).toInt))) (BM D A) A) 0 0 A := by
  refine m_ofW (by decide) (Nat.le_of_ble_eq_true rfl) ?_
  intro p e s m below meth c ls args hC hE hM hA hS hl
  obtain ⟨hx, hb, hml, hown, hts, hr, hlocks, hin⟩ := hC
  have k0 : (0 : Int32).toInt = 0 := by decide
  have k1 : (1 : Int32).toInt = 1 := by decide
  have k97 : (97 : Int32).toInt = 97 := by decide
  have k122 : (122 : Int32).toInt = 122 := by decide
  have kN : (Int32.ofNat q.2.2.2.length).toInt = q.2.2.2.length := nI_toInt (by omega)
  have k1 : (1 : Int32).toInt = 1 := by decide
  have hl : lv_has ls 5 [(0, .ref (ad (1000))), (1, .ref (D.2 100 i))] := hl
  refine lv_aload_n hx hb dX10_stands_0 rfl (lv_at hl 0 rfl) ?_
  refine m_geti (1000) 25 hx hb hts hown hE oc10 hM hJ.1 rfl (by decide) rfl tb_1202 dX10_stands_1 ?_
  have g1 := hI.get (1000) 25 (lo := 0) (hi := 100000) rfl
  refine lv_istore_n (lv' := [(2, .int (I (1000) 25)), (0, .ref (ad (1000))), (1, .ref (D.2 100 i))]) hx hb dX10_stands_4 rfl hl (by decide) rfl (fun ls hl => ?_)
  have loop5 : ∀ (n : Nat) (x2_5 : Int32) (H : Heap) (locs : List Loc) (ls : Array Slot), (0 ≤ x2_5.toInt ∧ x2_5.toInt ≤ 100000) → ((I 1000 25).toInt ≤ (x2_5).toInt ∧ ((x2_5).toInt = (I 1000 25).toInt ∨ (x2_5).toInt ≤ (I 1000 24).toInt)) → ((x2_5).toNatClampNeg + rnl ltr (TM I) (x2_5).toNatClampNeg = (I 1000 25).toNatClampNeg + rnl ltr (TM I) (I 1000 25).toNatClampNeg) → (400 - x2_5.toInt).toNat < n → Mem D A ad ns I L G H → va_S A s.heap H locs → lv_has ls 5 [(2, .int (x2_5)), (0, .ref (ad (1000))), (1, .ref (D.2 100 i))] → W p l e ({ frames := 4, cells := 0, slots := 0, locals := 85 } : Room) s m args below meth c H locs 0 0 (MQ below (va_Qi (fun r u => u = (ad, ns, I, L, G) ∧ (WQX (TM I) (I 1000 25).toNatClampNeg (q.2.2.2.map b8) r ∧ 0 ≤ r.toInt ∧ r.toInt ≤ 1 ∧ Imp (r.toInt ≠ 0) ((I 1000 25).toInt + (q.2.2.2.length : Int) ≤ (I 1000 24).toInt))) (BM D A) A) args s 0 0 A) (F0 m 5 ls []) := by
    intro n
    induction n with
    | zero =>
      intro x2_5 H locs ls hr2_5 he5 hl5 hmu
      exact absurd hmu (Nat.not_lt_zero _)
    | succ n ih5 =>
      intro x2_5 H locs ls hr2_5 he5 hl5 hmu5 hM hS hl
      refine lv_iload_n hx hb dX10_stands_5 rfl (lv_at hl 0 rfl) ?_
      refine lv_aload_n hx hb dX10_stands_6 rfl (lv_at hl 1 rfl) ?_
      refine m_geti (1000) 24 hx hb hts hown hE oc10 hM hJ.1 rfl (by decide) rfl tb_1201 dX10_stands_7 ?_
      have g2 := hI.get (1000) 24 (lo := 0) (hi := 400) rfl
      refine lv_icmp_ge (tgt := 41) hx hb dX10_stands_10 (by decide) (fun c3 => ?_) (fun c3 => ?_)
      · have hc3 := c3
        have q3 := q_le hc3
        have z2 := tn (i := x2_5) (by omega)
        have htx : TM I (x2_5).toNatClampNeg = -45 := TXT_n (by omega)
        have hz0 := rnl_n (P := ltr) (T := TM I) (p := (x2_5).toNatClampNeg) (ltr_f (by omega))
        have hrn := hl5
        rw [hz0] at hrn
        have z3 := tn (i := I 1000 25) (by omega)
        clear htx
        refine lv_iload_n hx hb dX10_stands_41 rfl (lv_at hl 0 rfl) ?_
        refine lv_aload_n hx hb dX10_stands_42 rfl (lv_at hl 1 rfl) ?_
        refine m_geti (1000) 25 hx hb hts hown hE oc10 hM hJ.1 rfl (by decide) rfl tb_1202 dX10_stands_43 ?_
        refine lv_isub hx hb dX10_stands_46 ?_
        refine lv_topi (fun v4 ev4 => ?_)
        have tv4 := a_sub ev4 (by omega) (by omega)
        refine lv_aload_n hx hb dX10_stands_47 rfl (lv_at hl 2 rfl) ?_
        refine m_calli (m_runVA (D.2 100 i) (As := []) (rest := [.int (v4)]) hx hb hml hown hts hE hM hS hA ce_J0_length_8abf5 tb_1519 (C_J0_length_8abf5 l D A ad ns I L G i _ hq hn) rfl rfl ⟨Nat.le_of_ble_eq_true rfl, Nat.le_of_ble_eq_true rfl⟩ (m_strr hE hS i hq) rfl hl.1 rfl (Nat.le_of_ble_eq_true rfl) dX10_stands_48 ⟨Nat.le_of_ble_eq_true rfl, Nat.le_of_ble_eq_true rfl⟩) hS (fun r5 u H locs hw hM hS => ?_)
        obtain ⟨rfl, rfl⟩ := hw
        have hM : Mem D A ad ns I L G H := hM
        refine lv_icmp_ne (tgt := 58) hx hb dX10_stands_51 (by decide) (fun c6 => ?_) (fun c6 => ?_)
        · have hc6 := c6
          have q6 := q_ne hc6
          refine lv_iconst (v := (0)) hx hb dX10_stands_58 (by decide) ?_
          refine lv_istore_n (lv' := [(3, .int (0)), (2, .int (x2_5)), (0, .ref (ad (1000))), (1, .ref (D.2 100 i))]) hx hb dX10_stands_59 rfl hl (by decide) rfl (fun ls hl => ?_)
          refine lv_iconst (v := (0)) hx hb dX10_stands_60 (by decide) ?_
          refine lv_istore (lv' := [(4, .int (0)), (3, .int (0)), (2, .int (x2_5)), (0, .ref (ad (1000))), (1, .ref (D.2 100 i))]) hx hb dX10_stands_61 hl (by decide) rfl (fun ls hl => ?_)
          have loop63 : ∀ (n : Nat) (x4_63 : Int32) (x3_63 : Int32) (H : Heap) (locs : List Loc) (ls : Array Slot), (0 ≤ x4_63.toInt ∧ x4_63.toInt ≤ 16) → (0 ≤ x3_63.toInt ∧ x3_63.toInt ≤ 1) → ((x3_63).toInt = 0 ∨ (x2_5).toInt - (I 1000 25).toInt = (q.2.2.2.length : Int)) → (SLX (TM I) (I 1000 25).toNatClampNeg q.2.2.2 (x3_63).toInt (x4_63).toNatClampNeg) → (16 - x4_63.toInt).toNat < n → Mem D A ad ns I L G H → va_S A s.heap H locs → lv_has ls 5 [(4, .int (x4_63)), (3, .int (x3_63)), (2, .int (x2_5)), (0, .ref (ad (1000))), (1, .ref (D.2 100 i))] → W p l e ({ frames := 4, cells := 0, slots := 0, locals := 85 } : Room) s m args below meth c H locs 0 0 (MQ below (va_Qi (fun r u => u = (ad, ns, I, L, G) ∧ (WQX (TM I) (I 1000 25).toNatClampNeg (q.2.2.2.map b8) r ∧ 0 ≤ r.toInt ∧ r.toInt ≤ 1 ∧ Imp (r.toInt ≠ 0) ((I 1000 25).toInt + (q.2.2.2.length : Int) ≤ (I 1000 24).toInt))) (BM D A) A) args s 0 0 A) (F0 m 63 ls []) := by
            intro n
            induction n with
            | zero =>
              intro x4_63 x3_63 H locs ls hr4_63 hr3_63 he63 hs63 hmu
              exact absurd hmu (Nat.not_lt_zero _)
            | succ n ih63 =>
              intro x4_63 x3_63 H locs ls hr4_63 hr3_63 he63 hs63 hmu63 hM hS hl
              refine lv_iload hx hb dX10_stands_63 (lv_at hl 0 rfl) ?_
              refine lv_aload_n hx hb dX10_stands_65 rfl (lv_at hl 4 rfl) ?_
              refine m_calli (m_runVA (D.2 100 i) (As := []) (rest := [.int (x4_63)]) hx hb hml hown hts hE hM hS hA ce_J0_length_8abf5 tb_1519 (C_J0_length_8abf5 l D A ad ns I L G i _ hq hn) rfl rfl ⟨Nat.le_of_ble_eq_true rfl, Nat.le_of_ble_eq_true rfl⟩ (m_strr hE hS i hq) rfl hl.1 rfl (Nat.le_of_ble_eq_true rfl) dX10_stands_66 ⟨Nat.le_of_ble_eq_true rfl, Nat.le_of_ble_eq_true rfl⟩) hS (fun r7 u H locs hw hM hS => ?_)
              obtain ⟨rfl, rfl⟩ := hw
              have hM : Mem D A ad ns I L G H := hM
              refine lv_icmp_ge (tgt := 109) hx hb dX10_stands_69 (by decide) (fun c8 => ?_) (fun c8 => ?_)
              · have hc8 := c8
                have q8 := q_le hc8
                refine lv_iload_n hx hb dX10_stands_109 rfl (lv_at hl 1 rfl) ?_
                exact m_zret hx hb hr (nar01 (by omega) (by omega)).1 hlocks hM hS (Nat.le_of_ble_eq_true rfl) (Nat.le_of_ble_eq_true rfl) ⟨rfl, ⟨SLX.fin hs63 (Or.inr (by have z5 := tn (i := x4_63) (by omega); omega)), by omega, by omega, fun hz => by omega⟩⟩ dX10_stands_110
              · have hc8 := c8
                have q8 := q_nle hc8
                refine lv_iload_n hx hb dX10_stands_72 rfl (lv_at hl 1 rfl) ?_
                refine lv_if_eq (tgt := 109) hx hb dX10_stands_73 (by decide) (fun c9 => ?_) (fun c9 => ?_)
                · have hc9 := c9
                  have q9 := q_eq hc9
                  refine lv_iload_n hx hb dX10_stands_109 rfl (lv_at hl 1 rfl) ?_
                  exact m_zret hx hb hr (nar01 (by omega) (by omega)).1 hlocks hM hS (Nat.le_of_ble_eq_true rfl) (Nat.le_of_ble_eq_true rfl) ⟨rfl, ⟨SLX.fin hs63 (Or.inl (by omega)), by omega, by omega, fun hz => by omega⟩⟩ dX10_stands_110
                · have hc9 := c9
                  have q9 := q_ne hc9
                  refine lv_aload_n hx hb dX10_stands_76 rfl (lv_at hl 3 rfl) ?_
                  refine m_getr (1000) 34 (1034) hx hb hts hown hE oc10 hM hJ.1 rfl (by decide) rfl (hJ.2 34 (by decide)).2 (by decide) tb_1211 dX10_stands_77 ?_
                  refine lv_aload_n hx hb dX10_stands_80 rfl (lv_at hl 3 rfl) ?_
                  refine m_geti (1000) 25 hx hb hts hown hE oc10 hM hJ.1 rfl (by decide) rfl tb_1202 dX10_stands_81 ?_
                  refine lv_iload hx hb dX10_stands_84 (lv_at hl 0 rfl) ?_
                  refine lv_iadd hx hb dX10_stands_86 ?_
                  refine lv_topi (fun v10 ev10 => ?_)
                  have tv10 := a_add ev10 (by omega) (by omega)
                  refine m_bald (1034) hx hb hE hM (hJ.2 34 (by decide)).1 rfl (vp_in_iff.mpr (by omega)) dX10_stands_87 ?_
                  have hy87 := hbt (v10).toNatClampNeg (by have z9 := tn (i := v10) (by omega); omega)
                  have hb87 := b8_or hy87
                  refine lv_aload_n hx hb dX10_stands_88 rfl (lv_at hl 4 rfl) ?_
                  refine lv_iload hx hb dX10_stands_89 (lv_at hl 0 rfl) ?_
                  refine m_calli (m_runVA (D.2 100 i) (As := [.int (x4_63)]) (rest := [.int (I (1034) (v10).toNatClampNeg)]) hx hb hml hown hts hE hM hS hA ce_J0_charAt_5068e tb_1520 (C_J0_charAt_5068e l D A ad ns I L G i _ (x4_63) hq hn (by omega)) rfl rfl ⟨Nat.le_of_ble_eq_true rfl, Nat.le_of_ble_eq_true rfl⟩ (m_strr hE hS i hq) rfl hl.1 rfl (Nat.le_of_ble_eq_true rfl) dX10_stands_91 ⟨Nat.le_of_ble_eq_true rfl, Nat.le_of_ble_eq_true rfl⟩) hS (fun r11 u H locs hw hM hS => ?_)
                  obtain ⟨rfl, xr11⟩ := hw
                  have hM : Mem D A ad ns I L G H := hM
                  have yr11 := a_and (c := 255) xr11 (by decide) (by decide)
                  refine lv_icmp_ne (tgt := 101) hx hb dX10_stands_94 (by decide) (fun c12 => ?_) (fun c12 => ?_)
                  · have hc12 := c12
                    have q12 := q_ne hc12
                    refine lv_iconst (v := (0)) hx hb dX10_stands_101 (by decide) ?_
                    refine lv_istore_n (lv' := [(3, .int (0)), (4, .int (x4_63)), (2, .int (x2_5)), (0, .ref (ad (1000))), (1, .ref (D.2 100 i))]) hx hb dX10_stands_102 rfl hl (by decide) rfl (fun ls hl => ?_)
                    obtain ⟨v13, ev13⟩ : ∃ z : Int32, z = x4_63 + Int32.ofInt (1) := ⟨_, rfl⟩
                    have tv13 := a_inc ev13 (by decide) (by omega) (by omega)
                    refine lv_iinc (v := v13) (lv' := [(4, .int (v13)), (3, .int (0)), (2, .int (x2_5)), (0, .ref (ad (1000))), (1, .ref (D.2 100 i))]) hx hb dX10_stands_103 hl (k := 1) rfl ev13.symm (by decide) rfl (fun ls hl => ?_)
                    refine lv_goto (tgt := 63) hx hb dX10_stands_106 (by decide) ?_
                    have z5 := tn (i := x4_63) (by omega)
                    have z6 := tn (i := v13) (by omega)
                    have z7 := tn (i := v10) (by omega)
                    have hix : (v10).toNatClampNeg = (I 1000 25).toNatClampNeg + (x4_63).toNatClampNeg := by omega
                    have hlt := SLX.ltr hs63 (by omega) (k := (x4_63).toNatClampNeg) (by omega)
                    have htx : TM I ((I 1000 25).toNatClampNeg + (x4_63).toNatClampNeg) = b8 (I 1034 (v10).toNatClampNeg) := by rw [← hix]; exact TXT_y (by omega)
                    have hch := congrArg Int32.toInt xr11
                    exact ih63 (v13) (0) _ _ ls (by first | omega | decide) (by first | omega | decide) (by omega) (SLX.no (k := (x4_63).toNatClampNeg) k0 (by omega) (show TM I _ ≠ (q.2.2.2.getD (x4_63).toNatClampNeg 0 &&& 255).toInt from by omega)) (by omega) hM hS (lv_sub hl [0, 1, 2, 3, 4] rfl)
                  · have hc12 := c12
                    have q12 := q_eq hc12
                    refine lv_iconst (v := (1)) hx hb dX10_stands_97 (by decide) ?_
                    refine lv_goto (tgt := 102) hx hb dX10_stands_98 (by decide) ?_
                    refine lv_istore_n (lv' := [(3, .int (1)), (4, .int (x4_63)), (2, .int (x2_5)), (0, .ref (ad (1000))), (1, .ref (D.2 100 i))]) hx hb dX10_stands_102 rfl hl (by decide) rfl (fun ls hl => ?_)
                    obtain ⟨v14, ev14⟩ : ∃ z : Int32, z = x4_63 + Int32.ofInt (1) := ⟨_, rfl⟩
                    have tv14 := a_inc ev14 (by decide) (by omega) (by omega)
                    refine lv_iinc (v := v14) (lv' := [(4, .int (v14)), (3, .int (1)), (2, .int (x2_5)), (0, .ref (ad (1000))), (1, .ref (D.2 100 i))]) hx hb dX10_stands_103 hl (k := 1) rfl ev14.symm (by decide) rfl (fun ls hl => ?_)
                    refine lv_goto (tgt := 63) hx hb dX10_stands_106 (by decide) ?_
                    have z5 := tn (i := x4_63) (by omega)
                    have z6 := tn (i := v14) (by omega)
                    have z7 := tn (i := v10) (by omega)
                    have hix : (v10).toNatClampNeg = (I 1000 25).toNatClampNeg + (x4_63).toNatClampNeg := by omega
                    have hlt := SLX.ltr hs63 (by omega) (k := (x4_63).toNatClampNeg) (by omega)
                    have htx : TM I ((I 1000 25).toNatClampNeg + (x4_63).toNatClampNeg) = b8 (I 1034 (v10).toNatClampNeg) := by rw [← hix]; exact TXT_y (by omega)
                    have hch := congrArg Int32.toInt xr11
                    exact ih63 (v14) (1) _ _ ls (by first | omega | decide) (by first | omega | decide) (by omega) (SLX.y hs63 (by omega) k1 (show TM I _ = (q.2.2.2.getD (x4_63).toNatClampNeg 0 &&& 255).toInt from by omega) (by omega)) (by omega) hM hS (lv_sub hl [0, 1, 2, 3, 4] rfl)
          exact loop63 (_ + 1) (0) (0) _ _ ls (by first | omega | decide) (by first | omega | decide) (by omega) (SLX.i0 k0 (by omega)) (Nat.lt_succ_self _) hM hS (lv_sub hl [0, 1, 2, 3, 4] rfl)
        · have hc6 := c6
          have q6 := q_eq hc6
          refine lv_iconst (v := (1)) hx hb dX10_stands_54 (by decide) ?_
          refine lv_goto (tgt := 59) hx hb dX10_stands_55 (by decide) ?_
          refine lv_istore_n (lv' := [(3, .int (1)), (2, .int (x2_5)), (0, .ref (ad (1000))), (1, .ref (D.2 100 i))]) hx hb dX10_stands_59 rfl hl (by decide) rfl (fun ls hl => ?_)
          refine lv_iconst (v := (0)) hx hb dX10_stands_60 (by decide) ?_
          refine lv_istore (lv' := [(4, .int (0)), (3, .int (1)), (2, .int (x2_5)), (0, .ref (ad (1000))), (1, .ref (D.2 100 i))]) hx hb dX10_stands_61 hl (by decide) rfl (fun ls hl => ?_)
          have loop63 : ∀ (n : Nat) (x4_63 : Int32) (x3_63 : Int32) (H : Heap) (locs : List Loc) (ls : Array Slot), (0 ≤ x4_63.toInt ∧ x4_63.toInt ≤ 16) → (0 ≤ x3_63.toInt ∧ x3_63.toInt ≤ 1) → ((x3_63).toInt = 0 ∨ (x2_5).toInt - (I 1000 25).toInt = (q.2.2.2.length : Int)) → (SLX (TM I) (I 1000 25).toNatClampNeg q.2.2.2 (x3_63).toInt (x4_63).toNatClampNeg) → (16 - x4_63.toInt).toNat < n → Mem D A ad ns I L G H → va_S A s.heap H locs → lv_has ls 5 [(4, .int (x4_63)), (3, .int (x3_63)), (2, .int (x2_5)), (0, .ref (ad (1000))), (1, .ref (D.2 100 i))] → W p l e ({ frames := 4, cells := 0, slots := 0, locals := 85 } : Room) s m args below meth c H locs 0 0 (MQ below (va_Qi (fun r u => u = (ad, ns, I, L, G) ∧ (WQX (TM I) (I 1000 25).toNatClampNeg (q.2.2.2.map b8) r ∧ 0 ≤ r.toInt ∧ r.toInt ≤ 1 ∧ Imp (r.toInt ≠ 0) ((I 1000 25).toInt + (q.2.2.2.length : Int) ≤ (I 1000 24).toInt))) (BM D A) A) args s 0 0 A) (F0 m 63 ls []) := by
            intro n
            induction n with
            | zero =>
              intro x4_63 x3_63 H locs ls hr4_63 hr3_63 he63 hs63 hmu
              exact absurd hmu (Nat.not_lt_zero _)
            | succ n ih63 =>
              intro x4_63 x3_63 H locs ls hr4_63 hr3_63 he63 hs63 hmu63 hM hS hl
              refine lv_iload hx hb dX10_stands_63 (lv_at hl 0 rfl) ?_
              refine lv_aload_n hx hb dX10_stands_65 rfl (lv_at hl 4 rfl) ?_
              refine m_calli (m_runVA (D.2 100 i) (As := []) (rest := [.int (x4_63)]) hx hb hml hown hts hE hM hS hA ce_J0_length_8abf5 tb_1519 (C_J0_length_8abf5 l D A ad ns I L G i _ hq hn) rfl rfl ⟨Nat.le_of_ble_eq_true rfl, Nat.le_of_ble_eq_true rfl⟩ (m_strr hE hS i hq) rfl hl.1 rfl (Nat.le_of_ble_eq_true rfl) dX10_stands_66 ⟨Nat.le_of_ble_eq_true rfl, Nat.le_of_ble_eq_true rfl⟩) hS (fun r15 u H locs hw hM hS => ?_)
              obtain ⟨rfl, rfl⟩ := hw
              have hM : Mem D A ad ns I L G H := hM
              refine lv_icmp_ge (tgt := 109) hx hb dX10_stands_69 (by decide) (fun c16 => ?_) (fun c16 => ?_)
              · have hc16 := c16
                have q16 := q_le hc16
                refine lv_iload_n hx hb dX10_stands_109 rfl (lv_at hl 1 rfl) ?_
                exact m_zret hx hb hr (nar01 (by omega) (by omega)).1 hlocks hM hS (Nat.le_of_ble_eq_true rfl) (Nat.le_of_ble_eq_true rfl) ⟨rfl, ⟨SLX.fin hs63 (Or.inr (by have z5 := tn (i := x4_63) (by omega); omega)), by omega, by omega, fun hz => by omega⟩⟩ dX10_stands_110
              · have hc16 := c16
                have q16 := q_nle hc16
                refine lv_iload_n hx hb dX10_stands_72 rfl (lv_at hl 1 rfl) ?_
                refine lv_if_eq (tgt := 109) hx hb dX10_stands_73 (by decide) (fun c17 => ?_) (fun c17 => ?_)
                · have hc17 := c17
                  have q17 := q_eq hc17
                  refine lv_iload_n hx hb dX10_stands_109 rfl (lv_at hl 1 rfl) ?_
                  exact m_zret hx hb hr (nar01 (by omega) (by omega)).1 hlocks hM hS (Nat.le_of_ble_eq_true rfl) (Nat.le_of_ble_eq_true rfl) ⟨rfl, ⟨SLX.fin hs63 (Or.inl (by omega)), by omega, by omega, fun hz => by omega⟩⟩ dX10_stands_110
                · have hc17 := c17
                  have q17 := q_ne hc17
                  refine lv_aload_n hx hb dX10_stands_76 rfl (lv_at hl 3 rfl) ?_
                  refine m_getr (1000) 34 (1034) hx hb hts hown hE oc10 hM hJ.1 rfl (by decide) rfl (hJ.2 34 (by decide)).2 (by decide) tb_1211 dX10_stands_77 ?_
                  refine lv_aload_n hx hb dX10_stands_80 rfl (lv_at hl 3 rfl) ?_
                  refine m_geti (1000) 25 hx hb hts hown hE oc10 hM hJ.1 rfl (by decide) rfl tb_1202 dX10_stands_81 ?_
                  refine lv_iload hx hb dX10_stands_84 (lv_at hl 0 rfl) ?_
                  refine lv_iadd hx hb dX10_stands_86 ?_
                  refine lv_topi (fun v18 ev18 => ?_)
                  have tv18 := a_add ev18 (by omega) (by omega)
                  refine m_bald (1034) hx hb hE hM (hJ.2 34 (by decide)).1 rfl (vp_in_iff.mpr (by omega)) dX10_stands_87 ?_
                  have hy87 := hbt (v18).toNatClampNeg (by have z9 := tn (i := v18) (by omega); omega)
                  have hb87 := b8_or hy87
                  refine lv_aload_n hx hb dX10_stands_88 rfl (lv_at hl 4 rfl) ?_
                  refine lv_iload hx hb dX10_stands_89 (lv_at hl 0 rfl) ?_
                  refine m_calli (m_runVA (D.2 100 i) (As := [.int (x4_63)]) (rest := [.int (I (1034) (v18).toNatClampNeg)]) hx hb hml hown hts hE hM hS hA ce_J0_charAt_5068e tb_1520 (C_J0_charAt_5068e l D A ad ns I L G i _ (x4_63) hq hn (by omega)) rfl rfl ⟨Nat.le_of_ble_eq_true rfl, Nat.le_of_ble_eq_true rfl⟩ (m_strr hE hS i hq) rfl hl.1 rfl (Nat.le_of_ble_eq_true rfl) dX10_stands_91 ⟨Nat.le_of_ble_eq_true rfl, Nat.le_of_ble_eq_true rfl⟩) hS (fun r19 u H locs hw hM hS => ?_)
                  obtain ⟨rfl, xr19⟩ := hw
                  have hM : Mem D A ad ns I L G H := hM
                  have yr19 := a_and (c := 255) xr19 (by decide) (by decide)
                  refine lv_icmp_ne (tgt := 101) hx hb dX10_stands_94 (by decide) (fun c20 => ?_) (fun c20 => ?_)
                  · have hc20 := c20
                    have q20 := q_ne hc20
                    refine lv_iconst (v := (0)) hx hb dX10_stands_101 (by decide) ?_
                    refine lv_istore_n (lv' := [(3, .int (0)), (4, .int (x4_63)), (2, .int (x2_5)), (0, .ref (ad (1000))), (1, .ref (D.2 100 i))]) hx hb dX10_stands_102 rfl hl (by decide) rfl (fun ls hl => ?_)
                    obtain ⟨v21, ev21⟩ : ∃ z : Int32, z = x4_63 + Int32.ofInt (1) := ⟨_, rfl⟩
                    have tv21 := a_inc ev21 (by decide) (by omega) (by omega)
                    refine lv_iinc (v := v21) (lv' := [(4, .int (v21)), (3, .int (0)), (2, .int (x2_5)), (0, .ref (ad (1000))), (1, .ref (D.2 100 i))]) hx hb dX10_stands_103 hl (k := 1) rfl ev21.symm (by decide) rfl (fun ls hl => ?_)
                    refine lv_goto (tgt := 63) hx hb dX10_stands_106 (by decide) ?_
                    have z5 := tn (i := x4_63) (by omega)
                    have z6 := tn (i := v21) (by omega)
                    have z7 := tn (i := v18) (by omega)
                    have hix : (v18).toNatClampNeg = (I 1000 25).toNatClampNeg + (x4_63).toNatClampNeg := by omega
                    have hlt := SLX.ltr hs63 (by omega) (k := (x4_63).toNatClampNeg) (by omega)
                    have htx : TM I ((I 1000 25).toNatClampNeg + (x4_63).toNatClampNeg) = b8 (I 1034 (v18).toNatClampNeg) := by rw [← hix]; exact TXT_y (by omega)
                    have hch := congrArg Int32.toInt xr19
                    exact ih63 (v21) (0) _ _ ls (by first | omega | decide) (by first | omega | decide) (by omega) (SLX.no (k := (x4_63).toNatClampNeg) k0 (by omega) (show TM I _ ≠ (q.2.2.2.getD (x4_63).toNatClampNeg 0 &&& 255).toInt from by omega)) (by omega) hM hS (lv_sub hl [0, 1, 2, 3, 4] rfl)
                  · have hc20 := c20
                    have q20 := q_eq hc20
                    refine lv_iconst (v := (1)) hx hb dX10_stands_97 (by decide) ?_
                    refine lv_goto (tgt := 102) hx hb dX10_stands_98 (by decide) ?_
                    refine lv_istore_n (lv' := [(3, .int (1)), (4, .int (x4_63)), (2, .int (x2_5)), (0, .ref (ad (1000))), (1, .ref (D.2 100 i))]) hx hb dX10_stands_102 rfl hl (by decide) rfl (fun ls hl => ?_)
                    obtain ⟨v22, ev22⟩ : ∃ z : Int32, z = x4_63 + Int32.ofInt (1) := ⟨_, rfl⟩
                    have tv22 := a_inc ev22 (by decide) (by omega) (by omega)
                    refine lv_iinc (v := v22) (lv' := [(4, .int (v22)), (3, .int (1)), (2, .int (x2_5)), (0, .ref (ad (1000))), (1, .ref (D.2 100 i))]) hx hb dX10_stands_103 hl (k := 1) rfl ev22.symm (by decide) rfl (fun ls hl => ?_)
                    refine lv_goto (tgt := 63) hx hb dX10_stands_106 (by decide) ?_
                    have z5 := tn (i := x4_63) (by omega)
                    have z6 := tn (i := v22) (by omega)
                    have z7 := tn (i := v18) (by omega)
                    have hix : (v18).toNatClampNeg = (I 1000 25).toNatClampNeg + (x4_63).toNatClampNeg := by omega
                    have hlt := SLX.ltr hs63 (by omega) (k := (x4_63).toNatClampNeg) (by omega)
                    have htx : TM I ((I 1000 25).toNatClampNeg + (x4_63).toNatClampNeg) = b8 (I 1034 (v18).toNatClampNeg) := by rw [← hix]; exact TXT_y (by omega)
                    have hch := congrArg Int32.toInt xr19
                    exact ih63 (v22) (1) _ _ ls (by first | omega | decide) (by first | omega | decide) (by omega) (SLX.y hs63 (by omega) k1 (show TM I _ = (q.2.2.2.getD (x4_63).toNatClampNeg 0 &&& 255).toInt from by omega) (by omega)) (by omega) hM hS (lv_sub hl [0, 1, 2, 3, 4] rfl)
          exact loop63 (_ + 1) (0) (1) _ _ ls (by first | omega | decide) (by first | omega | decide) (by omega) (SLX.i1 k1 (by omega)) (Nat.lt_succ_self _) hM hS (lv_sub hl [0, 1, 2, 3, 4] rfl)
      · have hc3 := c3
        have q3 := q_nle hc3
        refine lv_aload_n hx hb dX10_stands_13 rfl (lv_at hl 1 rfl) ?_
        refine m_getr (1000) 34 (1034) hx hb hts hown hE oc10 hM hJ.1 rfl (by decide) rfl (hJ.2 34 (by decide)).2 (by decide) tb_1211 dX10_stands_14 ?_
        refine lv_iload_n hx hb dX10_stands_17 rfl (lv_at hl 0 rfl) ?_
        refine m_bald (1034) hx hb hE hM (hJ.2 34 (by decide)).1 rfl (vp_in_iff.mpr (by omega)) dX10_stands_18 ?_
        have hy18 := hbt (x2_5).toNatClampNeg (by have z9 := tn (i := x2_5) (by omega); omega)
        have hb18 := b8_or hy18
        refine lv_bipush (v := (97)) hx hb dX10_stands_19 (by decide) ?_
        refine lv_icmp_lt (tgt := 41) hx hb dX10_stands_21 (by decide) (fun c23 => ?_) (fun c23 => ?_)
        · have hc23 := c23
          have q23 := q_lt hc23
          have z2 := tn (i := x2_5) (by omega)
          have htx : TM I (x2_5).toNatClampNeg = b8 (I 1034 (x2_5).toNatClampNeg) := TXT_y (by omega)
          have hz0 := rnl_n (P := ltr) (T := TM I) (p := (x2_5).toNatClampNeg) (ltr_f (by omega))
          have hrn := hl5
          rw [hz0] at hrn
          have z3 := tn (i := I 1000 25) (by omega)
          clear hb18
          clear htx
          refine lv_iload_n hx hb dX10_stands_41 rfl (lv_at hl 0 rfl) ?_
          refine lv_aload_n hx hb dX10_stands_42 rfl (lv_at hl 1 rfl) ?_
          refine m_geti (1000) 25 hx hb hts hown hE oc10 hM hJ.1 rfl (by decide) rfl tb_1202 dX10_stands_43 ?_
          refine lv_isub hx hb dX10_stands_46 ?_
          refine lv_topi (fun v24 ev24 => ?_)
          have tv24 := a_sub ev24 (by omega) (by omega)
          refine lv_aload_n hx hb dX10_stands_47 rfl (lv_at hl 2 rfl) ?_
          refine m_calli (m_runVA (D.2 100 i) (As := []) (rest := [.int (v24)]) hx hb hml hown hts hE hM hS hA ce_J0_length_8abf5 tb_1519 (C_J0_length_8abf5 l D A ad ns I L G i _ hq hn) rfl rfl ⟨Nat.le_of_ble_eq_true rfl, Nat.le_of_ble_eq_true rfl⟩ (m_strr hE hS i hq) rfl hl.1 rfl (Nat.le_of_ble_eq_true rfl) dX10_stands_48 ⟨Nat.le_of_ble_eq_true rfl, Nat.le_of_ble_eq_true rfl⟩) hS (fun r25 u H locs hw hM hS => ?_)
          obtain ⟨rfl, rfl⟩ := hw
          have hM : Mem D A ad ns I L G H := hM
          refine lv_icmp_ne (tgt := 58) hx hb dX10_stands_51 (by decide) (fun c26 => ?_) (fun c26 => ?_)
          · have hc26 := c26
            have q26 := q_ne hc26
            refine lv_iconst (v := (0)) hx hb dX10_stands_58 (by decide) ?_
            refine lv_istore_n (lv' := [(3, .int (0)), (2, .int (x2_5)), (0, .ref (ad (1000))), (1, .ref (D.2 100 i))]) hx hb dX10_stands_59 rfl hl (by decide) rfl (fun ls hl => ?_)
            refine lv_iconst (v := (0)) hx hb dX10_stands_60 (by decide) ?_
            refine lv_istore (lv' := [(4, .int (0)), (3, .int (0)), (2, .int (x2_5)), (0, .ref (ad (1000))), (1, .ref (D.2 100 i))]) hx hb dX10_stands_61 hl (by decide) rfl (fun ls hl => ?_)
            have loop63 : ∀ (n : Nat) (x4_63 : Int32) (x3_63 : Int32) (H : Heap) (locs : List Loc) (ls : Array Slot), (0 ≤ x4_63.toInt ∧ x4_63.toInt ≤ 16) → (0 ≤ x3_63.toInt ∧ x3_63.toInt ≤ 1) → ((x3_63).toInt = 0 ∨ (x2_5).toInt - (I 1000 25).toInt = (q.2.2.2.length : Int)) → (SLX (TM I) (I 1000 25).toNatClampNeg q.2.2.2 (x3_63).toInt (x4_63).toNatClampNeg) → (16 - x4_63.toInt).toNat < n → Mem D A ad ns I L G H → va_S A s.heap H locs → lv_has ls 5 [(4, .int (x4_63)), (3, .int (x3_63)), (2, .int (x2_5)), (0, .ref (ad (1000))), (1, .ref (D.2 100 i))] → W p l e ({ frames := 4, cells := 0, slots := 0, locals := 85 } : Room) s m args below meth c H locs 0 0 (MQ below (va_Qi (fun r u => u = (ad, ns, I, L, G) ∧ (WQX (TM I) (I 1000 25).toNatClampNeg (q.2.2.2.map b8) r ∧ 0 ≤ r.toInt ∧ r.toInt ≤ 1 ∧ Imp (r.toInt ≠ 0) ((I 1000 25).toInt + (q.2.2.2.length : Int) ≤ (I 1000 24).toInt))) (BM D A) A) args s 0 0 A) (F0 m 63 ls []) := by
              intro n
              induction n with
              | zero =>
                intro x4_63 x3_63 H locs ls hr4_63 hr3_63 he63 hs63 hmu
                exact absurd hmu (Nat.not_lt_zero _)
              | succ n ih63 =>
                intro x4_63 x3_63 H locs ls hr4_63 hr3_63 he63 hs63 hmu63 hM hS hl
                refine lv_iload hx hb dX10_stands_63 (lv_at hl 0 rfl) ?_
                refine lv_aload_n hx hb dX10_stands_65 rfl (lv_at hl 4 rfl) ?_
                refine m_calli (m_runVA (D.2 100 i) (As := []) (rest := [.int (x4_63)]) hx hb hml hown hts hE hM hS hA ce_J0_length_8abf5 tb_1519 (C_J0_length_8abf5 l D A ad ns I L G i _ hq hn) rfl rfl ⟨Nat.le_of_ble_eq_true rfl, Nat.le_of_ble_eq_true rfl⟩ (m_strr hE hS i hq) rfl hl.1 rfl (Nat.le_of_ble_eq_true rfl) dX10_stands_66 ⟨Nat.le_of_ble_eq_true rfl, Nat.le_of_ble_eq_true rfl⟩) hS (fun r27 u H locs hw hM hS => ?_)
                obtain ⟨rfl, rfl⟩ := hw
                have hM : Mem D A ad ns I L G H := hM
                refine lv_icmp_ge (tgt := 109) hx hb dX10_stands_69 (by decide) (fun c28 => ?_) (fun c28 => ?_)
                · have hc28 := c28
                  have q28 := q_le hc28
                  refine lv_iload_n hx hb dX10_stands_109 rfl (lv_at hl 1 rfl) ?_
                  exact m_zret hx hb hr (nar01 (by omega) (by omega)).1 hlocks hM hS (Nat.le_of_ble_eq_true rfl) (Nat.le_of_ble_eq_true rfl) ⟨rfl, ⟨SLX.fin hs63 (Or.inr (by have z5 := tn (i := x4_63) (by omega); omega)), by omega, by omega, fun hz => by omega⟩⟩ dX10_stands_110
                · have hc28 := c28
                  have q28 := q_nle hc28
                  refine lv_iload_n hx hb dX10_stands_72 rfl (lv_at hl 1 rfl) ?_
                  refine lv_if_eq (tgt := 109) hx hb dX10_stands_73 (by decide) (fun c29 => ?_) (fun c29 => ?_)
                  · have hc29 := c29
                    have q29 := q_eq hc29
                    refine lv_iload_n hx hb dX10_stands_109 rfl (lv_at hl 1 rfl) ?_
                    exact m_zret hx hb hr (nar01 (by omega) (by omega)).1 hlocks hM hS (Nat.le_of_ble_eq_true rfl) (Nat.le_of_ble_eq_true rfl) ⟨rfl, ⟨SLX.fin hs63 (Or.inl (by omega)), by omega, by omega, fun hz => by omega⟩⟩ dX10_stands_110
                  · have hc29 := c29
                    have q29 := q_ne hc29
                    refine lv_aload_n hx hb dX10_stands_76 rfl (lv_at hl 3 rfl) ?_
                    refine m_getr (1000) 34 (1034) hx hb hts hown hE oc10 hM hJ.1 rfl (by decide) rfl (hJ.2 34 (by decide)).2 (by decide) tb_1211 dX10_stands_77 ?_
                    refine lv_aload_n hx hb dX10_stands_80 rfl (lv_at hl 3 rfl) ?_
                    refine m_geti (1000) 25 hx hb hts hown hE oc10 hM hJ.1 rfl (by decide) rfl tb_1202 dX10_stands_81 ?_
                    refine lv_iload hx hb dX10_stands_84 (lv_at hl 0 rfl) ?_
                    refine lv_iadd hx hb dX10_stands_86 ?_
                    refine lv_topi (fun v30 ev30 => ?_)
                    have tv30 := a_add ev30 (by omega) (by omega)
                    refine m_bald (1034) hx hb hE hM (hJ.2 34 (by decide)).1 rfl (vp_in_iff.mpr (by omega)) dX10_stands_87 ?_
                    have hy87 := hbt (v30).toNatClampNeg (by have z9 := tn (i := v30) (by omega); omega)
                    have hb87 := b8_or hy87
                    refine lv_aload_n hx hb dX10_stands_88 rfl (lv_at hl 4 rfl) ?_
                    refine lv_iload hx hb dX10_stands_89 (lv_at hl 0 rfl) ?_
                    refine m_calli (m_runVA (D.2 100 i) (As := [.int (x4_63)]) (rest := [.int (I (1034) (v30).toNatClampNeg)]) hx hb hml hown hts hE hM hS hA ce_J0_charAt_5068e tb_1520 (C_J0_charAt_5068e l D A ad ns I L G i _ (x4_63) hq hn (by omega)) rfl rfl ⟨Nat.le_of_ble_eq_true rfl, Nat.le_of_ble_eq_true rfl⟩ (m_strr hE hS i hq) rfl hl.1 rfl (Nat.le_of_ble_eq_true rfl) dX10_stands_91 ⟨Nat.le_of_ble_eq_true rfl, Nat.le_of_ble_eq_true rfl⟩) hS (fun r31 u H locs hw hM hS => ?_)
                    obtain ⟨rfl, xr31⟩ := hw
                    have hM : Mem D A ad ns I L G H := hM
                    have yr31 := a_and (c := 255) xr31 (by decide) (by decide)
                    refine lv_icmp_ne (tgt := 101) hx hb dX10_stands_94 (by decide) (fun c32 => ?_) (fun c32 => ?_)
                    · have hc32 := c32
                      have q32 := q_ne hc32
                      refine lv_iconst (v := (0)) hx hb dX10_stands_101 (by decide) ?_
                      refine lv_istore_n (lv' := [(3, .int (0)), (4, .int (x4_63)), (2, .int (x2_5)), (0, .ref (ad (1000))), (1, .ref (D.2 100 i))]) hx hb dX10_stands_102 rfl hl (by decide) rfl (fun ls hl => ?_)
                      obtain ⟨v33, ev33⟩ : ∃ z : Int32, z = x4_63 + Int32.ofInt (1) := ⟨_, rfl⟩
                      have tv33 := a_inc ev33 (by decide) (by omega) (by omega)
                      refine lv_iinc (v := v33) (lv' := [(4, .int (v33)), (3, .int (0)), (2, .int (x2_5)), (0, .ref (ad (1000))), (1, .ref (D.2 100 i))]) hx hb dX10_stands_103 hl (k := 1) rfl ev33.symm (by decide) rfl (fun ls hl => ?_)
                      refine lv_goto (tgt := 63) hx hb dX10_stands_106 (by decide) ?_
                      have z5 := tn (i := x4_63) (by omega)
                      have z6 := tn (i := v33) (by omega)
                      have z7 := tn (i := v30) (by omega)
                      have hix : (v30).toNatClampNeg = (I 1000 25).toNatClampNeg + (x4_63).toNatClampNeg := by omega
                      have hlt := SLX.ltr hs63 (by omega) (k := (x4_63).toNatClampNeg) (by omega)
                      have htx : TM I ((I 1000 25).toNatClampNeg + (x4_63).toNatClampNeg) = b8 (I 1034 (v30).toNatClampNeg) := by rw [← hix]; exact TXT_y (by omega)
                      have hch := congrArg Int32.toInt xr31
                      exact ih63 (v33) (0) _ _ ls (by first | omega | decide) (by first | omega | decide) (by omega) (SLX.no (k := (x4_63).toNatClampNeg) k0 (by omega) (show TM I _ ≠ (q.2.2.2.getD (x4_63).toNatClampNeg 0 &&& 255).toInt from by omega)) (by omega) hM hS (lv_sub hl [0, 1, 2, 3, 4] rfl)
                    · have hc32 := c32
                      have q32 := q_eq hc32
                      refine lv_iconst (v := (1)) hx hb dX10_stands_97 (by decide) ?_
                      refine lv_goto (tgt := 102) hx hb dX10_stands_98 (by decide) ?_
                      refine lv_istore_n (lv' := [(3, .int (1)), (4, .int (x4_63)), (2, .int (x2_5)), (0, .ref (ad (1000))), (1, .ref (D.2 100 i))]) hx hb dX10_stands_102 rfl hl (by decide) rfl (fun ls hl => ?_)
                      obtain ⟨v34, ev34⟩ : ∃ z : Int32, z = x4_63 + Int32.ofInt (1) := ⟨_, rfl⟩
                      have tv34 := a_inc ev34 (by decide) (by omega) (by omega)
                      refine lv_iinc (v := v34) (lv' := [(4, .int (v34)), (3, .int (1)), (2, .int (x2_5)), (0, .ref (ad (1000))), (1, .ref (D.2 100 i))]) hx hb dX10_stands_103 hl (k := 1) rfl ev34.symm (by decide) rfl (fun ls hl => ?_)
                      refine lv_goto (tgt := 63) hx hb dX10_stands_106 (by decide) ?_
                      have z5 := tn (i := x4_63) (by omega)
                      have z6 := tn (i := v34) (by omega)
                      have z7 := tn (i := v30) (by omega)
                      have hix : (v30).toNatClampNeg = (I 1000 25).toNatClampNeg + (x4_63).toNatClampNeg := by omega
                      have hlt := SLX.ltr hs63 (by omega) (k := (x4_63).toNatClampNeg) (by omega)
                      have htx : TM I ((I 1000 25).toNatClampNeg + (x4_63).toNatClampNeg) = b8 (I 1034 (v30).toNatClampNeg) := by rw [← hix]; exact TXT_y (by omega)
                      have hch := congrArg Int32.toInt xr31
                      exact ih63 (v34) (1) _ _ ls (by first | omega | decide) (by first | omega | decide) (by omega) (SLX.y hs63 (by omega) k1 (show TM I _ = (q.2.2.2.getD (x4_63).toNatClampNeg 0 &&& 255).toInt from by omega) (by omega)) (by omega) hM hS (lv_sub hl [0, 1, 2, 3, 4] rfl)
            exact loop63 (_ + 1) (0) (0) _ _ ls (by first | omega | decide) (by first | omega | decide) (by omega) (SLX.i0 k0 (by omega)) (Nat.lt_succ_self _) hM hS (lv_sub hl [0, 1, 2, 3, 4] rfl)
          · have hc26 := c26
            have q26 := q_eq hc26
            refine lv_iconst (v := (1)) hx hb dX10_stands_54 (by decide) ?_
            refine lv_goto (tgt := 59) hx hb dX10_stands_55 (by decide) ?_
            refine lv_istore_n (lv' := [(3, .int (1)), (2, .int (x2_5)), (0, .ref (ad (1000))), (1, .ref (D.2 100 i))]) hx hb dX10_stands_59 rfl hl (by decide) rfl (fun ls hl => ?_)
            refine lv_iconst (v := (0)) hx hb dX10_stands_60 (by decide) ?_
            refine lv_istore (lv' := [(4, .int (0)), (3, .int (1)), (2, .int (x2_5)), (0, .ref (ad (1000))), (1, .ref (D.2 100 i))]) hx hb dX10_stands_61 hl (by decide) rfl (fun ls hl => ?_)
            have loop63 : ∀ (n : Nat) (x4_63 : Int32) (x3_63 : Int32) (H : Heap) (locs : List Loc) (ls : Array Slot), (0 ≤ x4_63.toInt ∧ x4_63.toInt ≤ 16) → (0 ≤ x3_63.toInt ∧ x3_63.toInt ≤ 1) → ((x3_63).toInt = 0 ∨ (x2_5).toInt - (I 1000 25).toInt = (q.2.2.2.length : Int)) → (SLX (TM I) (I 1000 25).toNatClampNeg q.2.2.2 (x3_63).toInt (x4_63).toNatClampNeg) → (16 - x4_63.toInt).toNat < n → Mem D A ad ns I L G H → va_S A s.heap H locs → lv_has ls 5 [(4, .int (x4_63)), (3, .int (x3_63)), (2, .int (x2_5)), (0, .ref (ad (1000))), (1, .ref (D.2 100 i))] → W p l e ({ frames := 4, cells := 0, slots := 0, locals := 85 } : Room) s m args below meth c H locs 0 0 (MQ below (va_Qi (fun r u => u = (ad, ns, I, L, G) ∧ (WQX (TM I) (I 1000 25).toNatClampNeg (q.2.2.2.map b8) r ∧ 0 ≤ r.toInt ∧ r.toInt ≤ 1 ∧ Imp (r.toInt ≠ 0) ((I 1000 25).toInt + (q.2.2.2.length : Int) ≤ (I 1000 24).toInt))) (BM D A) A) args s 0 0 A) (F0 m 63 ls []) := by
              intro n
              induction n with
              | zero =>
                intro x4_63 x3_63 H locs ls hr4_63 hr3_63 he63 hs63 hmu
                exact absurd hmu (Nat.not_lt_zero _)
              | succ n ih63 =>
                intro x4_63 x3_63 H locs ls hr4_63 hr3_63 he63 hs63 hmu63 hM hS hl
                refine lv_iload hx hb dX10_stands_63 (lv_at hl 0 rfl) ?_
                refine lv_aload_n hx hb dX10_stands_65 rfl (lv_at hl 4 rfl) ?_
                refine m_calli (m_runVA (D.2 100 i) (As := []) (rest := [.int (x4_63)]) hx hb hml hown hts hE hM hS hA ce_J0_length_8abf5 tb_1519 (C_J0_length_8abf5 l D A ad ns I L G i _ hq hn) rfl rfl ⟨Nat.le_of_ble_eq_true rfl, Nat.le_of_ble_eq_true rfl⟩ (m_strr hE hS i hq) rfl hl.1 rfl (Nat.le_of_ble_eq_true rfl) dX10_stands_66 ⟨Nat.le_of_ble_eq_true rfl, Nat.le_of_ble_eq_true rfl⟩) hS (fun r35 u H locs hw hM hS => ?_)
                obtain ⟨rfl, rfl⟩ := hw
                have hM : Mem D A ad ns I L G H := hM
                refine lv_icmp_ge (tgt := 109) hx hb dX10_stands_69 (by decide) (fun c36 => ?_) (fun c36 => ?_)
                · have hc36 := c36
                  have q36 := q_le hc36
                  refine lv_iload_n hx hb dX10_stands_109 rfl (lv_at hl 1 rfl) ?_
                  exact m_zret hx hb hr (nar01 (by omega) (by omega)).1 hlocks hM hS (Nat.le_of_ble_eq_true rfl) (Nat.le_of_ble_eq_true rfl) ⟨rfl, ⟨SLX.fin hs63 (Or.inr (by have z5 := tn (i := x4_63) (by omega); omega)), by omega, by omega, fun hz => by omega⟩⟩ dX10_stands_110
                · have hc36 := c36
                  have q36 := q_nle hc36
                  refine lv_iload_n hx hb dX10_stands_72 rfl (lv_at hl 1 rfl) ?_
                  refine lv_if_eq (tgt := 109) hx hb dX10_stands_73 (by decide) (fun c37 => ?_) (fun c37 => ?_)
                  · have hc37 := c37
                    have q37 := q_eq hc37
                    refine lv_iload_n hx hb dX10_stands_109 rfl (lv_at hl 1 rfl) ?_
                    exact m_zret hx hb hr (nar01 (by omega) (by omega)).1 hlocks hM hS (Nat.le_of_ble_eq_true rfl) (Nat.le_of_ble_eq_true rfl) ⟨rfl, ⟨SLX.fin hs63 (Or.inl (by omega)), by omega, by omega, fun hz => by omega⟩⟩ dX10_stands_110
                  · have hc37 := c37
                    have q37 := q_ne hc37
                    refine lv_aload_n hx hb dX10_stands_76 rfl (lv_at hl 3 rfl) ?_
                    refine m_getr (1000) 34 (1034) hx hb hts hown hE oc10 hM hJ.1 rfl (by decide) rfl (hJ.2 34 (by decide)).2 (by decide) tb_1211 dX10_stands_77 ?_
                    refine lv_aload_n hx hb dX10_stands_80 rfl (lv_at hl 3 rfl) ?_
                    refine m_geti (1000) 25 hx hb hts hown hE oc10 hM hJ.1 rfl (by decide) rfl tb_1202 dX10_stands_81 ?_
                    refine lv_iload hx hb dX10_stands_84 (lv_at hl 0 rfl) ?_
                    refine lv_iadd hx hb dX10_stands_86 ?_
                    refine lv_topi (fun v38 ev38 => ?_)
                    have tv38 := a_add ev38 (by omega) (by omega)
                    refine m_bald (1034) hx hb hE hM (hJ.2 34 (by decide)).1 rfl (vp_in_iff.mpr (by omega)) dX10_stands_87 ?_
                    have hy87 := hbt (v38).toNatClampNeg (by have z9 := tn (i := v38) (by omega); omega)
                    have hb87 := b8_or hy87
                    refine lv_aload_n hx hb dX10_stands_88 rfl (lv_at hl 4 rfl) ?_
                    refine lv_iload hx hb dX10_stands_89 (lv_at hl 0 rfl) ?_
                    refine m_calli (m_runVA (D.2 100 i) (As := [.int (x4_63)]) (rest := [.int (I (1034) (v38).toNatClampNeg)]) hx hb hml hown hts hE hM hS hA ce_J0_charAt_5068e tb_1520 (C_J0_charAt_5068e l D A ad ns I L G i _ (x4_63) hq hn (by omega)) rfl rfl ⟨Nat.le_of_ble_eq_true rfl, Nat.le_of_ble_eq_true rfl⟩ (m_strr hE hS i hq) rfl hl.1 rfl (Nat.le_of_ble_eq_true rfl) dX10_stands_91 ⟨Nat.le_of_ble_eq_true rfl, Nat.le_of_ble_eq_true rfl⟩) hS (fun r39 u H locs hw hM hS => ?_)
                    obtain ⟨rfl, xr39⟩ := hw
                    have hM : Mem D A ad ns I L G H := hM
                    have yr39 := a_and (c := 255) xr39 (by decide) (by decide)
                    refine lv_icmp_ne (tgt := 101) hx hb dX10_stands_94 (by decide) (fun c40 => ?_) (fun c40 => ?_)
                    · have hc40 := c40
                      have q40 := q_ne hc40
                      refine lv_iconst (v := (0)) hx hb dX10_stands_101 (by decide) ?_
                      refine lv_istore_n (lv' := [(3, .int (0)), (4, .int (x4_63)), (2, .int (x2_5)), (0, .ref (ad (1000))), (1, .ref (D.2 100 i))]) hx hb dX10_stands_102 rfl hl (by decide) rfl (fun ls hl => ?_)
                      obtain ⟨v41, ev41⟩ : ∃ z : Int32, z = x4_63 + Int32.ofInt (1) := ⟨_, rfl⟩
                      have tv41 := a_inc ev41 (by decide) (by omega) (by omega)
                      refine lv_iinc (v := v41) (lv' := [(4, .int (v41)), (3, .int (0)), (2, .int (x2_5)), (0, .ref (ad (1000))), (1, .ref (D.2 100 i))]) hx hb dX10_stands_103 hl (k := 1) rfl ev41.symm (by decide) rfl (fun ls hl => ?_)
                      refine lv_goto (tgt := 63) hx hb dX10_stands_106 (by decide) ?_
                      have z5 := tn (i := x4_63) (by omega)
                      have z6 := tn (i := v41) (by omega)
                      have z7 := tn (i := v38) (by omega)
                      have hix : (v38).toNatClampNeg = (I 1000 25).toNatClampNeg + (x4_63).toNatClampNeg := by omega
                      have hlt := SLX.ltr hs63 (by omega) (k := (x4_63).toNatClampNeg) (by omega)
                      have htx : TM I ((I 1000 25).toNatClampNeg + (x4_63).toNatClampNeg) = b8 (I 1034 (v38).toNatClampNeg) := by rw [← hix]; exact TXT_y (by omega)
                      have hch := congrArg Int32.toInt xr39
                      exact ih63 (v41) (0) _ _ ls (by first | omega | decide) (by first | omega | decide) (by omega) (SLX.no (k := (x4_63).toNatClampNeg) k0 (by omega) (show TM I _ ≠ (q.2.2.2.getD (x4_63).toNatClampNeg 0 &&& 255).toInt from by omega)) (by omega) hM hS (lv_sub hl [0, 1, 2, 3, 4] rfl)
                    · have hc40 := c40
                      have q40 := q_eq hc40
                      refine lv_iconst (v := (1)) hx hb dX10_stands_97 (by decide) ?_
                      refine lv_goto (tgt := 102) hx hb dX10_stands_98 (by decide) ?_
                      refine lv_istore_n (lv' := [(3, .int (1)), (4, .int (x4_63)), (2, .int (x2_5)), (0, .ref (ad (1000))), (1, .ref (D.2 100 i))]) hx hb dX10_stands_102 rfl hl (by decide) rfl (fun ls hl => ?_)
                      obtain ⟨v42, ev42⟩ : ∃ z : Int32, z = x4_63 + Int32.ofInt (1) := ⟨_, rfl⟩
                      have tv42 := a_inc ev42 (by decide) (by omega) (by omega)
                      refine lv_iinc (v := v42) (lv' := [(4, .int (v42)), (3, .int (1)), (2, .int (x2_5)), (0, .ref (ad (1000))), (1, .ref (D.2 100 i))]) hx hb dX10_stands_103 hl (k := 1) rfl ev42.symm (by decide) rfl (fun ls hl => ?_)
                      refine lv_goto (tgt := 63) hx hb dX10_stands_106 (by decide) ?_
                      have z5 := tn (i := x4_63) (by omega)
                      have z6 := tn (i := v42) (by omega)
                      have z7 := tn (i := v38) (by omega)
                      have hix : (v38).toNatClampNeg = (I 1000 25).toNatClampNeg + (x4_63).toNatClampNeg := by omega
                      have hlt := SLX.ltr hs63 (by omega) (k := (x4_63).toNatClampNeg) (by omega)
                      have htx : TM I ((I 1000 25).toNatClampNeg + (x4_63).toNatClampNeg) = b8 (I 1034 (v38).toNatClampNeg) := by rw [← hix]; exact TXT_y (by omega)
                      have hch := congrArg Int32.toInt xr39
                      exact ih63 (v42) (1) _ _ ls (by first | omega | decide) (by first | omega | decide) (by omega) (SLX.y hs63 (by omega) k1 (show TM I _ = (q.2.2.2.getD (x4_63).toNatClampNeg 0 &&& 255).toInt from by omega) (by omega)) (by omega) hM hS (lv_sub hl [0, 1, 2, 3, 4] rfl)
            exact loop63 (_ + 1) (0) (1) _ _ ls (by first | omega | decide) (by first | omega | decide) (by omega) (SLX.i1 k1 (by omega)) (Nat.lt_succ_self _) hM hS (lv_sub hl [0, 1, 2, 3, 4] rfl)
        · have hc23 := c23
          have q23 := q_nlt hc23
          refine lv_aload_n hx hb dX10_stands_24 rfl (lv_at hl 1 rfl) ?_
          refine m_getr (1000) 34 (1034) hx hb hts hown hE oc10 hM hJ.1 rfl (by decide) rfl (hJ.2 34 (by decide)).2 (by decide) tb_1211 dX10_stands_25 ?_
          refine lv_iload_n hx hb dX10_stands_28 rfl (lv_at hl 0 rfl) ?_
          refine m_bald (1034) hx hb hE hM (hJ.2 34 (by decide)).1 rfl (vp_in_iff.mpr (by omega)) dX10_stands_29 ?_
          have hy29 := hbt (x2_5).toNatClampNeg (by have z9 := tn (i := x2_5) (by omega); omega)
          have hb29 := b8_or hy29
          refine lv_bipush (v := (122)) hx hb dX10_stands_30 (by decide) ?_
          refine lv_icmp_gt (tgt := 41) hx hb dX10_stands_32 (by decide) (fun c43 => ?_) (fun c43 => ?_)
          · have hc43 := c43
            have q43 := q_lt hc43
            have z2 := tn (i := x2_5) (by omega)
            have htx : TM I (x2_5).toNatClampNeg = b8 (I 1034 (x2_5).toNatClampNeg) := TXT_y (by omega)
            have hz0 := rnl_n (P := ltr) (T := TM I) (p := (x2_5).toNatClampNeg) (ltr_f (by omega))
            have hrn := hl5
            rw [hz0] at hrn
            have z3 := tn (i := I 1000 25) (by omega)
            clear hb18 hb29
            clear htx
            refine lv_iload_n hx hb dX10_stands_41 rfl (lv_at hl 0 rfl) ?_
            refine lv_aload_n hx hb dX10_stands_42 rfl (lv_at hl 1 rfl) ?_
            refine m_geti (1000) 25 hx hb hts hown hE oc10 hM hJ.1 rfl (by decide) rfl tb_1202 dX10_stands_43 ?_
            refine lv_isub hx hb dX10_stands_46 ?_
            refine lv_topi (fun v44 ev44 => ?_)
            have tv44 := a_sub ev44 (by omega) (by omega)
            refine lv_aload_n hx hb dX10_stands_47 rfl (lv_at hl 2 rfl) ?_
            refine m_calli (m_runVA (D.2 100 i) (As := []) (rest := [.int (v44)]) hx hb hml hown hts hE hM hS hA ce_J0_length_8abf5 tb_1519 (C_J0_length_8abf5 l D A ad ns I L G i _ hq hn) rfl rfl ⟨Nat.le_of_ble_eq_true rfl, Nat.le_of_ble_eq_true rfl⟩ (m_strr hE hS i hq) rfl hl.1 rfl (Nat.le_of_ble_eq_true rfl) dX10_stands_48 ⟨Nat.le_of_ble_eq_true rfl, Nat.le_of_ble_eq_true rfl⟩) hS (fun r45 u H locs hw hM hS => ?_)
            obtain ⟨rfl, rfl⟩ := hw
            have hM : Mem D A ad ns I L G H := hM
            refine lv_icmp_ne (tgt := 58) hx hb dX10_stands_51 (by decide) (fun c46 => ?_) (fun c46 => ?_)
            · have hc46 := c46
              have q46 := q_ne hc46
              refine lv_iconst (v := (0)) hx hb dX10_stands_58 (by decide) ?_
              refine lv_istore_n (lv' := [(3, .int (0)), (2, .int (x2_5)), (0, .ref (ad (1000))), (1, .ref (D.2 100 i))]) hx hb dX10_stands_59 rfl hl (by decide) rfl (fun ls hl => ?_)
              refine lv_iconst (v := (0)) hx hb dX10_stands_60 (by decide) ?_
              refine lv_istore (lv' := [(4, .int (0)), (3, .int (0)), (2, .int (x2_5)), (0, .ref (ad (1000))), (1, .ref (D.2 100 i))]) hx hb dX10_stands_61 hl (by decide) rfl (fun ls hl => ?_)
              have loop63 : ∀ (n : Nat) (x4_63 : Int32) (x3_63 : Int32) (H : Heap) (locs : List Loc) (ls : Array Slot), (0 ≤ x4_63.toInt ∧ x4_63.toInt ≤ 16) → (0 ≤ x3_63.toInt ∧ x3_63.toInt ≤ 1) → ((x3_63).toInt = 0 ∨ (x2_5).toInt - (I 1000 25).toInt = (q.2.2.2.length : Int)) → (SLX (TM I) (I 1000 25).toNatClampNeg q.2.2.2 (x3_63).toInt (x4_63).toNatClampNeg) → (16 - x4_63.toInt).toNat < n → Mem D A ad ns I L G H → va_S A s.heap H locs → lv_has ls 5 [(4, .int (x4_63)), (3, .int (x3_63)), (2, .int (x2_5)), (0, .ref (ad (1000))), (1, .ref (D.2 100 i))] → W p l e ({ frames := 4, cells := 0, slots := 0, locals := 85 } : Room) s m args below meth c H locs 0 0 (MQ below (va_Qi (fun r u => u = (ad, ns, I, L, G) ∧ (WQX (TM I) (I 1000 25).toNatClampNeg (q.2.2.2.map b8) r ∧ 0 ≤ r.toInt ∧ r.toInt ≤ 1 ∧ Imp (r.toInt ≠ 0) ((I 1000 25).toInt + (q.2.2.2.length : Int) ≤ (I 1000 24).toInt))) (BM D A) A) args s 0 0 A) (F0 m 63 ls []) := by
                intro n
                induction n with
                | zero =>
                  intro x4_63 x3_63 H locs ls hr4_63 hr3_63 he63 hs63 hmu
                  exact absurd hmu (Nat.not_lt_zero _)
                | succ n ih63 =>
                  intro x4_63 x3_63 H locs ls hr4_63 hr3_63 he63 hs63 hmu63 hM hS hl
                  refine lv_iload hx hb dX10_stands_63 (lv_at hl 0 rfl) ?_
                  refine lv_aload_n hx hb dX10_stands_65 rfl (lv_at hl 4 rfl) ?_
                  refine m_calli (m_runVA (D.2 100 i) (As := []) (rest := [.int (x4_63)]) hx hb hml hown hts hE hM hS hA ce_J0_length_8abf5 tb_1519 (C_J0_length_8abf5 l D A ad ns I L G i _ hq hn) rfl rfl ⟨Nat.le_of_ble_eq_true rfl, Nat.le_of_ble_eq_true rfl⟩ (m_strr hE hS i hq) rfl hl.1 rfl (Nat.le_of_ble_eq_true rfl) dX10_stands_66 ⟨Nat.le_of_ble_eq_true rfl, Nat.le_of_ble_eq_true rfl⟩) hS (fun r47 u H locs hw hM hS => ?_)
                  obtain ⟨rfl, rfl⟩ := hw
                  have hM : Mem D A ad ns I L G H := hM
                  refine lv_icmp_ge (tgt := 109) hx hb dX10_stands_69 (by decide) (fun c48 => ?_) (fun c48 => ?_)
                  · have hc48 := c48
                    have q48 := q_le hc48
                    refine lv_iload_n hx hb dX10_stands_109 rfl (lv_at hl 1 rfl) ?_
                    exact m_zret hx hb hr (nar01 (by omega) (by omega)).1 hlocks hM hS (Nat.le_of_ble_eq_true rfl) (Nat.le_of_ble_eq_true rfl) ⟨rfl, ⟨SLX.fin hs63 (Or.inr (by have z5 := tn (i := x4_63) (by omega); omega)), by omega, by omega, fun hz => by omega⟩⟩ dX10_stands_110
                  · have hc48 := c48
                    have q48 := q_nle hc48
                    refine lv_iload_n hx hb dX10_stands_72 rfl (lv_at hl 1 rfl) ?_
                    refine lv_if_eq (tgt := 109) hx hb dX10_stands_73 (by decide) (fun c49 => ?_) (fun c49 => ?_)
                    · have hc49 := c49
                      have q49 := q_eq hc49
                      refine lv_iload_n hx hb dX10_stands_109 rfl (lv_at hl 1 rfl) ?_
                      exact m_zret hx hb hr (nar01 (by omega) (by omega)).1 hlocks hM hS (Nat.le_of_ble_eq_true rfl) (Nat.le_of_ble_eq_true rfl) ⟨rfl, ⟨SLX.fin hs63 (Or.inl (by omega)), by omega, by omega, fun hz => by omega⟩⟩ dX10_stands_110
                    · have hc49 := c49
                      have q49 := q_ne hc49
                      refine lv_aload_n hx hb dX10_stands_76 rfl (lv_at hl 3 rfl) ?_
                      refine m_getr (1000) 34 (1034) hx hb hts hown hE oc10 hM hJ.1 rfl (by decide) rfl (hJ.2 34 (by decide)).2 (by decide) tb_1211 dX10_stands_77 ?_
                      refine lv_aload_n hx hb dX10_stands_80 rfl (lv_at hl 3 rfl) ?_
                      refine m_geti (1000) 25 hx hb hts hown hE oc10 hM hJ.1 rfl (by decide) rfl tb_1202 dX10_stands_81 ?_
                      refine lv_iload hx hb dX10_stands_84 (lv_at hl 0 rfl) ?_
                      refine lv_iadd hx hb dX10_stands_86 ?_
                      refine lv_topi (fun v50 ev50 => ?_)
                      have tv50 := a_add ev50 (by omega) (by omega)
                      refine m_bald (1034) hx hb hE hM (hJ.2 34 (by decide)).1 rfl (vp_in_iff.mpr (by omega)) dX10_stands_87 ?_
                      have hy87 := hbt (v50).toNatClampNeg (by have z9 := tn (i := v50) (by omega); omega)
                      have hb87 := b8_or hy87
                      refine lv_aload_n hx hb dX10_stands_88 rfl (lv_at hl 4 rfl) ?_
                      refine lv_iload hx hb dX10_stands_89 (lv_at hl 0 rfl) ?_
                      refine m_calli (m_runVA (D.2 100 i) (As := [.int (x4_63)]) (rest := [.int (I (1034) (v50).toNatClampNeg)]) hx hb hml hown hts hE hM hS hA ce_J0_charAt_5068e tb_1520 (C_J0_charAt_5068e l D A ad ns I L G i _ (x4_63) hq hn (by omega)) rfl rfl ⟨Nat.le_of_ble_eq_true rfl, Nat.le_of_ble_eq_true rfl⟩ (m_strr hE hS i hq) rfl hl.1 rfl (Nat.le_of_ble_eq_true rfl) dX10_stands_91 ⟨Nat.le_of_ble_eq_true rfl, Nat.le_of_ble_eq_true rfl⟩) hS (fun r51 u H locs hw hM hS => ?_)
                      obtain ⟨rfl, xr51⟩ := hw
                      have hM : Mem D A ad ns I L G H := hM
                      have yr51 := a_and (c := 255) xr51 (by decide) (by decide)
                      refine lv_icmp_ne (tgt := 101) hx hb dX10_stands_94 (by decide) (fun c52 => ?_) (fun c52 => ?_)
                      · have hc52 := c52
                        have q52 := q_ne hc52
                        refine lv_iconst (v := (0)) hx hb dX10_stands_101 (by decide) ?_
                        refine lv_istore_n (lv' := [(3, .int (0)), (4, .int (x4_63)), (2, .int (x2_5)), (0, .ref (ad (1000))), (1, .ref (D.2 100 i))]) hx hb dX10_stands_102 rfl hl (by decide) rfl (fun ls hl => ?_)
                        obtain ⟨v53, ev53⟩ : ∃ z : Int32, z = x4_63 + Int32.ofInt (1) := ⟨_, rfl⟩
                        have tv53 := a_inc ev53 (by decide) (by omega) (by omega)
                        refine lv_iinc (v := v53) (lv' := [(4, .int (v53)), (3, .int (0)), (2, .int (x2_5)), (0, .ref (ad (1000))), (1, .ref (D.2 100 i))]) hx hb dX10_stands_103 hl (k := 1) rfl ev53.symm (by decide) rfl (fun ls hl => ?_)
                        refine lv_goto (tgt := 63) hx hb dX10_stands_106 (by decide) ?_
                        have z5 := tn (i := x4_63) (by omega)
                        have z6 := tn (i := v53) (by omega)
                        have z7 := tn (i := v50) (by omega)
                        have hix : (v50).toNatClampNeg = (I 1000 25).toNatClampNeg + (x4_63).toNatClampNeg := by omega
                        have hlt := SLX.ltr hs63 (by omega) (k := (x4_63).toNatClampNeg) (by omega)
                        have htx : TM I ((I 1000 25).toNatClampNeg + (x4_63).toNatClampNeg) = b8 (I 1034 (v50).toNatClampNeg) := by rw [← hix]; exact TXT_y (by omega)
                        have hch := congrArg Int32.toInt xr51
                        exact ih63 (v53) (0) _ _ ls (by first | omega | decide) (by first | omega | decide) (by omega) (SLX.no (k := (x4_63).toNatClampNeg) k0 (by omega) (show TM I _ ≠ (q.2.2.2.getD (x4_63).toNatClampNeg 0 &&& 255).toInt from by omega)) (by omega) hM hS (lv_sub hl [0, 1, 2, 3, 4] rfl)
                      · have hc52 := c52
                        have q52 := q_eq hc52
                        refine lv_iconst (v := (1)) hx hb dX10_stands_97 (by decide) ?_
                        refine lv_goto (tgt := 102) hx hb dX10_stands_98 (by decide) ?_
                        refine lv_istore_n (lv' := [(3, .int (1)), (4, .int (x4_63)), (2, .int (x2_5)), (0, .ref (ad (1000))), (1, .ref (D.2 100 i))]) hx hb dX10_stands_102 rfl hl (by decide) rfl (fun ls hl => ?_)
                        obtain ⟨v54, ev54⟩ : ∃ z : Int32, z = x4_63 + Int32.ofInt (1) := ⟨_, rfl⟩
                        have tv54 := a_inc ev54 (by decide) (by omega) (by omega)
                        refine lv_iinc (v := v54) (lv' := [(4, .int (v54)), (3, .int (1)), (2, .int (x2_5)), (0, .ref (ad (1000))), (1, .ref (D.2 100 i))]) hx hb dX10_stands_103 hl (k := 1) rfl ev54.symm (by decide) rfl (fun ls hl => ?_)
                        refine lv_goto (tgt := 63) hx hb dX10_stands_106 (by decide) ?_
                        have z5 := tn (i := x4_63) (by omega)
                        have z6 := tn (i := v54) (by omega)
                        have z7 := tn (i := v50) (by omega)
                        have hix : (v50).toNatClampNeg = (I 1000 25).toNatClampNeg + (x4_63).toNatClampNeg := by omega
                        have hlt := SLX.ltr hs63 (by omega) (k := (x4_63).toNatClampNeg) (by omega)
                        have htx : TM I ((I 1000 25).toNatClampNeg + (x4_63).toNatClampNeg) = b8 (I 1034 (v50).toNatClampNeg) := by rw [← hix]; exact TXT_y (by omega)
                        have hch := congrArg Int32.toInt xr51
                        exact ih63 (v54) (1) _ _ ls (by first | omega | decide) (by first | omega | decide) (by omega) (SLX.y hs63 (by omega) k1 (show TM I _ = (q.2.2.2.getD (x4_63).toNatClampNeg 0 &&& 255).toInt from by omega) (by omega)) (by omega) hM hS (lv_sub hl [0, 1, 2, 3, 4] rfl)
              exact loop63 (_ + 1) (0) (0) _ _ ls (by first | omega | decide) (by first | omega | decide) (by omega) (SLX.i0 k0 (by omega)) (Nat.lt_succ_self _) hM hS (lv_sub hl [0, 1, 2, 3, 4] rfl)
            · have hc46 := c46
              have q46 := q_eq hc46
              refine lv_iconst (v := (1)) hx hb dX10_stands_54 (by decide) ?_
              refine lv_goto (tgt := 59) hx hb dX10_stands_55 (by decide) ?_
              refine lv_istore_n (lv' := [(3, .int (1)), (2, .int (x2_5)), (0, .ref (ad (1000))), (1, .ref (D.2 100 i))]) hx hb dX10_stands_59 rfl hl (by decide) rfl (fun ls hl => ?_)
              refine lv_iconst (v := (0)) hx hb dX10_stands_60 (by decide) ?_
              refine lv_istore (lv' := [(4, .int (0)), (3, .int (1)), (2, .int (x2_5)), (0, .ref (ad (1000))), (1, .ref (D.2 100 i))]) hx hb dX10_stands_61 hl (by decide) rfl (fun ls hl => ?_)
              have loop63 : ∀ (n : Nat) (x4_63 : Int32) (x3_63 : Int32) (H : Heap) (locs : List Loc) (ls : Array Slot), (0 ≤ x4_63.toInt ∧ x4_63.toInt ≤ 16) → (0 ≤ x3_63.toInt ∧ x3_63.toInt ≤ 1) → ((x3_63).toInt = 0 ∨ (x2_5).toInt - (I 1000 25).toInt = (q.2.2.2.length : Int)) → (SLX (TM I) (I 1000 25).toNatClampNeg q.2.2.2 (x3_63).toInt (x4_63).toNatClampNeg) → (16 - x4_63.toInt).toNat < n → Mem D A ad ns I L G H → va_S A s.heap H locs → lv_has ls 5 [(4, .int (x4_63)), (3, .int (x3_63)), (2, .int (x2_5)), (0, .ref (ad (1000))), (1, .ref (D.2 100 i))] → W p l e ({ frames := 4, cells := 0, slots := 0, locals := 85 } : Room) s m args below meth c H locs 0 0 (MQ below (va_Qi (fun r u => u = (ad, ns, I, L, G) ∧ (WQX (TM I) (I 1000 25).toNatClampNeg (q.2.2.2.map b8) r ∧ 0 ≤ r.toInt ∧ r.toInt ≤ 1 ∧ Imp (r.toInt ≠ 0) ((I 1000 25).toInt + (q.2.2.2.length : Int) ≤ (I 1000 24).toInt))) (BM D A) A) args s 0 0 A) (F0 m 63 ls []) := by
                intro n
                induction n with
                | zero =>
                  intro x4_63 x3_63 H locs ls hr4_63 hr3_63 he63 hs63 hmu
                  exact absurd hmu (Nat.not_lt_zero _)
                | succ n ih63 =>
                  intro x4_63 x3_63 H locs ls hr4_63 hr3_63 he63 hs63 hmu63 hM hS hl
                  refine lv_iload hx hb dX10_stands_63 (lv_at hl 0 rfl) ?_
                  refine lv_aload_n hx hb dX10_stands_65 rfl (lv_at hl 4 rfl) ?_
                  refine m_calli (m_runVA (D.2 100 i) (As := []) (rest := [.int (x4_63)]) hx hb hml hown hts hE hM hS hA ce_J0_length_8abf5 tb_1519 (C_J0_length_8abf5 l D A ad ns I L G i _ hq hn) rfl rfl ⟨Nat.le_of_ble_eq_true rfl, Nat.le_of_ble_eq_true rfl⟩ (m_strr hE hS i hq) rfl hl.1 rfl (Nat.le_of_ble_eq_true rfl) dX10_stands_66 ⟨Nat.le_of_ble_eq_true rfl, Nat.le_of_ble_eq_true rfl⟩) hS (fun r55 u H locs hw hM hS => ?_)
                  obtain ⟨rfl, rfl⟩ := hw
                  have hM : Mem D A ad ns I L G H := hM
                  refine lv_icmp_ge (tgt := 109) hx hb dX10_stands_69 (by decide) (fun c56 => ?_) (fun c56 => ?_)
                  · have hc56 := c56
                    have q56 := q_le hc56
                    refine lv_iload_n hx hb dX10_stands_109 rfl (lv_at hl 1 rfl) ?_
                    exact m_zret hx hb hr (nar01 (by omega) (by omega)).1 hlocks hM hS (Nat.le_of_ble_eq_true rfl) (Nat.le_of_ble_eq_true rfl) ⟨rfl, ⟨SLX.fin hs63 (Or.inr (by have z5 := tn (i := x4_63) (by omega); omega)), by omega, by omega, fun hz => by omega⟩⟩ dX10_stands_110
                  · have hc56 := c56
                    have q56 := q_nle hc56
                    refine lv_iload_n hx hb dX10_stands_72 rfl (lv_at hl 1 rfl) ?_
                    refine lv_if_eq (tgt := 109) hx hb dX10_stands_73 (by decide) (fun c57 => ?_) (fun c57 => ?_)
                    · have hc57 := c57
                      have q57 := q_eq hc57
                      refine lv_iload_n hx hb dX10_stands_109 rfl (lv_at hl 1 rfl) ?_
                      exact m_zret hx hb hr (nar01 (by omega) (by omega)).1 hlocks hM hS (Nat.le_of_ble_eq_true rfl) (Nat.le_of_ble_eq_true rfl) ⟨rfl, ⟨SLX.fin hs63 (Or.inl (by omega)), by omega, by omega, fun hz => by omega⟩⟩ dX10_stands_110
                    · have hc57 := c57
                      have q57 := q_ne hc57
                      refine lv_aload_n hx hb dX10_stands_76 rfl (lv_at hl 3 rfl) ?_
                      refine m_getr (1000) 34 (1034) hx hb hts hown hE oc10 hM hJ.1 rfl (by decide) rfl (hJ.2 34 (by decide)).2 (by decide) tb_1211 dX10_stands_77 ?_
                      refine lv_aload_n hx hb dX10_stands_80 rfl (lv_at hl 3 rfl) ?_
                      refine m_geti (1000) 25 hx hb hts hown hE oc10 hM hJ.1 rfl (by decide) rfl tb_1202 dX10_stands_81 ?_
                      refine lv_iload hx hb dX10_stands_84 (lv_at hl 0 rfl) ?_
                      refine lv_iadd hx hb dX10_stands_86 ?_
                      refine lv_topi (fun v58 ev58 => ?_)
                      have tv58 := a_add ev58 (by omega) (by omega)
                      refine m_bald (1034) hx hb hE hM (hJ.2 34 (by decide)).1 rfl (vp_in_iff.mpr (by omega)) dX10_stands_87 ?_
                      have hy87 := hbt (v58).toNatClampNeg (by have z9 := tn (i := v58) (by omega); omega)
                      have hb87 := b8_or hy87
                      refine lv_aload_n hx hb dX10_stands_88 rfl (lv_at hl 4 rfl) ?_
                      refine lv_iload hx hb dX10_stands_89 (lv_at hl 0 rfl) ?_
                      refine m_calli (m_runVA (D.2 100 i) (As := [.int (x4_63)]) (rest := [.int (I (1034) (v58).toNatClampNeg)]) hx hb hml hown hts hE hM hS hA ce_J0_charAt_5068e tb_1520 (C_J0_charAt_5068e l D A ad ns I L G i _ (x4_63) hq hn (by omega)) rfl rfl ⟨Nat.le_of_ble_eq_true rfl, Nat.le_of_ble_eq_true rfl⟩ (m_strr hE hS i hq) rfl hl.1 rfl (Nat.le_of_ble_eq_true rfl) dX10_stands_91 ⟨Nat.le_of_ble_eq_true rfl, Nat.le_of_ble_eq_true rfl⟩) hS (fun r59 u H locs hw hM hS => ?_)
                      obtain ⟨rfl, xr59⟩ := hw
                      have hM : Mem D A ad ns I L G H := hM
                      have yr59 := a_and (c := 255) xr59 (by decide) (by decide)
                      refine lv_icmp_ne (tgt := 101) hx hb dX10_stands_94 (by decide) (fun c60 => ?_) (fun c60 => ?_)
                      · have hc60 := c60
                        have q60 := q_ne hc60
                        refine lv_iconst (v := (0)) hx hb dX10_stands_101 (by decide) ?_
                        refine lv_istore_n (lv' := [(3, .int (0)), (4, .int (x4_63)), (2, .int (x2_5)), (0, .ref (ad (1000))), (1, .ref (D.2 100 i))]) hx hb dX10_stands_102 rfl hl (by decide) rfl (fun ls hl => ?_)
                        obtain ⟨v61, ev61⟩ : ∃ z : Int32, z = x4_63 + Int32.ofInt (1) := ⟨_, rfl⟩
                        have tv61 := a_inc ev61 (by decide) (by omega) (by omega)
                        refine lv_iinc (v := v61) (lv' := [(4, .int (v61)), (3, .int (0)), (2, .int (x2_5)), (0, .ref (ad (1000))), (1, .ref (D.2 100 i))]) hx hb dX10_stands_103 hl (k := 1) rfl ev61.symm (by decide) rfl (fun ls hl => ?_)
                        refine lv_goto (tgt := 63) hx hb dX10_stands_106 (by decide) ?_
                        have z5 := tn (i := x4_63) (by omega)
                        have z6 := tn (i := v61) (by omega)
                        have z7 := tn (i := v58) (by omega)
                        have hix : (v58).toNatClampNeg = (I 1000 25).toNatClampNeg + (x4_63).toNatClampNeg := by omega
                        have hlt := SLX.ltr hs63 (by omega) (k := (x4_63).toNatClampNeg) (by omega)
                        have htx : TM I ((I 1000 25).toNatClampNeg + (x4_63).toNatClampNeg) = b8 (I 1034 (v58).toNatClampNeg) := by rw [← hix]; exact TXT_y (by omega)
                        have hch := congrArg Int32.toInt xr59
                        exact ih63 (v61) (0) _ _ ls (by first | omega | decide) (by first | omega | decide) (by omega) (SLX.no (k := (x4_63).toNatClampNeg) k0 (by omega) (show TM I _ ≠ (q.2.2.2.getD (x4_63).toNatClampNeg 0 &&& 255).toInt from by omega)) (by omega) hM hS (lv_sub hl [0, 1, 2, 3, 4] rfl)
                      · have hc60 := c60
                        have q60 := q_eq hc60
                        refine lv_iconst (v := (1)) hx hb dX10_stands_97 (by decide) ?_
                        refine lv_goto (tgt := 102) hx hb dX10_stands_98 (by decide) ?_
                        refine lv_istore_n (lv' := [(3, .int (1)), (4, .int (x4_63)), (2, .int (x2_5)), (0, .ref (ad (1000))), (1, .ref (D.2 100 i))]) hx hb dX10_stands_102 rfl hl (by decide) rfl (fun ls hl => ?_)
                        obtain ⟨v62, ev62⟩ : ∃ z : Int32, z = x4_63 + Int32.ofInt (1) := ⟨_, rfl⟩
                        have tv62 := a_inc ev62 (by decide) (by omega) (by omega)
                        refine lv_iinc (v := v62) (lv' := [(4, .int (v62)), (3, .int (1)), (2, .int (x2_5)), (0, .ref (ad (1000))), (1, .ref (D.2 100 i))]) hx hb dX10_stands_103 hl (k := 1) rfl ev62.symm (by decide) rfl (fun ls hl => ?_)
                        refine lv_goto (tgt := 63) hx hb dX10_stands_106 (by decide) ?_
                        have z5 := tn (i := x4_63) (by omega)
                        have z6 := tn (i := v62) (by omega)
                        have z7 := tn (i := v58) (by omega)
                        have hix : (v58).toNatClampNeg = (I 1000 25).toNatClampNeg + (x4_63).toNatClampNeg := by omega
                        have hlt := SLX.ltr hs63 (by omega) (k := (x4_63).toNatClampNeg) (by omega)
                        have htx : TM I ((I 1000 25).toNatClampNeg + (x4_63).toNatClampNeg) = b8 (I 1034 (v58).toNatClampNeg) := by rw [← hix]; exact TXT_y (by omega)
                        have hch := congrArg Int32.toInt xr59
                        exact ih63 (v62) (1) _ _ ls (by first | omega | decide) (by first | omega | decide) (by omega) (SLX.y hs63 (by omega) k1 (show TM I _ = (q.2.2.2.getD (x4_63).toNatClampNeg 0 &&& 255).toInt from by omega) (by omega)) (by omega) hM hS (lv_sub hl [0, 1, 2, 3, 4] rfl)
              exact loop63 (_ + 1) (0) (1) _ _ ls (by first | omega | decide) (by first | omega | decide) (by omega) (SLX.i1 k1 (by omega)) (Nat.lt_succ_self _) hM hS (lv_sub hl [0, 1, 2, 3, 4] rfl)
          · have hc43 := c43
            have q43 := q_nlt hc43
            obtain ⟨v63, ev63⟩ : ∃ z : Int32, z = x2_5 + Int32.ofInt (1) := ⟨_, rfl⟩
            have tv63 := a_inc ev63 (by decide) (by omega) (by omega)
            refine lv_iinc (v := v63) (lv' := [(2, .int (v63)), (0, .ref (ad (1000))), (1, .ref (D.2 100 i))]) hx hb dX10_stands_35 hl (k := 0) rfl ev63.symm (by decide) rfl (fun ls hl => ?_)
            refine lv_goto (tgt := 5) hx hb dX10_stands_38 (by decide) ?_
            have z2 := tn (i := x2_5) (by omega)
            have z4 := tn (i := v63) (by omega)
            have htx : TM I (x2_5).toNatClampNeg = b8 (I 1034 (x2_5).toNatClampNeg) := TXT_y (by omega)
            have hry := rnl_y (P := ltr) (T := TM I) (p := (x2_5).toNatClampNeg) (by omega) (ltr_t (by omega))
            exact ih5 (v63) _ _ ls (by first | omega | decide) (by omega) (by rw [show (v63).toNatClampNeg = (x2_5).toNatClampNeg + 1 from by omega]; omega) (by omega) hM hS (lv_sub hl [0, 1, 2] rfl)
  exact loop5 (_ + 1) (I (1000) 25) _ _ ls (by first | omega | decide) (by omega) rfl (Nat.lt_succ_self _) hM hS (lv_sub hl [0, 1, 2] rfl)
set_option maxHeartbeats 4000000 in
set_option maxRecDepth 20000 in
theorem V_X10_takes_h (l : Launch) (D : va_G) (A : Nat → Prop) (ad : Nat → Nat) (ns : List Nat) (I : MI) (L : ML) (G : MG) (i : Nat) (q : String × Nat × String × List Int32) (hJ : SGM ns G) (hI : INV I) (hq : sq[i]? = some q) (hn : q.2.2.2.length < 16) (hn1 : 1 ≤ q.2.2.2.length) (hbt : BTM I) (hp : (I 1000 25).toInt ≤ 400) : Met l yX10_takes (wd yX10_takes cX10_takes 3 (some .boolean)) ({ frames := 5, cells := 0, slots := 0, locals := 109 }) (va_Pc [.ref (ad (1000)), .ref (D.2 100 i)] (PM D A ad ns I L G)) (va_Qi (fun r u => ∃ I2 L2, u = (ad, ns, I2, L2, G) ∧ INV I2 ∧ Kp [] [(1000, 25)] I I2 ∧ (TKX (TM I) I I2 (q.2.2.2.map b8) r ∧ 0 ≤ r.toInt ∧ r.toInt ≤ 1 ∧ (I 1000 25).toInt ≤ (I2 1000 25).toInt ∧ (I2 1000 25).toInt ≤ 400)) (BM D A) A) 0 0 A := by
  refine m_ofW (by decide) (Nat.le_of_ble_eq_true rfl) ?_
  intro p e s m below meth c ls args hC hE hM hA hS hl
  obtain ⟨hx, hb, hml, hown, hts, hr, hlocks, hin⟩ := hC
  have k0 : (0 : Int32).toInt = 0 := by decide
  have kN : (Int32.ofNat q.2.2.2.length).toInt = q.2.2.2.length := nI_toInt (by omega)
  have hT := TM_ok hI
  have hK : Kp [] [(1000, 25)] I I := Kp.rf
  have hl : lv_has ls 3 [(0, .ref (ad (1000))), (1, .ref (D.2 100 i))] := hl
  refine lv_aload_n hx hb dX10_takes_0 rfl (lv_at hl 0 rfl) ?_
  refine m_callv (m_runV (1000) (As := []) (rest := []) hx hb hml hown hts hE hM hS hA ce_X10_blanks tb_1506 (V_X10_blanks_h l D A ad ns I L G hJ hI (by omega)) rfl rfl ⟨Nat.le_of_ble_eq_true rfl, Nat.le_of_ble_eq_true rfl⟩ hJ.1 rfl rfl (by decide) rfl hl.1 rfl (Nat.le_of_ble_eq_true rfl) dX10_takes_1 ⟨Nat.le_of_ble_eq_true rfl, Nat.le_of_ble_eq_true rfl⟩) hS (fun u H locs hw hM hS => ?_)
  obtain ⟨I1, L2, rfl, hI, hkI1, xI1⟩ := hw
  have hM : Mem D A ad ns I1 L2 G H := hM
  have hK := hK.trans hkI1 rfl
  have pw3 : (I1 (1000) 24).toInt = (I (1000) 24 : Int32).toInt := congrArg Int32.toInt ((hkI1.get (1000) 24 rfl))
  have pw4 : (I1 (1000) 26).toInt = (I (1000) 26 : Int32).toInt := congrArg Int32.toInt ((hkI1.get (1000) 26 rfl))
  have pw5 : (I1 (1000) 27).toInt = (I (1000) 27 : Int32).toInt := congrArg Int32.toInt ((hkI1.get (1000) 27 rfl))
  have pw6 : (I1 (1000) 29).toInt = (I (1000) 29 : Int32).toInt := congrArg Int32.toInt ((hkI1.get (1000) 29 rfl))
  have pw7 : (I1 (1000) 30).toInt = (I (1000) 30 : Int32).toInt := congrArg Int32.toInt ((hkI1.get (1000) 30 rfl))
  have pw8 : (I1 (1000) 31).toInt = (I (1000) 31 : Int32).toInt := congrArg Int32.toInt ((hkI1.get (1000) 31 rfl))
  have pw9 : (I1 (1000) 32).toInt = (I (1000) 32 : Int32).toInt := congrArg Int32.toInt ((hkI1.get (1000) 32 rfl))
  have nw10 := xI1.1
  refine lv_aload_n hx hb dX10_takes_4 rfl (lv_at hl 0 rfl) ?_
  refine lv_aload_n hx hb dX10_takes_5 rfl (lv_at hl 1 rfl) ?_
  refine m_calli (m_runV (1000) (As := [.ref (D.2 100 i)]) (rest := []) hx hb hml hown hts hE hM hS hA ce_X10_stands tb_1515 (V_X10_stands_h l D A ad ns I1 L2 G i _ hJ hI hq hn hn1 (hbt.of (hK.getA 1034 rfl) (hK.get 1000 24 rfl))) rfl rfl ⟨Nat.le_of_ble_eq_true rfl, Nat.le_of_ble_eq_true rfl⟩ hJ.1 rfl rfl (by decide) rfl hl.1 rfl (Nat.le_of_ble_eq_true rfl) dX10_takes_6 ⟨Nat.le_of_ble_eq_true rfl, Nat.le_of_ble_eq_true rfl⟩) hS (fun r11 u H locs hw hM hS => ?_)
  obtain ⟨rfl, xr11⟩ := hw
  have hM : Mem D A ad ns I1 L2 G H := hM
  have g12 := hI.get 1000 24 (lo := 0) (hi := 400) rfl
  have g13 := hI.get 1000 25 (lo := 0) (hi := 100000) rfl
  have sx14 := xr11.1
  rw [show TM I1 = TM I from (TM_of (hK.getA 1034 rfl) (hK.get 1000 24 rfl))] at sx14
  refine lv_istore_n (lv' := [(2, .int (r11)), (0, .ref (ad (1000))), (1, .ref (D.2 100 i))]) hx hb dX10_takes_9 rfl hl (by decide) rfl (fun ls hl => ?_)
  refine lv_aload_n hx hb dX10_takes_10 rfl (lv_at hl 1 rfl) ?_
  refine lv_dup hx hb dX10_takes_11 rfl ?_
  refine m_geti (1000) 25 hx hb hts hown hE oc10 hM hJ.1 rfl (by decide) rfl tb_1202 dX10_takes_12 ?_
  have g15 := hI.get (1000) 25 (lo := 0) (hi := 100000) rfl
  refine lv_iload_n hx hb dX10_takes_15 rfl (lv_at hl 0 rfl) ?_
  refine lv_if_eq (tgt := 26) hx hb dX10_takes_16 (by decide) (fun c16 => ?_) (fun c16 => ?_)
  · have hc16 := c16
    have q16 := q_eq hc16
    have sc17 := sx14.n (by omega)
    refine lv_iconst (v := (0)) hx hb dX10_takes_26 (by decide) ?_
    refine lv_iadd hx hb dX10_takes_27 ?_
    refine lv_topi (fun v18 ev18 => ?_)
    have tv18 := a_add ev18 (by omega) (by omega)
    refine m_puti (1000) 25 hx hb hts hown hE oc10 hM hS hJ.1 rfl (by decide) rfl rfl rfl rfl tb_1202 dX10_takes_28 (fun H locs I19 eI19 hM hS => ?_)
    subst eI19
    have hI := hI.put (n := 1000) (k := 25) (v := v18) (lo := 0) (hi := 100000) rfl (by first | omega | decide)
    have hK := hK.put (n := 1000) (k := 25) (v := v18) (by first | rfl | simp [inR])
    refine lv_iload_n hx hb dX10_takes_31 rfl (lv_at hl 0 rfl) ?_
    have pw20 : ((u2 I1 (1000) 25 (v18)) (1000) 24).toInt = (I (1000) 24 : Int32).toInt := (congrArg Int32.toInt ((show (u2 I1 (1000) 25 (v18)) (1000) 24 = I1 (1000) 24 from by simp [u2_v]))).trans pw3
    have pw21 : ((u2 I1 (1000) 25 (v18)) (1000) 25).toInt = (v18 : Int32).toInt := congrArg Int32.toInt ((show (u2 I1 (1000) 25 (v18)) (1000) 25 = v18 from by simp [u2_v]))
    have pw22 : ((u2 I1 (1000) 25 (v18)) (1000) 26).toInt = (I (1000) 26 : Int32).toInt := (congrArg Int32.toInt ((show (u2 I1 (1000) 25 (v18)) (1000) 26 = I1 (1000) 26 from by simp [u2_v]))).trans pw4
    have pw23 : ((u2 I1 (1000) 25 (v18)) (1000) 27).toInt = (I (1000) 27 : Int32).toInt := (congrArg Int32.toInt ((show (u2 I1 (1000) 25 (v18)) (1000) 27 = I1 (1000) 27 from by simp [u2_v]))).trans pw5
    have pw24 : ((u2 I1 (1000) 25 (v18)) (1000) 29).toInt = (I (1000) 29 : Int32).toInt := (congrArg Int32.toInt ((show (u2 I1 (1000) 25 (v18)) (1000) 29 = I1 (1000) 29 from by simp [u2_v]))).trans pw6
    have pw25 : ((u2 I1 (1000) 25 (v18)) (1000) 30).toInt = (I (1000) 30 : Int32).toInt := (congrArg Int32.toInt ((show (u2 I1 (1000) 25 (v18)) (1000) 30 = I1 (1000) 30 from by simp [u2_v]))).trans pw7
    have pw26 : ((u2 I1 (1000) 25 (v18)) (1000) 31).toInt = (I (1000) 31 : Int32).toInt := (congrArg Int32.toInt ((show (u2 I1 (1000) 25 (v18)) (1000) 31 = I1 (1000) 31 from by simp [u2_v]))).trans pw8
    have pw27 : ((u2 I1 (1000) 25 (v18)) (1000) 32).toInt = (I (1000) 32 : Int32).toInt := (congrArg Int32.toInt ((show (u2 I1 (1000) 25 (v18)) (1000) 32 = I1 (1000) 32 from by simp [u2_v]))).trans pw9
    have z1 := tn (i := I1 1000 25) (by omega)
    have z2 := tn (i := (u2 I1 (1000) 25 (v18)) 1000 25) (by omega)
    have hll : (q.2.2.2.map b8).length = q.2.2.2.length := List.length_map ..
    have hsy := sx14
    rw [nw10] at hsy
    exact m_zret hx hb hr (nar01 (by omega) (by omega)).1 hlocks hM hS (Nat.le_of_ble_eq_true rfl) (Nat.le_of_ble_eq_true rfl) ⟨_, _, rfl, hI, hK, ⟨(Or.inr ⟨by omega, hsy.n (by omega), by omega⟩), by omega⟩⟩ dX10_takes_32
  · have hc16 := c16
    have q16 := q_ne hc16
    have sg28 := xr11.2.2.2 (by omega)
    have sc29 := sx14.y (by omega)
    refine lv_aload_n hx hb dX10_takes_19 rfl (lv_at hl 2 rfl) ?_
    refine m_calli (m_runVA (D.2 100 i) (As := []) (rest := [.int (I1 (1000) 25), .ref (ad (1000))]) hx hb hml hown hts hE hM hS hA ce_J0_length_8abf5 tb_1519 (C_J0_length_8abf5 l D A ad ns I1 L2 G i _ hq hn) rfl rfl ⟨Nat.le_of_ble_eq_true rfl, Nat.le_of_ble_eq_true rfl⟩ (m_strr hE hS i hq) rfl hl.1 rfl (Nat.le_of_ble_eq_true rfl) dX10_takes_20 ⟨Nat.le_of_ble_eq_true rfl, Nat.le_of_ble_eq_true rfl⟩) hS (fun r30 u H locs hw hM hS => ?_)
    obtain ⟨rfl, rfl⟩ := hw
    have hM : Mem D A ad ns I1 L2 G H := hM
    refine lv_goto (tgt := 27) hx hb dX10_takes_23 (by decide) ?_
    refine lv_iadd hx hb dX10_takes_27 ?_
    refine lv_topi (fun v31 ev31 => ?_)
    have tv31 := a_add ev31 (by omega) (by omega)
    refine m_puti (1000) 25 hx hb hts hown hE oc10 hM hS hJ.1 rfl (by decide) rfl rfl rfl rfl tb_1202 dX10_takes_28 (fun H locs I32 eI32 hM hS => ?_)
    subst eI32
    have hI := hI.put (n := 1000) (k := 25) (v := v31) (lo := 0) (hi := 100000) rfl (by first | omega | decide)
    have hK := hK.put (n := 1000) (k := 25) (v := v31) (by first | rfl | simp [inR])
    refine lv_iload_n hx hb dX10_takes_31 rfl (lv_at hl 0 rfl) ?_
    have pw33 : ((u2 I1 (1000) 25 (v31)) (1000) 24).toInt = (I (1000) 24 : Int32).toInt := (congrArg Int32.toInt ((show (u2 I1 (1000) 25 (v31)) (1000) 24 = I1 (1000) 24 from by simp [u2_v]))).trans pw3
    have pw34 : ((u2 I1 (1000) 25 (v31)) (1000) 25).toInt = (v31 : Int32).toInt := congrArg Int32.toInt ((show (u2 I1 (1000) 25 (v31)) (1000) 25 = v31 from by simp [u2_v]))
    have pw35 : ((u2 I1 (1000) 25 (v31)) (1000) 26).toInt = (I (1000) 26 : Int32).toInt := (congrArg Int32.toInt ((show (u2 I1 (1000) 25 (v31)) (1000) 26 = I1 (1000) 26 from by simp [u2_v]))).trans pw4
    have pw36 : ((u2 I1 (1000) 25 (v31)) (1000) 27).toInt = (I (1000) 27 : Int32).toInt := (congrArg Int32.toInt ((show (u2 I1 (1000) 25 (v31)) (1000) 27 = I1 (1000) 27 from by simp [u2_v]))).trans pw5
    have pw37 : ((u2 I1 (1000) 25 (v31)) (1000) 29).toInt = (I (1000) 29 : Int32).toInt := (congrArg Int32.toInt ((show (u2 I1 (1000) 25 (v31)) (1000) 29 = I1 (1000) 29 from by simp [u2_v]))).trans pw6
    have pw38 : ((u2 I1 (1000) 25 (v31)) (1000) 30).toInt = (I (1000) 30 : Int32).toInt := (congrArg Int32.toInt ((show (u2 I1 (1000) 25 (v31)) (1000) 30 = I1 (1000) 30 from by simp [u2_v]))).trans pw7
    have pw39 : ((u2 I1 (1000) 25 (v31)) (1000) 31).toInt = (I (1000) 31 : Int32).toInt := (congrArg Int32.toInt ((show (u2 I1 (1000) 25 (v31)) (1000) 31 = I1 (1000) 31 from by simp [u2_v]))).trans pw8
    have pw40 : ((u2 I1 (1000) 25 (v31)) (1000) 32).toInt = (I (1000) 32 : Int32).toInt := (congrArg Int32.toInt ((show (u2 I1 (1000) 25 (v31)) (1000) 32 = I1 (1000) 32 from by simp [u2_v]))).trans pw9
    have z1 := tn (i := I1 1000 25) (by omega)
    have z2 := tn (i := (u2 I1 (1000) 25 (v31)) 1000 25) (by omega)
    have hll : (q.2.2.2.map b8).length = q.2.2.2.length := List.length_map ..
    have hsy := sx14
    rw [nw10] at hsy
    exact m_zret hx hb hr (nar01 (by omega) (by omega)).1 hlocks hM hS (Nat.le_of_ble_eq_true rfl) (Nat.le_of_ble_eq_true rfl) ⟨_, _, rfl, hI, hK, ⟨(Or.inl ⟨by rcases hsy with h | h <;> omega, hsy.y (by omega), by rw [hll]; omega⟩), by omega⟩⟩ dX10_takes_32
