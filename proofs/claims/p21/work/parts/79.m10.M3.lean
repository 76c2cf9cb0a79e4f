def SHT (T : TN) (J : MI) (c w s : Int32) : Prop := ∀ x y : Int32, x.toInt = c.toInt % 24 → y.toInt = c.toInt / 24 → SHM T J x y w s
theorem SHT.of {T : TN} {J : MI} {c w s x y : Int32} (h : SHM T J x y w s) (hx : x.toInt = c.toInt % 24) (hy : y.toInt = c.toInt / 24) : SHT T J c w s := fun x2 y2 h1 h2 => by
  rw [show x2 = x from Int32.toInt_inj.mp (by omega), show y2 = y from Int32.toInt_inj.mp (by omega)]
  exact h
theorem SHT.some {T : TN} {J : MI} {c w s : Int32} (h : SHT T J c w s) (hc : 0 ≤ c.toInt ∧ c.toInt < 576) : ∃ x y : Int32, x.toInt = c.toInt % 24 ∧ y.toInt = c.toInt / 24 ∧ SHM T J x y w s := by
  have e1 : (Int32.ofInt (c.toInt % 24)).toInt = c.toInt % 24 := i32 (by omega) rfl
  have e2 : (Int32.ofInt (c.toInt / 24)).toInt = c.toInt / 24 := i32 (by omega) rfl
  exact ⟨_, _, e1, e2, h _ _ e1 e2⟩
theorem SHT.first {T : TN} {J : MI} {c w s : Int32} (h : SHT T J c w s) (hz : 0 ≤ c.toInt ∧ c.toInt < 576) (hc : 0 < (J 1000 52).toInt) (hh : 0 ≤ (J 1000 51).toInt ∧ (J 1000 51).toInt < 60) : (0 ≤ (J 1047 (J 1000 51).toNatClampNeg).toInt ∧ (J 1047 (J 1000 51).toNatClampNeg).toInt ≤ 7) ∧ 0 ≤ (J 1048 (J 1000 51).toNatClampNeg).toInt ∧ (J 1048 (J 1000 51).toNatClampNeg).toInt ≤ 99999 := by
  obtain ⟨x, y, -, -, h1⟩ := h.some hz
  exact h1.first hc hh
theorem SHT.next {T : TN} {J J1 J2 : MI} {c w s h1v c1v : Int32} (h : SHT T J c w s) (hc : 0 < (J 1000 52).toInt) (hh : 0 ≤ (J 1000 51).toInt ∧ (J 1000 51).toInt < 60) (e1 : J1 = u2 (u2 J 1000 51 h1v) 1000 52 c1v) (eh : h1v.toInt = ((J 1000 51).toInt + 1) % 60) (ec : c1v.toInt = (J 1000 52).toInt - 1) (hb : BMM T J1 J2 (J 1045 (J 1000 51).toNatClampNeg) (J 1046 (J 1000 51).toNatClampNeg) (J 1047 (J 1000 51).toNatClampNeg) (J 1048 (J 1000 51).toNatClampNeg)) : SHT T J2 c w s := fun x y h1 h2 => (h x y h1 h2).next hc hh e1 eh ec hb
theorem SHT.fin {I J : MI} {c w s : Int32} (h : SHT (twM I) J c w s) (hz : 0 ≤ c.toInt ∧ c.toInt < 576) (hc : (J 1000 52).toInt ≤ 0) : SHH I J c w s := by
  obtain ⟨x, y, e1, e2, h1⟩ := h.some hz
  obtain ⟨S2, g1, g2⟩ := h1.fin hc
  refine ⟨S2, g1, fun x2 y2 h1 h2 => ?_⟩
  rw [show x2 = x from Int32.toInt_inj.mp (by omega), show y2 = y from Int32.toInt_inj.mp (by omega)]
  exact g2
set_option maxHeartbeats 4000000 in
set_option maxRecDepth 20000 in
theorem V_X10_traces_l (l : Launch) (D : va_G) (A : Nat → Prop) (ad : Nat → Nat) (ns : List Nat) (I : MI) (L : ML) (G : MG) (a0 : Int32) (a1 : Int32) (a2 : Int32) (hJ : SGM ns G) (hI : INV I) (hMO : MOK I) (hg0 : GZ I) (ha0 : 0 ≤ a0.toInt ∧ a0.toInt ≤ 575) (ha1 : 0 ≤ a1.toInt ∧ a1.toInt ≤ 7) (ha2 : 0 ≤ a2.toInt ∧ a2.toInt ≤ 99999) : Met l yX10_traces (wd yX10_traces cX10_traces 5 none) ({ frames := 3, cells := 0, slots := 0, locals := 82 }) (va_Pc [.ref (ad (1000)), .int a0, .int a1, .int a2] (PM D A ad ns I L G)) (va_Qv (fun u => ∃ I2 L2, u = (ad, ns, I2, L2, G) ∧ INV I2 ∧ Kp [(1045, 1051)] [(1000, 51), (1000, 52), (1000, 53), (1000, 54), (1000, 55), (1000, 56), (1000, 59)] I I2 ∧ (SHH I I2 a0 a1 a2 ∧ (I2 1000 59).toInt = 0)) (BM D A) A) 0 0 A := by
  refine m_ofW (by decide) (Nat.le_of_ble_eq_true rfl) ?_
  intro p e s m below meth c ls args hC hE hM hA hS hl
  obtain ⟨hx, hb, hml, hown, hts, hr, hlocks, hin⟩ := hC
  have k0 : (0 : Int32).toInt = 0 := by decide
  have k1 : (1 : Int32).toInt = 1 := by decide
  have k24 : (24 : Int32).toInt = 24 := by decide
  have k60 : (60 : Int32).toInt = 60 := by decide
  have k576 : (576 : Int32).toInt = 576 := by decide
  have hK : Kp [(1045, 1051)] [(1000, 51), (1000, 52), (1000, 53), (1000, 54), (1000, 55), (1000, 56), (1000, 59)] I I := Kp.rf
  have hl : lv_has ls 5 [(0, .ref (ad (1000))), (1, .int (a0)), (2, .int (a1)), (3, .int (a2))] := hl
  refine lv_iconst (v := (0)) hx hb dX10_traces_0 (by decide) ?_
  refine lv_istore (lv' := [(4, .int (0)), (0, .ref (ad (1000))), (1, .int (a0)), (2, .int (a1)), (3, .int (a2))]) hx hb dX10_traces_1 hl (by decide) rfl (fun ls hl => ?_)
  have loop3 : ∀ (n : Nat) (x4_3 : Int32) (Ia3 : MI) (La3 : ML) (H : Heap) (locs : List Loc) (ls : Array Slot), INV Ia3 → Kp [(1045, 1051)] [(1000, 51), (1000, 52), (1000, 53), (1000, 54), (1000, 55), (1000, 56), (1000, 59)] I Ia3 → (0 ≤ x4_3.toInt ∧ x4_3.toInt ≤ 576) → (∀ c : Nat, c < (x4_3).toNatClampNeg → Ia3 1049 c = 0) → (∀ k : Nat, k < 8 → Ia3 1050 k = 0) → ((Ia3 1000 59).toInt = 0) → (576 - x4_3.toInt).toNat < n → Mem D A ad ns Ia3 La3 G H → va_S A s.heap H locs → lv_has ls 5 [(4, .int (x4_3)), (0, .ref (ad (1000))), (1, .int (a0)), (2, .int (a1)), (3, .int (a2))] → W p l e ({ frames := 3, cells := 0, slots := 0, locals := 82 } : Room) s m args below meth c H locs 0 0 (MQ below (va_Qv (fun u => ∃ I2 L2, u = (ad, ns, I2, L2, G) ∧ INV I2 ∧ Kp [(1045, 1051)] [(1000, 51), (1000, 52), (1000, 53), (1000, 54), (1000, 55), (1000, 56), (1000, 59)] I I2 ∧ (SHH I I2 a0 a1 a2 ∧ (I2 1000 59).toInt = 0)) (BM D A) A) args s 0 0 A) (F0 m 3 ls []) := by
    intro n
    induction n with
    | zero =>
      intro x4_3 Ia3 La3 H locs ls hI hK hr4_3 hp3 hq3 hs3 hmu
      exact absurd hmu (Nat.not_lt_zero _)
    | succ n ih3 =>
      intro x4_3 Ia3 La3 H locs ls hI hK hr4_3 hp3 hq3 hs3 hmu3 hM hS hl
      refine lv_iload hx hb dX10_traces_3 (lv_at hl 0 rfl) ?_
      refine lv_sipush (v := (576)) hx hb dX10_traces_5 (by decide) ?_
      refine lv_icmp_ge (tgt := 25) hx hb dX10_traces_8 (by decide) (fun c1 => ?_) (fun c1 => ?_)
      · have hc1 := c1
        have q1 := q_le hc1
        refine lv_aload_n hx hb dX10_traces_25 rfl (lv_at hl 1 rfl) ?_
        refine lv_iconst (v := (0)) hx hb dX10_traces_26 (by decide) ?_
        refine m_puti (1000) 51 hx hb hts hown hE oc10 hM hS hJ.1 rfl (by decide) rfl rfl rfl rfl tb_1228 dX10_traces_27 (fun H locs I2 eI2 hM hS => ?_)
        subst eI2
        have hI := hI.put (n := 1000) (k := 51) (v := 0) (lo := 0) (hi := 59) rfl (by first | omega | decide)
        have hK := hK.put (n := 1000) (k := 51) (v := 0) (by first | rfl | simp [inR])
        refine lv_aload_n hx hb dX10_traces_30 rfl (lv_at hl 1 rfl) ?_
        refine lv_iconst (v := (0)) hx hb dX10_traces_31 (by decide) ?_
        refine m_puti (1000) 52 hx hb hts hown hE oc10 hM hS hJ.1 rfl (by decide) rfl rfl rfl rfl tb_1229 dX10_traces_32 (fun H locs I3 eI3 hM hS => ?_)
        subst eI3
        have hI := hI.put (n := 1000) (k := 52) (v := 0) (lo := 0) (hi := 60) rfl (by first | omega | decide)
        have hK := hK.put (n := 1000) (k := 52) (v := 0) (by first | rfl | simp [inR])
        refine lv_aload_n hx hb dX10_traces_35 rfl (lv_at hl 1 rfl) ?_
        refine lv_iconst (v := (0)) hx hb dX10_traces_36 (by decide) ?_
        refine m_puti (1000) 53 hx hb hts hown hE oc10 hM hS hJ.1 rfl (by decide) rfl rfl rfl rfl tb_1230 dX10_traces_37 (fun H locs I4 eI4 hM hS => ?_)
        subst eI4
        have hI := hI.putF (n := 1000) (k := 53) (v := 0) rfl
        have hK := hK.put (n := 1000) (k := 53) (v := 0) (by first | rfl | simp [inR])
        refine lv_aload_n hx hb dX10_traces_40 rfl (lv_at hl 1 rfl) ?_
        refine lv_iconst (v := (0)) hx hb dX10_traces_41 (by decide) ?_
        refine m_puti (1000) 54 hx hb hts hown hE oc10 hM hS hJ.1 rfl (by decide) rfl rfl rfl rfl tb_1231 dX10_traces_42 (fun H locs I5 eI5 hM hS => ?_)
        subst eI5
        have hI := hI.putF (n := 1000) (k := 54) (v := 0) rfl
        have hK := hK.put (n := 1000) (k := 54) (v := 0) (by first | rfl | simp [inR])
        refine lv_aload_n hx hb dX10_traces_45 rfl (lv_at hl 1 rfl) ?_
        refine lv_iconst (v := (0)) hx hb dX10_traces_46 (by decide) ?_
        refine m_puti (1000) 55 hx hb hts hown hE oc10 hM hS hJ.1 rfl (by decide) rfl rfl rfl rfl tb_1232 dX10_traces_47 (fun H locs I6 eI6 hM hS => ?_)
        subst eI6
        have hI := hI.put (n := 1000) (k := 55) (v := 0) (lo := 0) (hi := 2000) rfl (by first | omega | decide)
        have hK := hK.put (n := 1000) (k := 55) (v := 0) (by first | rfl | simp [inR])
        refine lv_aload_n hx hb dX10_traces_50 rfl (lv_at hl 1 rfl) ?_
        refine lv_iconst (v := (1)) hx hb dX10_traces_51 (by decide) ?_
        refine m_puti (1000) 56 hx hb hts hown hE oc10 hM hS hJ.1 rfl (by decide) rfl rfl rfl rfl tb_1233 dX10_traces_52 (fun H locs I7 eI7 hM hS => ?_)
        subst eI7
        have hI := hI.putF (n := 1000) (k := 56) (v := 1) rfl
        have hK := hK.put (n := 1000) (k := 56) (v := 1) (by first | rfl | simp [inR])
        refine lv_aload_n hx hb dX10_traces_55 rfl (lv_at hl 1 rfl) ?_
        refine lv_iload_n hx hb dX10_traces_56 rfl (lv_at hl 2 rfl) ?_
        refine lv_bipush (v := (24)) hx hb dX10_traces_57 (by decide) ?_
        refine lv_irem hx hb dX10_traces_59 (by decide) ?_
        refine lv_topi (fun v8 ev8 => ?_)
        have tv8 := a_rem (c := 24) ev8 (by decide) (by decide) (by omega)
        refine lv_iload_n hx hb dX10_traces_60 rfl (lv_at hl 2 rfl) ?_
        refine lv_bipush (v := (24)) hx hb dX10_traces_61 (by decide) ?_
        refine lv_idiv hx hb dX10_traces_63 (by decide) ?_
        refine lv_topi (fun v9 ev9 => ?_)
        have tv9 := a_div (c := 24) ev9 (by decide) (by decide) (by omega)
        refine lv_iload_n hx hb dX10_traces_64 rfl (lv_at hl 3 rfl) ?_
        refine lv_iload_n hx hb dX10_traces_65 rfl (lv_at hl 4 rfl) ?_
        have tw10 : twM (u2 (u2 (u2 (u2 (u2 (u2 Ia3 (1000) 51 (0)) (1000) 52 (0)) (1000) 53 (0)) (1000) 54 (0)) (1000) 55 (0)) (1000) 56 (1)) = twM I := twM_kp hK rfl
        refine m_callv (m_runV (1000) (As := [.int (v8), .int (v9), .int (a1), .int (a2)]) (rest := []) hx hb hml hown hts hE hM hS hA ce_X10_goes tb_1648 (V_X10_goes_l l D A ad ns (u2 (u2 (u2 (u2 (u2 (u2 Ia3 (1000) 51 (0)) (1000) 52 (0)) (1000) 53 (0)) (1000) 54 (0)) (1000) 55 (0)) (1000) 56 (1)) La3 G (v8) (v9) (a1) (a2) hJ hI (by rw [twM_kp hK rfl]; exact hMO.2.2.2.1) (by rw [hK.apm rfl 1001 (by decide) (by decide)]; exact hMO.1) ((by rw [(show (u2 (u2 (u2 (u2 (u2 (u2 Ia3 (1000) 51 (0)) (1000) 52 (0)) (1000) 53 (0)) (1000) 54 (0)) (1000) 55 (0)) (1000) 56 (1)) (1000) 59 = Ia3 (1000) 59 from by simp [u2_v])]; exact hs3)) (by first | omega | decide) (by first | omega | decide)) rfl rfl ⟨Nat.le_of_ble_eq_true rfl, Nat.le_of_ble_eq_true rfl⟩ hJ.1 rfl rfl (by decide) rfl hl.1 rfl (Nat.le_of_ble_eq_true rfl) dX10_traces_66 ⟨Nat.le_of_ble_eq_true rfl, Nat.le_of_ble_eq_true rfl⟩) hS (fun u H locs hw hM hS => ?_)
        obtain ⟨I11, L12, rfl, hI, hkI11, xI11⟩ := hw
        have hM : Mem D A ad ns I11 L12 G H := hM
        have hK := hK.trans hkI11 rfl
        have pw13 : ((u2 (u2 (u2 (u2 (u2 (u2 Ia3 (1000) 51 (0)) (1000) 52 (0)) (1000) 53 (0)) (1000) 54 (0)) (1000) 55 (0)) (1000) 56 (1)) (1000) 55).toInt = (0 : Int32).toInt := congrArg Int32.toInt ((show (u2 (u2 (u2 (u2 (u2 (u2 Ia3 (1000) 51 (0)) (1000) 52 (0)) (1000) 53 (0)) (1000) 54 (0)) (1000) 55 (0)) (1000) 56 (1)) (1000) 55 = 0 from by simp [u2_v]))
        have pw14 : ((u2 (u2 (u2 (u2 (u2 (u2 Ia3 (1000) 51 (0)) (1000) 52 (0)) (1000) 53 (0)) (1000) 54 (0)) (1000) 55 (0)) (1000) 56 (1)) (1000) 52).toInt = (0 : Int32).toInt := congrArg Int32.toInt ((show (u2 (u2 (u2 (u2 (u2 (u2 Ia3 (1000) 51 (0)) (1000) 52 (0)) (1000) 53 (0)) (1000) 54 (0)) (1000) 55 (0)) (1000) 56 (1)) (1000) 52 = 0 from by simp [u2_v]))
        rw [tw10] at xI11
        refine lv_aload_n hx hb dX10_traces_69 rfl (lv_at hl 1 rfl) ?_
        refine lv_iconst (v := (0)) hx hb dX10_traces_70 (by decide) ?_
        refine m_puti (1000) 59 hx hb hts hown hE oc10 hM hS hJ.1 rfl (by decide) rfl rfl rfl rfl tb_1236 dX10_traces_71 (fun H locs I15 eI15 hM hS => ?_)
        subst eI15
        have hI := hI.put (n := 1000) (k := 59) (v := 0) (lo := 0) (hi := 1) rfl (by first | omega | decide)
        have hK := hK.put (n := 1000) (k := 59) (v := 0) (by first | rfl | simp [inR])
        have loop74 : ∀ (n : Nat) (x4_74 : Int32) (Ia74 : MI) (La74 : ML) (H : Heap) (locs : List Loc) (ls : Array Slot), INV Ia74 → Kp [(1045, 1051)] [(1000, 51), (1000, 52), (1000, 53), (1000, 54), (1000, 55), (1000, 56), (1000, 59)] I Ia74 → (SHT (twM I) Ia74 a0 a1 a2) → ((Ia74 1000 59).toInt = 0) → (2 * (2000 - (Ia74 1000 55).toInt) + (Ia74 1000 52).toInt).toNat < n → Mem D A ad ns Ia74 La74 G H → va_S A s.heap H locs → lv_has ls 5 [(4, .int (x4_74)), (0, .ref (ad (1000))), (1, .int (a0)), (2, .int (a1)), (3, .int (a2))] → W p l e ({ frames := 3, cells := 0, slots := 0, locals := 82 } : Room) s m args below meth c H locs 0 0 (MQ below (va_Qv (fun u => ∃ I2 L2, u = (ad, ns, I2, L2, G) ∧ INV I2 ∧ Kp [(1045, 1051)] [(1000, 51), (1000, 52), (1000, 53), (1000, 54), (1000, 55), (1000, 56), (1000, 59)] I I2 ∧ (SHH I I2 a0 a1 a2 ∧ (I2 1000 59).toInt = 0)) (BM D A) A) args s 0 0 A) (F0 m 74 ls []) := by
          intro n
          induction n with
          | zero =>
            intro x4_74 Ia74 La74 H locs ls hI hK hX74 hs74 hmu
            exact absurd hmu (Nat.not_lt_zero _)
          | succ n ih74 =>
            intro x4_74 Ia74 La74 H locs ls hI hK hX74 hs74 hmu74 hM hS hl
            have gA74 := hI.get 1000 55 (lo := 0) (hi := 2000) rfl
            have gB74 := hI.get 1000 52 (lo := 0) (hi := 60) rfl
            have gC74 := hI.get 1000 51 (lo := 0) (hi := 59) rfl
            refine lv_aload_n hx hb dX10_traces_74 rfl (lv_at hl 1 rfl) ?_
            refine m_geti (1000) 52 hx hb hts hown hE oc10 hM hJ.1 rfl (by decide) rfl tb_1229 dX10_traces_75 ?_
            have g16 := hI.get (1000) 52 (lo := 0) (hi := 60) rfl
            refine lv_if_le (tgt := 145) hx hb dX10_traces_78 (by decide) (fun c17 => ?_) (fun c17 => ?_)
            · have hc17 := c17
              have q17 := q_le hc17
              exact m_vret hx hb hr hlocks hM hS (Nat.le_of_ble_eq_true rfl) (Nat.le_of_ble_eq_true rfl) ⟨_, _, rfl, hI, hK, ⟨hX74.fin (by omega) (by omega), hs74⟩⟩ dX10_traces_145
            · have hc17 := c17
              have q17 := q_nle hc17
              refine lv_aload_n hx hb dX10_traces_81 rfl (lv_at hl 1 rfl) ?_
              refine m_geti (1000) 51 hx hb hts hown hE oc10 hM hJ.1 rfl (by decide) rfl tb_1228 dX10_traces_82 ?_
              have g18 := hI.get (1000) 51 (lo := 0) (hi := 59) rfl
              refine lv_istore (lv' := [(4, .int (Ia74 (1000) 51)), (0, .ref (ad (1000))), (1, .int (a0)), (2, .int (a1)), (3, .int (a2))]) hx hb dX10_traces_85 hl (by decide) rfl (fun ls hl => ?_)
              refine lv_aload_n hx hb dX10_traces_87 rfl (lv_at hl 1 rfl) ?_
              refine lv_aload_n hx hb dX10_traces_88 rfl (lv_at hl 1 rfl) ?_
              refine m_geti (1000) 51 hx hb hts hown hE oc10 hM hJ.1 rfl (by decide) rfl tb_1228 dX10_traces_89 ?_
              refine lv_iconst (v := (1)) hx hb dX10_traces_92 (by decide) ?_
              refine lv_iadd hx hb dX10_traces_93 ?_
              refine lv_topi (fun v19 ev19 => ?_)
              have tv19 := a_add ev19 (by omega) (by omega)
              refine lv_bipush (v := (60)) hx hb dX10_traces_94 (by decide) ?_
              refine lv_irem hx hb dX10_traces_96 (by decide) ?_
              refine lv_topi (fun v20 ev20 => ?_)
              have tv20 := a_rem (c := 60) ev20 (by decide) (by decide) (by omega)
              refine m_puti (1000) 51 hx hb hts hown hE oc10 hM hS hJ.1 rfl (by decide) rfl rfl rfl rfl tb_1228 dX10_traces_97 (fun H locs I21 eI21 hM hS => ?_)
              subst eI21
              have hI := hI.put (n := 1000) (k := 51) (v := v20) (lo := 0) (hi := 59) rfl (by first | omega | decide)
              have hK := hK.put (n := 1000) (k := 51) (v := v20) (by first | rfl | simp [inR])
              refine lv_aload_n hx hb dX10_traces_100 rfl (lv_at hl 1 rfl) ?_
              refine lv_dup hx hb dX10_traces_101 rfl ?_
              refine m_geti (1000) 52 hx hb hts hown hE oc10 hM hJ.1 rfl (by decide) rfl tb_1229 dX10_traces_102 ?_
              have z22 : (u2 Ia74 (1000) 51 (v20)) (1000) 52 = Ia74 (1000) 52 := (show (u2 Ia74 (1000) 51 (v20)) (1000) 52 = Ia74 (1000) 52 from by simp [u2_v])
              rw [z22]
              refine lv_iconst (v := (1)) hx hb dX10_traces_105 (by decide) ?_
              refine lv_isub hx hb dX10_traces_106 ?_
              refine lv_topi (fun v23 ev23 => ?_)
              have tv23 := a_sub ev23 (by omega) (by omega)
              refine m_puti (1000) 52 hx hb hts hown hE oc10 hM hS hJ.1 rfl (by decide) rfl rfl rfl rfl tb_1229 dX10_traces_107 (fun H locs I24 eI24 hM hS => ?_)
              subst eI24
              have hI := hI.put (n := 1000) (k := 52) (v := v23) (lo := 0) (hi := 60) rfl (by first | omega | decide)
              have hK := hK.put (n := 1000) (k := 52) (v := v23) (by first | rfl | simp [inR])
              refine lv_aload_n hx hb dX10_traces_110 rfl (lv_at hl 1 rfl) ?_
              refine lv_aload_n hx hb dX10_traces_111 rfl (lv_at hl 1 rfl) ?_
              refine m_getr (1000) 45 (1045) hx hb hts hown hE oc10 hM hJ.1 rfl (by decide) rfl (hJ.2 45 (by decide)).2 (by decide) tb_1222 dX10_traces_112 ?_
              refine lv_iload hx hb dX10_traces_115 (lv_at hl 0 rfl) ?_
              refine m_iald (1045) hx hb hE hM (hJ.2 45 (by decide)).1 rfl (vp_in_iff.mpr (by omega)) dX10_traces_117 ?_
              have z25 : (u2 (u2 Ia74 (1000) 51 (v20)) (1000) 52 (v23)) (1045) (Ia74 (1000) 51).toNatClampNeg = Ia74 (1045) ((Ia74 (1000) 51).toNatClampNeg) := (show (u2 (u2 Ia74 (1000) 51 (v20)) (1000) 52 (v23)) (1045) ((Ia74 (1000) 51).toNatClampNeg) = Ia74 (1045) ((Ia74 (1000) 51).toNatClampNeg) from by simp [u2_v])
              rw [z25]
              refine lv_aload_n hx hb dX10_traces_118 rfl (lv_at hl 1 rfl) ?_
              refine m_getr (1000) 46 (1046) hx hb hts hown hE oc10 hM hJ.1 rfl (by decide) rfl (hJ.2 46 (by decide)).2 (by decide) tb_1223 dX10_traces_119 ?_
              refine lv_iload hx hb dX10_traces_122 (lv_at hl 0 rfl) ?_
              refine m_iald (1046) hx hb hE hM (hJ.2 46 (by decide)).1 rfl (vp_in_iff.mpr (by omega)) dX10_traces_124 ?_
              have z26 : (u2 (u2 Ia74 (1000) 51 (v20)) (1000) 52 (v23)) (1046) (Ia74 (1000) 51).toNatClampNeg = Ia74 (1046) ((Ia74 (1000) 51).toNatClampNeg) := (show (u2 (u2 Ia74 (1000) 51 (v20)) (1000) 52 (v23)) (1046) ((Ia74 (1000) 51).toNatClampNeg) = Ia74 (1046) ((Ia74 (1000) 51).toNatClampNeg) from by simp [u2_v])
              rw [z26]
              refine lv_aload_n hx hb dX10_traces_125 rfl (lv_at hl 1 rfl) ?_
              refine m_getr (1000) 47 (1047) hx hb hts hown hE oc10 hM hJ.1 rfl (by decide) rfl (hJ.2 47 (by decide)).2 (by decide) tb_1224 dX10_traces_126 ?_
              refine lv_iload hx hb dX10_traces_129 (lv_at hl 0 rfl) ?_
              refine m_iald (1047) hx hb hE hM (hJ.2 47 (by decide)).1 rfl (vp_in_iff.mpr (by omega)) dX10_traces_131 ?_
              have z27 : (u2 (u2 Ia74 (1000) 51 (v20)) (1000) 52 (v23)) (1047) (Ia74 (1000) 51).toNatClampNeg = Ia74 (1047) ((Ia74 (1000) 51).toNatClampNeg) := (show (u2 (u2 Ia74 (1000) 51 (v20)) (1000) 52 (v23)) (1047) ((Ia74 (1000) 51).toNatClampNeg) = Ia74 (1047) ((Ia74 (1000) 51).toNatClampNeg) from by simp [u2_v])
              rw [z27]
              refine lv_aload_n hx hb dX10_traces_132 rfl (lv_at hl 1 rfl) ?_
              refine m_getr (1000) 48 (1048) hx hb hts hown hE oc10 hM hJ.1 rfl (by decide) rfl (hJ.2 48 (by decide)).2 (by decide) tb_1225 dX10_traces_133 ?_
              refine lv_iload hx hb dX10_traces_136 (lv_at hl 0 rfl) ?_
              refine m_iald (1048) hx hb hE hM (hJ.2 48 (by decide)).1 rfl (vp_in_iff.mpr (by omega)) dX10_traces_138 ?_
              have z28 : (u2 (u2 Ia74 (1000) 51 (v20)) (1000) 52 (v23)) (1048) (Ia74 (1000) 51).toNatClampNeg = Ia74 (1048) ((Ia74 (1000) 51).toNatClampNeg) := (show (u2 (u2 Ia74 (1000) 51 (v20)) (1000) 52 (v23)) (1048) ((Ia74 (1000) 51).toNatClampNeg) = Ia74 (1048) ((Ia74 (1000) 51).toNatClampNeg) from by simp [u2_v])
              rw [z28]
              obtain ⟨hf1, hf2⟩ := hX74.first (by omega) (by omega) (by omega)
              have tw29 : twM (u2 (u2 Ia74 (1000) 51 (v20)) (1000) 52 (v23)) = twM I := twM_kp hK rfl
              refine m_callv (m_runV (1000) (As := [.int (Ia74 (1045) ((Ia74 (1000) 51).toNatClampNeg)), .int (Ia74 (1046) ((Ia74 (1000) 51).toNatClampNeg)), .int (Ia74 (1047) ((Ia74 (1000) 51).toNatClampNeg)), .int (Ia74 (1048) ((Ia74 (1000) 51).toNatClampNeg))]) (rest := []) hx hb hml hown hts hE hM hS hA ce_X10_goes tb_1648 (V_X10_goes_l l D A ad ns (u2 (u2 Ia74 (1000) 51 (v20)) (1000) 52 (v23)) La74 G (Ia74 (1045) ((Ia74 (1000) 51).toNatClampNeg)) (Ia74 (1046) ((Ia74 (1000) 51).toNatClampNeg)) (Ia74 (1047) ((Ia74 (1000) 51).toNatClampNeg)) (Ia74 (1048) ((Ia74 (1000) 51).toNatClampNeg)) hJ hI (by rw [twM_kp hK rfl]; exact hMO.2.2.2.1) (by rw [hK.apm rfl 1001 (by decide) (by decide)]; exact hMO.1) ((by rw [(show (u2 (u2 Ia74 (1000) 51 (v20)) (1000) 52 (v23)) (1000) 59 = Ia74 (1000) 59 from by simp [u2_v])]; exact hs74)) (by first | omega | decide) (by first | omega | decide)) rfl rfl ⟨Nat.le_of_ble_eq_true rfl, Nat.le_of_ble_eq_true rfl⟩ hJ.1 rfl rfl (by decide) rfl hl.1 rfl (Nat.le_of_ble_eq_true rfl) dX10_traces_139 ⟨Nat.le_of_ble_eq_true rfl, Nat.le_of_ble_eq_true rfl⟩) hS (fun u H locs hw hM hS => ?_)
              obtain ⟨I30, L31, rfl, hI, hkI30, xI30⟩ := hw
              have hM : Mem D A ad ns I30 L31 G H := hM
              have hK := hK.trans hkI30 rfl
              have pw32 : ((u2 (u2 Ia74 (1000) 51 (v20)) (1000) 52 (v23)) (1000) 55).toInt = (Ia74 (1000) 55 : Int32).toInt := congrArg Int32.toInt ((show (u2 (u2 Ia74 (1000) 51 (v20)) (1000) 52 (v23)) (1000) 55 = Ia74 (1000) 55 from by simp [u2_v]))
              have pw33 : ((u2 (u2 Ia74 (1000) 51 (v20)) (1000) 52 (v23)) (1000) 52).toInt = (v23 : Int32).toInt := congrArg Int32.toInt ((show (u2 (u2 Ia74 (1000) 51 (v20)) (1000) 52 (v23)) (1000) 52 = v23 from by simp [u2_v]))
              rw [tw29] at xI30
              refine lv_goto (tgt := 74) hx hb dX10_traces_142 (by decide) ?_
              exact ih74 (Ia74 (1000) 51) I30 L31 _ _ ls hI hK (hX74.next (by omega) (by omega) rfl (by omega) (by omega) xI30.2) (by rw [((hkI30.get (1000) 59 rfl)).trans (show (u2 (u2 Ia74 (1000) 51 (v20)) (1000) 52 (v23)) (1000) 59 = Ia74 (1000) 59 from by simp [u2_v])]; exact hs74) (by omega) hM hS (lv_sub hl [0, 1, 2, 3, 4] rfl)
        exact loop74 (_ + 1) (x4_3) (u2 I11 (1000) 59 (0)) L12 _ _ ls hI hK (SHT.of (x := v8) (y := v9) (SHM.keep (SHM.z (LSM.zero (fun k hk => by rw [show (u2 (u2 (u2 (u2 (u2 (u2 Ia3 (1000) 51 (0)) (1000) 52 (0)) (1000) 53 (0)) (1000) 54 (0)) (1000) 55 (0)) (1000) 56 (1)) 1050 = Ia3 1050 from by funext zz; simp [u2_v]]; exact hq3 k hk) (fun c hc => by rw [show (u2 (u2 (u2 (u2 (u2 (u2 Ia3 (1000) 51 (0)) (1000) 52 (0)) (1000) 53 (0)) (1000) 54 (0)) (1000) 55 (0)) (1000) 56 (1)) 1049 = Ia3 1049 from by funext zz; simp [u2_v]]; exact hp3 c (by have z := tn (i := x4_3) (by omega); omega)) (by simp [u2_v]) (by simp [u2_v]) (by simp [u2_v]) (by simp [u2_v])) (by unfold nM; simp [u2_v]) xI11.2) (fun n h1 h2 => by rw [u2_ne _ _ _ (by omega)]) (fun k hk => by rw [u2_v, if_neg (by omega)])) (by omega) (by omega)) (by rw [u2_self]; rfl) (Nat.lt_succ_self _) hM hS (lv_sub hl [0, 1, 2, 3, 4] rfl)
      · have hc1 := c1
        have q1 := q_nle hc1
        refine lv_aload_n hx hb dX10_traces_11 rfl (lv_at hl 1 rfl) ?_
        refine m_getr (1000) 49 (1049) hx hb hts hown hE oc10 hM hJ.1 rfl (by decide) rfl (hJ.2 49 (by decide)).2 (by decide) tb_1226 dX10_traces_12 ?_
        refine lv_iload hx hb dX10_traces_15 (lv_at hl 0 rfl) ?_
        refine lv_iconst (v := (0)) hx hb dX10_traces_17 (by decide) ?_
        refine m_iast (1049) hx hb hE hM hS (hJ.2 49 (by decide)).1 rfl (vp_in_iff.mpr (by omega)) dX10_traces_18 (fun H locs I34 eI34 hM hS => ?_)
        subst eI34
        have hI := hI.putF (n := 1049) (k := ((x4_3).toNatClampNeg)) (v := 0) rfl
        have hK := hK.put (n := 1049) (k := ((x4_3).toNatClampNeg)) (v := 0) (by first | rfl | simp [inR])
        obtain ⟨v35, ev35⟩ : ∃ z : Int32, z = x4_3 + Int32.ofInt (1) := ⟨_, rfl⟩
        have tv35 := a_inc ev35 (by decide) (by omega) (by omega)
        refine lv_iinc (v := v35) (lv' := [(4, .int (v35)), (0, .ref (ad (1000))), (1, .int (a0)), (2, .int (a1)), (3, .int (a2))]) hx hb dX10_traces_19 hl (k := 0) rfl ev35.symm (by decide) rfl (fun ls hl => ?_)
        refine lv_goto (tgt := 3) hx hb dX10_traces_22 (by decide) ?_
        exact ih3 (v35) (u2 Ia3 (1049) ((x4_3).toNatClampNeg) (0)) La3 _ _ ls hI hK (by first | omega | decide) (fun c hc => by have z1 := tn (i := x4_3) (by omega); have z2 := tn (i := v35) (by omega); rw [u2_v]; by_cases hq : c = (x4_3).toNatClampNeg; rw [if_pos ⟨rfl, hq⟩]; rw [if_neg (fun z => hq z.2)]; exact hp3 c (by omega)) (fun k hk => by rw [u2_ne _ _ _ (by decide)]; exact hq3 k hk) (by rw [u2_ne _ _ _ (by decide)]; exact hs3) (by omega) hM hS (lv_sub hl [0, 1, 2, 3, 4] rfl)
  exact loop3 (_ + 1) (0) I L _ _ ls hI hK (by first | omega | decide) (fun c hc => absurd hc (Nat.not_lt_zero c)) (fun k hk => hg0 k hk) hMO.2.1 (Nat.lt_succ_self _) hM hS (lv_sub hl [0, 1, 2, 3, 4] rfl)
set_option maxHeartbeats 4000000 in
set_option maxRecDepth 20000 in
theorem V_X10_sunOf_l (l : Launch) (D : va_G) (A : Nat → Prop) (ad : Nat → Nat) (ns : List Nat) (I : MI) (L : ML) (G : MG) (a0 : Int32) (hJ : SGM ns G) (hI : INV I) (ha0 : 0 ≤ a0.toInt ∧ a0.toInt ≤ 23) : Met l yX10_sunOf (wd yX10_sunOf cX10_sunOf 2 (some .int)) ({ frames := 0, cells := 0, slots := 0, locals := 0 }) (va_Pc [.ref (ad (1000)), .int a0] (PM D A ad ns I L G)) (va_Qi (fun r u => u = (ad, ns, I, L, G) ∧ (r = I 1004 (24 * I 1001 5 + a0).toNatClampNeg)) (BM D A) A) 0 0 A := by
  refine m_ofW (by decide) (Nat.le_of_ble_eq_true rfl) ?_
  intro p e s m below meth c ls args hC hE hM hA hS hl
  obtain ⟨hx, hb, hml, hown, hts, hr, hlocks, hin⟩ := hC
  have k0 : (0 : Int32).toInt = 0 := by decide
  have k5 : (5 : Int32).toInt = 5 := by decide
  have k24 : (24 : Int32).toInt = 24 := by decide
  have hl : lv_has ls 2 [(0, .ref (ad (1000))), (1, .int (a0))] := hl
  refine lv_aload_n hx hb dX10_sunOf_0 rfl (lv_at hl 0 rfl) ?_
  refine m_getr (1000) 4 (1004) hx hb hts hown hE oc10 hM hJ.1 rfl (by decide) rfl (hJ.2 4 (by decide)).2 (by decide) tb_1181 dX10_sunOf_1 ?_
  refine lv_bipush (v := (24)) hx hb dX10_sunOf_4 (by decide) ?_
  refine lv_aload_n hx hb dX10_sunOf_6 rfl (lv_at hl 0 rfl) ?_
  refine m_getr (1000) 1 (1001) hx hb hts hown hE oc10 hM hJ.1 rfl (by decide) rfl (hJ.2 1 (by decide)).2 (by decide) tb_1178 dX10_sunOf_7 ?_
  refine lv_iconst (v := (5)) hx hb dX10_sunOf_10 (by decide) ?_
  refine m_iald (1001) hx hb hE hM (hJ.2 1 (by decide)).1 rfl (vp_in_iff.mpr (by decide)) dX10_sunOf_11 ?_
  rw [show (5 : Int32).toNatClampNeg = 5 from rfl]
  have g1 := hI.get (1001) 5 (lo := 0) (hi := 11) rfl
  refine lv_imul hx hb dX10_sunOf_12 ?_
  refine lv_topi (fun v2 ev2 => ?_)
  have tv2 := a_mulL (c := 24) ev2 (by decide) (by omega) (by omega)
  refine lv_iload_n hx hb dX10_sunOf_13 rfl (lv_at hl 1 rfl) ?_
  refine lv_iadd hx hb dX10_sunOf_14 ?_
  refine lv_topi (fun v3 ev3 => ?_)
  have tv3 := a_add ev3 (by omega) (by omega)
  refine m_iald (1004) hx hb hE hM (hJ.2 4 (by decide)).1 rfl (vp_in_iff.mpr (by omega)) dX10_sunOf_15 ?_
  exact m_iret hx hb hr hlocks hM hS (Nat.le_of_ble_eq_true rfl) (Nat.le_of_ble_eq_true rfl) ⟨rfl, (by subst ev2; subst ev3; rfl)⟩ dX10_sunOf_16
set_option maxHeartbeats 4000000 in
set_option maxRecDepth 20000 in
theorem V_X10_shines_l (l : Launch) (D : va_G) (A : Nat → Prop) (ad : Nat → Nat) (ns : List Nat) (I : MI) (L : ML) (G : MG) (a0 : Int32) (hJ : SGM ns G) (hI : INV I) (hMO : MOK I) (hbr : (I 1004 (24 * I 1001 5 + a0).toNatClampNeg).toInt ≠ -1) (ha0 : 0 ≤ a0.toInt ∧ a0.toInt ≤ 23) : Met l yX10_shines (wd yX10_shines cX10_shines 3 none) ({ frames := 4, cells := 0, slots := 0, locals := 106 }) (va_Pc [.ref (ad (1000)), .int a0] (PM D A ad ns I L G)) (va_Qv (fun u => ∃ I2 L2, u = (ad, ns, I2, L2, G) ∧ INV I2 ∧ Kp [(1045, 1051)] [(1000, 51), (1000, 52), (1000, 53), (1000, 54), (1000, 55), (1000, 56), (1000, 59)] I I2 ∧ (SHH I I2 (I 1001 3) (I 1004 (24 * I 1001 5 + a0).toNatClampNeg) (I 1005 (24 * I 1001 5 + a0).toNatClampNeg) ∧ (I2 1000 59).toInt = 0)) (BM D A) A) 0 0 A := by
  refine m_ofW (by decide) (Nat.le_of_ble_eq_true rfl) ?_
  intro p e s m below meth c ls args hC hE hM hA hS hl
  obtain ⟨hx, hb, hml, hown, hts, hr, hlocks, hin⟩ := hC
  have k0 : (0 : Int32).toInt = 0 := by decide
  have k3 : (3 : Int32).toInt = 3 := by decide
  have k5 : (5 : Int32).toInt = 5 := by decide
  have k8 : (8 : Int32).toInt = 8 := by decide
  have k24 : (24 : Int32).toInt = 24 := by decide
  have hK : Kp [(1045, 1051)] [(1000, 51), (1000, 52), (1000, 53), (1000, 54), (1000, 55), (1000, 56), (1000, 59)] I I := Kp.rf
  have hl : lv_has ls 3 [(0, .ref (ad (1000))), (1, .int (a0))] := hl
  refine lv_iconst (v := (0)) hx hb dX10_shines_0 (by decide) ?_
  refine lv_istore_n (lv' := [(2, .int (0)), (0, .ref (ad (1000))), (1, .int (a0))]) hx hb dX10_shines_1 rfl hl (by decide) rfl (fun ls hl => ?_)
  have loop2 : ∀ (n : Nat) (x2_2 : Int32) (Ia2 : MI) (La2 : ML) (H : Heap) (locs : List Loc) (ls : Array Slot), INV Ia2 → Kp [(1045, 1051)] [(1000, 51), (1000, 52), (1000, 53), (1000, 54), (1000, 55), (1000, 56), (1000, 59)] I Ia2 → (0 ≤ x2_2.toInt ∧ x2_2.toInt ≤ 8) → (Ia2 1000 59 = I 1000 59) → (∀ k : Nat, k < (x2_2).toNatClampNeg → Ia2 1050 k = 0) → (8 - x2_2.toInt).toNat < n → Mem D A ad ns Ia2 La2 G H → va_S A s.heap H locs → lv_has ls 3 [(2, .int (x2_2)), (0, .ref (ad (1000))), (1, .int (a0))] → W p l e ({ frames := 4, cells := 0, slots := 0, locals := 106 } : Room) s m args below meth c H locs 0 0 (MQ below (va_Qv (fun u => ∃ I2 L2, u = (ad, ns, I2, L2, G) ∧ INV I2 ∧ Kp [(1045, 1051)] [(1000, 51), (1000, 52), (1000, 53), (1000, 54), (1000, 55), (1000, 56), (1000, 59)] I I2 ∧ (SHH I I2 (I 1001 3) (I 1004 (24 * I 1001 5 + a0).toNatClampNeg) (I 1005 (24 * I 1001 5 + a0).toNatClampNeg) ∧ (I2 1000 59).toInt = 0)) (BM D A) A) args s 0 0 A) (F0 m 2 ls []) := by
    intro n
    induction n with
    | zero =>
      intro x2_2 Ia2 La2 H locs ls hI hK hr2_2 hs2s hg2 hmu
      exact absurd hmu (Nat.not_lt_zero _)
    | succ n ih2 =>
      intro x2_2 Ia2 La2 H locs ls hI hK hr2_2 hs2s hg2 hmu2 hM hS hl
      refine lv_iload_n hx hb dX10_shines_2 rfl (lv_at hl 0 rfl) ?_
      refine lv_bipush (v := (8)) hx hb dX10_shines_3 (by decide) ?_
      refine lv_icmp_ge (tgt := 21) hx hb dX10_shines_5 (by decide) (fun c1 => ?_) (fun c1 => ?_)
      · have hc1 := c1
        have q1 := q_le hc1
        refine lv_aload_n hx hb dX10_shines_21 rfl (lv_at hl 1 rfl) ?_
        refine lv_aload_n hx hb dX10_shines_22 rfl (lv_at hl 1 rfl) ?_
        refine m_getr (1000) 1 (1001) hx hb hts hown hE oc10 hM hJ.1 rfl (by decide) rfl (hJ.2 1 (by decide)).2 (by decide) tb_1178 dX10_shines_23 ?_
        refine lv_iconst (v := (3)) hx hb dX10_shines_26 (by decide) ?_
        refine m_iald (1001) hx hb hE hM (hJ.2 1 (by decide)).1 rfl (vp_in_iff.mpr (by decide)) dX10_shines_27 ?_
        rw [show (3 : Int32).toNatClampNeg = 3 from rfl]
        refine lv_aload_n hx hb dX10_shines_28 rfl (lv_at hl 1 rfl) ?_
        refine lv_iload_n hx hb dX10_shines_29 rfl (lv_at hl 2 rfl) ?_
        have e2m := hK.apm rfl 1001 (by decide) (by decide)
        have e4m := hK.apm rfl 1004 (by decide) (by decide)
        have e5m := hK.apm rfl 1005 (by decide) (by decide)
        refine m_calli (m_runV (1000) (As := [.int (a0)]) (rest := [.int (Ia2 (1001) 3), .ref (ad (1000))]) hx hb hml hown hts hE hM hS hA ce_X10_sunOf tb_1625 (V_X10_sunOf_l l D A ad ns Ia2 La2 G (a0) hJ hI (by first | omega | decide)) rfl rfl ⟨Nat.le_of_ble_eq_true rfl, Nat.le_of_ble_eq_true rfl⟩ hJ.1 rfl rfl (by decide) rfl hl.1 rfl (Nat.le_of_ble_eq_true rfl) dX10_shines_30 ⟨Nat.le_of_ble_eq_true rfl, Nat.le_of_ble_eq_true rfl⟩) hS (fun r2 u H locs hw hM hS => ?_)
        obtain ⟨rfl, xr2⟩ := hw
        have hM : Mem D A ad ns Ia2 La2 G H := hM
        refine lv_aload_n hx hb dX10_shines_33 rfl (lv_at hl 1 rfl) ?_
        refine m_getr (1000) 5 (1005) hx hb hts hown hE oc10 hM hJ.1 rfl (by decide) rfl (hJ.2 5 (by decide)).2 (by decide) tb_1182 dX10_shines_34 ?_
        refine lv_bipush (v := (24)) hx hb dX10_shines_37 (by decide) ?_
        refine lv_aload_n hx hb dX10_shines_39 rfl (lv_at hl 1 rfl) ?_
        refine m_getr (1000) 1 (1001) hx hb hts hown hE oc10 hM hJ.1 rfl (by decide) rfl (hJ.2 1 (by decide)).2 (by decide) tb_1178 dX10_shines_40 ?_
        refine lv_iconst (v := (5)) hx hb dX10_shines_43 (by decide) ?_
        refine m_iald (1001) hx hb hE hM (hJ.2 1 (by decide)).1 rfl (vp_in_iff.mpr (by decide)) dX10_shines_44 ?_
        rw [show (5 : Int32).toNatClampNeg = 5 from rfl]
        have g3 := hI.get (1001) 5 (lo := 0) (hi := 11) rfl
        refine lv_imul hx hb dX10_shines_45 ?_
        refine lv_topi (fun v4 ev4 => ?_)
        have tv4 := a_mulL (c := 24) ev4 (by decide) (by omega) (by omega)
        refine lv_iload_n hx hb dX10_shines_46 rfl (lv_at hl 2 rfl) ?_
        refine lv_iadd hx hb dX10_shines_47 ?_
        refine lv_topi (fun v5 ev5 => ?_)
        have tv5 := a_add ev5 (by omega) (by omega)
        refine m_iald (1005) hx hb hE hM (hJ.2 5 (by decide)).1 rfl (vp_in_iff.mpr (by omega)) dX10_shines_48 ?_
        have hKb := hK
        have hxi : v5 = 24 * I 1001 5 + a0 := by rw [ev5, ev4, ← congrFun e2m 5]
        have hsn := hMO.2.2.2.2 (v5).toNatClampNeg (by have z := tn (i := v5) (by omega); omega)
        have hgp := hMO.2.2.1
        have hsw : r2 = I 1004 (v5).toNatClampNeg := by rw [xr2, e2m, e4m, hxi]
        have hst : Ia2 1005 (v5).toNatClampNeg = I 1005 (v5).toNatClampNeg := congrFun e5m _
        have hgc : Ia2 1001 3 = I 1001 3 := congrFun e2m 3
        have hsq := congrArg Int32.toInt hsw
        have hsr := congrArg Int32.toInt hst
        have hsg := congrArg Int32.toInt hgc
        have hbq : (I 1004 (v5).toNatClampNeg).toInt ≠ -1 := by rw [hxi]; exact hbr
        refine m_callv (m_runV (1000) (As := [.int (Ia2 (1001) 3), .int (r2), .int (Ia2 (1005) (v5).toNatClampNeg)]) (rest := []) hx hb hml hown hts hE hM hS hA ce_X10_traces tb_1644 (V_X10_traces_l l D A ad ns Ia2 La2 G (Ia2 (1001) 3) (r2) (Ia2 (1005) (v5).toNatClampNeg) hJ hI (hMO.kp hK rfl hs2s) (fun k hk => hg2 k (by have z := tn (i := x2_2) (by omega); omega)) (by first | omega | decide) (by first | omega | decide) (by first | omega | decide)) rfl rfl ⟨Nat.le_of_ble_eq_true rfl, Nat.le_of_ble_eq_true rfl⟩ hJ.1 rfl rfl (by decide) rfl hl.1 rfl (Nat.le_of_ble_eq_true rfl) dX10_shines_49 ⟨Nat.le_of_ble_eq_true rfl, Nat.le_of_ble_eq_true rfl⟩) hS (fun u H locs hw hM hS => ?_)
        obtain ⟨I6, L7, rfl, hI, hkI6, xI6⟩ := hw
        have hM : Mem D A ad ns I6 L7 G H := hM
        have hK := hK.trans hkI6 rfl
        exact m_vret hx hb hr hlocks hM hS (Nat.le_of_ble_eq_true rfl) (Nat.le_of_ble_eq_true rfl) ⟨_, _, rfl, hI, hK, ⟨by have hx := xI6.1; rw [hsw, hst, hgc, hxi] at hx; obtain ⟨S2, h1, h2⟩ := hx; refine ⟨S2, h1, ?_⟩; rw [← twM_kp hKb rfl]; exact h2, xI6.2⟩⟩ dX10_shines_52
      · have hc1 := c1
        have q1 := q_nle hc1
        refine lv_aload_n hx hb dX10_shines_8 rfl (lv_at hl 1 rfl) ?_
        refine m_getr (1000) 50 (1050) hx hb hts hown hE oc10 hM hJ.1 rfl (by decide) rfl (hJ.2 50 (by decide)).2 (by decide) tb_1227 dX10_shines_9 ?_
        refine lv_iload_n hx hb dX10_shines_12 rfl (lv_at hl 0 rfl) ?_
        refine lv_iconst (v := (0)) hx hb dX10_shines_13 (by decide) ?_
        refine m_iast (1050) hx hb hE hM hS (hJ.2 50 (by decide)).1 rfl (vp_in_iff.mpr (by omega)) dX10_shines_14 (fun H locs I8 eI8 hM hS => ?_)
        subst eI8
        have hI := hI.putF (n := 1050) (k := ((x2_2).toNatClampNeg)) (v := 0) rfl
        have hK := hK.put (n := 1050) (k := ((x2_2).toNatClampNeg)) (v := 0) (by first | rfl | simp [inR])
        obtain ⟨v9, ev9⟩ : ∃ z : Int32, z = x2_2 + Int32.ofInt (1) := ⟨_, rfl⟩
        have tv9 := a_inc ev9 (by decide) (by omega) (by omega)
        refine lv_iinc (v := v9) (lv' := [(2, .int (v9)), (0, .ref (ad (1000))), (1, .int (a0))]) hx hb dX10_shines_15 hl (k := 0) rfl ev9.symm (by decide) rfl (fun ls hl => ?_)
        refine lv_goto (tgt := 2) hx hb dX10_shines_18 (by decide) ?_
        exact ih2 (v9) (u2 Ia2 (1050) ((x2_2).toNatClampNeg) (0)) La2 _ _ ls hI hK (by first | omega | decide) (by rw [u2_ne _ _ _ (by decide)]; exact hs2s) (fun k hk => by have z1 := tn (i := x2_2) (by omega); have z2 := tn (i := v9) (by omega); rw [u2_v]; by_cases hq : k = (x2_2).toNatClampNeg; rw [if_pos ⟨rfl, hq⟩]; rw [if_neg (fun z => hq z.2)]; exact hg2 k (by omega)) (by omega) hM hS (lv_sub hl [0, 1, 2] rfl)
  exact loop2 (_ + 1) (0) I L _ _ ls hI hK (by first | omega | decide) rfl (fun k hk => absurd hk (Nat.not_lt_zero k)) (Nat.lt_succ_self _) hM hS (lv_sub hl [0, 1, 2] rfl)
set_option maxHeartbeats 4000000 in
set_option maxRecDepth 20000 in
theorem V_X10_allGot_l (l : Launch) (D : va_G) (A : Nat → Prop) (ad : Nat → Nat) (ns : List Nat) (I : MI) (L : ML) (G : MG) (hJ : SGM ns G) (hI : INV I) : Met l yX10_allGot (wd yX10_allGot cX10_allGot 3 (some .int)) ({ frames := 0, cells := 0, slots := 0, locals := 0 }) (va_Pc [.ref (ad (1000))] (PM D A ad ns I L G)) (va_Qi (fun r u => u = (ad, ns, I, L, G) ∧ (r = sumN (I 1001 9).toNatClampNeg (I 1050))) (BM D A) A) 0 0 A := by
  refine m_ofW (by decide) (Nat.le_of_ble_eq_true rfl) ?_
  intro p e s m below meth c ls args hC hE hM hA hS hl
  obtain ⟨hx, hb, hml, hown, hts, hr, hlocks, hin⟩ := hC
  have k0 : (0 : Int32).toInt = 0 := by decide
  have k9 : (9 : Int32).toInt = 9 := by decide
  have hl : lv_has ls 3 [(0, .ref (ad (1000)))] := hl
  refine lv_iconst (v := (0)) hx hb dX10_allGot_0 (by decide) ?_
  refine lv_istore_n (lv' := [(1, .int (0)), (0, .ref (ad (1000)))]) hx hb dX10_allGot_1 rfl hl (by decide) rfl (fun ls hl => ?_)
  refine lv_iconst (v := (0)) hx hb dX10_allGot_2 (by decide) ?_
  refine lv_istore_n (lv' := [(2, .int (0)), (1, .int (0)), (0, .ref (ad (1000)))]) hx hb dX10_allGot_3 rfl hl (by decide) rfl (fun ls hl => ?_)
  have loop4 : ∀ (n : Nat) (x2_4 : Int32) (x1_4 : Int32) (H : Heap) (locs : List Loc) (ls : Array Slot), (0 ≤ x2_4.toInt ∧ x2_4.toInt ≤ 8) → ((x2_4).toInt ≤ (I 1001 9).toInt) → (x1_4 = sumN (x2_4).toNatClampNeg (I 1050)) → (8 - x2_4.toInt).toNat < n → Mem D A ad ns I L G H → va_S A s.heap H locs → lv_has ls 3 [(2, .int (x2_4)), (1, .int (x1_4)), (0, .ref (ad (1000)))] → W p l e ({ frames := 0, cells := 0, slots := 0, locals := 0 } : Room) s m args below meth c H locs 0 0 (MQ below (va_Qi (fun r u => u = (ad, ns, I, L, G) ∧ (r = sumN (I 1001 9).toNatClampNeg (I 1050))) (BM D A) A) args s 0 0 A) (F0 m 4 ls []) := by
    intro n
    induction n with
    | zero =>
      intro x2_4 x1_4 H locs ls hr2_4 hle4 hs4 hmu
      exact absurd hmu (Nat.not_lt_zero _)
    | succ n ih4 =>
      intro x2_4 x1_4 H locs ls hr2_4 hle4 hs4 hmu4 hM hS hl
      refine lv_iload_n hx hb dX10_allGot_4 rfl (lv_at hl 0 rfl) ?_
      refine lv_aload_n hx hb dX10_allGot_5 rfl (lv_at hl 2 rfl) ?_
      refine m_getr (1000) 1 (1001) hx hb hts hown hE oc10 hM hJ.1 rfl (by decide) rfl (hJ.2 1 (by decide)).2 (by decide) tb_1178 dX10_allGot_6 ?_
      refine lv_bipush (v := (9)) hx hb dX10_allGot_9 (by decide) ?_
      refine m_iald (1001) hx hb hE hM (hJ.2 1 (by decide)).1 rfl (vp_in_iff.mpr (by decide)) dX10_allGot_11 ?_
      rw [show (9 : Int32).toNatClampNeg = 9 from rfl]
      have g1 := hI.get (1001) 9 (lo := 0) (hi := 8) rfl
      refine lv_icmp_ge (tgt := 30) hx hb dX10_allGot_12 (by decide) (fun c2 => ?_) (fun c2 => ?_)
      · have hc2 := c2
        have q2 := q_le hc2
        refine lv_iload_n hx hb dX10_allGot_30 rfl (lv_at hl 1 rfl) ?_
        exact m_iret hx hb hr hlocks hM hS (Nat.le_of_ble_eq_true rfl) (Nat.le_of_ble_eq_true rfl) ⟨rfl, (by rw [hs4, show (x2_4).toNatClampNeg = (I 1001 9).toNatClampNeg from congrArg Int32.toNatClampNeg (Int32.toInt_inj.mp (by omega))])⟩ dX10_allGot_31
      · have hc2 := c2
        have q2 := q_nle hc2
        refine lv_iload_n hx hb dX10_allGot_15 rfl (lv_at hl 1 rfl) ?_
        refine lv_aload_n hx hb dX10_allGot_16 rfl (lv_at hl 2 rfl) ?_
        refine m_getr (1000) 50 (1050) hx hb hts hown hE oc10 hM hJ.1 rfl (by decide) rfl (hJ.2 50 (by decide)).2 (by decide) tb_1227 dX10_allGot_17 ?_
        refine lv_iload_n hx hb dX10_allGot_20 rfl (lv_at hl 0 rfl) ?_
        refine m_iald (1050) hx hb hE hM (hJ.2 50 (by decide)).1 rfl (vp_in_iff.mpr (by omega)) dX10_allGot_21 ?_
        refine lv_iadd hx hb dX10_allGot_22 ?_
        refine lv_topi (fun v3 ev3 => ?_)
        refine lv_istore_n (lv' := [(1, .int (v3)), (2, .int (x2_4)), (0, .ref (ad (1000)))]) hx hb dX10_allGot_23 rfl hl (by decide) rfl (fun ls hl => ?_)
        obtain ⟨v4, ev4⟩ : ∃ z : Int32, z = x2_4 + Int32.ofInt (1) := ⟨_, rfl⟩
        have tv4 := a_inc ev4 (by decide) (by omega) (by omega)
        refine lv_iinc (v := v4) (lv' := [(2, .int (v4)), (1, .int (v3)), (0, .ref (ad (1000)))]) hx hb dX10_allGot_24 hl (k := 1) rfl ev4.symm (by decide) rfl (fun ls hl => ?_)
        refine lv_goto (tgt := 4) hx hb dX10_allGot_27 (by decide) ?_
        exact ih4 (v4) (v3) _ _ ls (by first | omega | decide) (by omega) (by rw [ev3, hs4, show (v4).toNatClampNeg = (x2_4).toNatClampNeg + 1 from by have z := tn (i := x2_4) (by omega); have z2 := tn (i := v4) (by omega); omega]; rfl) (by omega) hM hS (lv_sub hl [0, 1, 2] rfl)
  exact loop4 (_ + 1) (0) (0) _ _ ls (by first | omega | decide) (by have := hI.get 1001 9 (lo := 0) (hi := 8) rfl; omega) rfl (Nat.lt_succ_self _) hM hS (lv_sub hl [0, 1, 2] rfl)
set_option maxHeartbeats 4000000 in
set_option maxRecDepth 20000 in
theorem V_X10_blindCells_l (l : Launch) (D : va_G) (A : Nat → Prop) (ad : Nat → Nat) (ns : List Nat) (I : MI) (L : ML) (G : MG) (hJ : SGM ns G) (hI : INV I) : Met l yX10_blindCells (wd yX10_blindCells cX10_blindCells 3 (some .int)) ({ frames := 0, cells := 0, slots := 0, locals := 0 }) (va_Pc [.ref (ad (1000))] (PM D A ad ns I L G)) (va_Qi (fun r u => u = (ad, ns, I, L, G) ∧ (r = blN 576 (I 1003) (I 1049))) (BM D A) A) 0 0 A := by
  refine m_ofW (by decide) (Nat.le_of_ble_eq_true rfl) ?_
  intro p e s m below meth c ls args hC hE hM hA hS hl
  obtain ⟨hx, hb, hml, hown, hts, hr, hlocks, hin⟩ := hC
  have km1 : (-1 : Int32).toInt = -1 := by decide
  have k0 : (0 : Int32).toInt = 0 := by decide
  have k1 : (1 : Int32).toInt = 1 := by decide
  have k576 : (576 : Int32).toInt = 576 := by decide
  have hl : lv_has ls 3 [(0, .ref (ad (1000)))] := hl
  refine lv_iconst (v := (0)) hx hb dX10_blindCells_0 (by decide) ?_
  refine lv_istore_n (lv' := [(1, .int (0)), (0, .ref (ad (1000)))]) hx hb dX10_blindCells_1 rfl hl (by decide) rfl (fun ls hl => ?_)
  refine lv_iconst (v := (0)) hx hb dX10_blindCells_2 (by decide) ?_
  refine lv_istore_n (lv' := [(2, .int (0)), (1, .int (0)), (0, .ref (ad (1000)))]) hx hb dX10_blindCells_3 rfl hl (by decide) rfl (fun ls hl => ?_)
  have loop4 : ∀ (n : Nat) (x2_4 : Int32) (x1_4 : Int32) (H : Heap) (locs : List Loc) (ls : Array Slot), (0 ≤ x2_4.toInt ∧ x2_4.toInt ≤ 576) → (x1_4 = blN (x2_4).toNatClampNeg (I 1003) (I 1049)) → (576 - x2_4.toInt).toNat < n → Mem D A ad ns I L G H → va_S A s.heap H locs → lv_has ls 3 [(2, .int (x2_4)), (1, .int (x1_4)), (0, .ref (ad (1000)))] → W p l e ({ frames := 0, cells := 0, slots := 0, locals := 0 } : Room) s m args below meth c H locs 0 0 (MQ below (va_Qi (fun r u => u = (ad, ns, I, L, G) ∧ (r = blN 576 (I 1003) (I 1049))) (BM D A) A) args s 0 0 A) (F0 m 4 ls []) := by
    intro n
    induction n with
    | zero =>
      intro x2_4 x1_4 H locs ls hr2_4 hs4 hmu
      exact absurd hmu (Nat.not_lt_zero _)
    | succ n ih4 =>
      intro x2_4 x1_4 H locs ls hr2_4 hs4 hmu4 hM hS hl
      refine lv_iload_n hx hb dX10_blindCells_4 rfl (lv_at hl 0 rfl) ?_
      refine lv_sipush (v := (576)) hx hb dX10_blindCells_5 (by decide) ?_
      refine lv_icmp_ge (tgt := 50) hx hb dX10_blindCells_8 (by decide) (fun c1 => ?_) (fun c1 => ?_)
      · have hc1 := c1
        have q1 := q_le hc1
        refine lv_iload_n hx hb dX10_blindCells_50 rfl (lv_at hl 1 rfl) ?_
        exact m_iret hx hb hr hlocks hM hS (Nat.le_of_ble_eq_true rfl) (Nat.le_of_ble_eq_true rfl) ⟨rfl, (by rw [hs4, show (x2_4).toNatClampNeg = 576 from by have z := tn (i := x2_4) (by omega); omega])⟩ dX10_blindCells_51
      · have hc1 := c1
        have q1 := q_nle hc1
        refine lv_iload_n hx hb dX10_blindCells_11 rfl (lv_at hl 1 rfl) ?_
        refine lv_aload_n hx hb dX10_blindCells_12 rfl (lv_at hl 2 rfl) ?_
        refine m_getr (1000) 3 (1003) hx hb hts hown hE oc10 hM hJ.1 rfl (by decide) rfl (hJ.2 3 (by decide)).2 (by decide) tb_1180 dX10_blindCells_13 ?_
        refine lv_iload_n hx hb dX10_blindCells_16 rfl (lv_at hl 0 rfl) ?_
        refine m_iald (1003) hx hb hE hM (hJ.2 3 (by decide)).1 rfl (vp_in_iff.mpr (by omega)) dX10_blindCells_17 ?_
        refine lv_iconst (v := (-1)) hx hb dX10_blindCells_18 (by decide) ?_
        refine lv_icmp_eq (tgt := 41) hx hb dX10_blindCells_19 (by decide) (fun c2 => ?_) (fun c2 => ?_)
        · have hc2 := c2
          have q2 := q_eq hc2
          refine lv_iconst (v := (0)) hx hb dX10_blindCells_41 (by decide) ?_
          refine lv_iadd hx hb dX10_blindCells_42 ?_
          refine lv_topi (fun v3 ev3 => ?_)
          refine lv_istore_n (lv' := [(1, .int (v3)), (2, .int (x2_4)), (0, .ref (ad (1000)))]) hx hb dX10_blindCells_43 rfl hl (by decide) rfl (fun ls hl => ?_)
          obtain ⟨v4, ev4⟩ : ∃ z : Int32, z = x2_4 + Int32.ofInt (1) := ⟨_, rfl⟩
          have tv4 := a_inc ev4 (by decide) (by omega) (by omega)
          refine lv_iinc (v := v4) (lv' := [(2, .int (v4)), (1, .int (v3)), (0, .ref (ad (1000)))]) hx hb dX10_blindCells_44 hl (k := 1) rfl ev4.symm (by decide) rfl (fun ls hl => ?_)
          refine lv_goto (tgt := 4) hx hb dX10_blindCells_47 (by decide) ?_
          exact ih4 (v4) (v3) _ _ ls (by first | omega | decide) (by rw [show (v4).toNatClampNeg = (x2_4).toNatClampNeg + 1 from by have z := tn (i := x2_4) (by omega); have z2 := tn (i := v4) (by omega); omega, blN_n (fun hh => by have h1 := hh.1; have h2 := hh.2; omega), ev3, hs4]; exact i_adz _) (by omega) hM hS (lv_sub hl [0, 1, 2] rfl)
        · have hc2 := c2
          have q2 := q_ne hc2
          refine lv_aload_n hx hb dX10_blindCells_22 rfl (lv_at hl 2 rfl) ?_
          refine m_getr (1000) 49 (1049) hx hb hts hown hE oc10 hM hJ.1 rfl (by decide) rfl (hJ.2 49 (by decide)).2 (by decide) tb_1226 dX10_blindCells_23 ?_
          refine lv_iload_n hx hb dX10_blindCells_26 rfl (lv_at hl 0 rfl) ?_
          refine m_iald (1049) hx hb hE hM (hJ.2 49 (by decide)).1 rfl (vp_in_iff.mpr (by omega)) dX10_blindCells_27 ?_
          refine lv_aload_n hx hb dX10_blindCells_28 rfl (lv_at hl 2 rfl) ?_
          refine m_getr (1000) 3 (1003) hx hb hts hown hE oc10 hM hJ.1 rfl (by decide) rfl (hJ.2 3 (by decide)).2 (by decide) tb_1180 dX10_blindCells_29 ?_
          refine lv_iload_n hx hb dX10_blindCells_32 rfl (lv_at hl 0 rfl) ?_
          refine m_iald (1003) hx hb hE hM (hJ.2 3 (by decide)).1 rfl (vp_in_iff.mpr (by omega)) dX10_blindCells_33 ?_
          refine lv_icmp_le (tgt := 41) hx hb dX10_blindCells_34 (by decide) (fun c5 => ?_) (fun c5 => ?_)
          · have hc5 := c5
            have q5 := q_le hc5
            refine lv_iconst (v := (0)) hx hb dX10_blindCells_41 (by decide) ?_
            refine lv_iadd hx hb dX10_blindCells_42 ?_
            refine lv_topi (fun v6 ev6 => ?_)
            refine lv_istore_n (lv' := [(1, .int (v6)), (2, .int (x2_4)), (0, .ref (ad (1000)))]) hx hb dX10_blindCells_43 rfl hl (by decide) rfl (fun ls hl => ?_)
            obtain ⟨v7, ev7⟩ : ∃ z : Int32, z = x2_4 + Int32.ofInt (1) := ⟨_, rfl⟩
            have tv7 := a_inc ev7 (by decide) (by omega) (by omega)
            refine lv_iinc (v := v7) (lv' := [(2, .int (v7)), (1, .int (v6)), (0, .ref (ad (1000)))]) hx hb dX10_blindCells_44 hl (k := 1) rfl ev7.symm (by decide) rfl (fun ls hl => ?_)
            refine lv_goto (tgt := 4) hx hb dX10_blindCells_47 (by decide) ?_
            exact ih4 (v7) (v6) _ _ ls (by first | omega | decide) (by rw [show (v7).toNatClampNeg = (x2_4).toNatClampNeg + 1 from by have z := tn (i := x2_4) (by omega); have z2 := tn (i := v7) (by omega); omega, blN_n (fun hh => by have h1 := hh.1; have h2 := hh.2; omega), ev6, hs4]; exact i_adz _) (by omega) hM hS (lv_sub hl [0, 1, 2] rfl)
          · have hc5 := c5
            have q5 := q_nle hc5
            refine lv_iconst (v := (1)) hx hb dX10_blindCells_37 (by decide) ?_
            refine lv_goto (tgt := 42) hx hb dX10_blindCells_38 (by decide) ?_
            refine lv_iadd hx hb dX10_blindCells_42 ?_
            refine lv_topi (fun v8 ev8 => ?_)
            refine lv_istore_n (lv' := [(1, .int (v8)), (2, .int (x2_4)), (0, .ref (ad (1000)))]) hx hb dX10_blindCells_43 rfl hl (by decide) rfl (fun ls hl => ?_)
            obtain ⟨v9, ev9⟩ : ∃ z : Int32, z = x2_4 + Int32.ofInt (1) := ⟨_, rfl⟩
            have tv9 := a_inc ev9 (by decide) (by omega) (by omega)
            refine lv_iinc (v := v9) (lv' := [(2, .int (v9)), (1, .int (v8)), (0, .ref (ad (1000)))]) hx hb dX10_blindCells_44 hl (k := 1) rfl ev9.symm (by decide) rfl (fun ls hl => ?_)
            refine lv_goto (tgt := 4) hx hb dX10_blindCells_47 (by decide) ?_
            exact ih4 (v9) (v8) _ _ ls (by first | omega | decide) (by rw [show (v9).toNatClampNeg = (x2_4).toNatClampNeg + 1 from by have z := tn (i := x2_4) (by omega); have z2 := tn (i := v9) (by omega); omega, blN_y ⟨by omega, by omega⟩, ev8, hs4]) (by omega) hM hS (lv_sub hl [0, 1, 2] rfl)
  exact loop4 (_ + 1) (0) (0) _ _ ls (by first | omega | decide) rfl (Nat.lt_succ_self _) hM hS (lv_sub hl [0, 1, 2] rfl)
set_option maxHeartbeats 4000000 in
set_option maxRecDepth 20000 in
theorem V_X10_firstBlind_l (l : Launch) (D : va_G) (A : Nat → Prop) (ad : Nat → Nat) (ns : List Nat) (I : MI) (L : ML) (G : MG) (hJ : SGM ns G) (hI : INV I) : Met l yX10_firstBlind (wd yX10_firstBlind cX10_firstBlind 2 (some .int)) ({ frames := 0, cells := 0, slots := 0, locals := 0 }) (va_Pc [.ref (ad (1000))] (PM D A ad ns I L G)) (va_Qi (fun r u => u = (ad, ns, I, L, G) ∧ (fsB (I 1003) (I 1049) r)) (BM D A) A) 0 0 A := by
  refine m_ofW (by decide) (Nat.le_of_ble_eq_true rfl) ?_
  intro p e s m below meth c ls args hC hE hM hA hS hl
  obtain ⟨hx, hb, hml, hown, hts, hr, hlocks, hin⟩ := hC
  have km2 : (-2 : Int32).toInt = -2 := by decide
  have km1 : (-1 : Int32).toInt = -1 := by decide
  have k0 : (0 : Int32).toInt = 0 := by decide
  have k576 : (576 : Int32).toInt = 576 := by decide
  have hl : lv_has ls 2 [(0, .ref (ad (1000)))] := hl
  refine lv_iconst (v := (0)) hx hb dX10_firstBlind_0 (by decide) ?_
  refine lv_istore_n (lv' := [(1, .int (0)), (0, .ref (ad (1000)))]) hx hb dX10_firstBlind_1 rfl hl (by decide) rfl (fun ls hl => ?_)
  have loop2 : ∀ (n : Nat) (x1_2 : Int32) (H : Heap) (locs : List Loc) (ls : Array Slot), (0 ≤ x1_2.toInt ∧ x1_2.toInt ≤ 576) → (∀ c : Nat, c < (x1_2).toNatClampNeg → ¬ bln (I 1003) (I 1049) c) → (576 - x1_2.toInt).toNat < n → Mem D A ad ns I L G H → va_S A s.heap H locs → lv_has ls 2 [(1, .int (x1_2)), (0, .ref (ad (1000)))] → W p l e ({ frames := 0, cells := 0, slots := 0, locals := 0 } : Room) s m args below meth c H locs 0 0 (MQ below (va_Qi (fun r u => u = (ad, ns, I, L, G) ∧ (fsB (I 1003) (I 1049) r)) (BM D A) A) args s 0 0 A) (F0 m 2 ls []) := by
    intro n
    induction n with
    | zero =>
      intro x1_2 H locs ls hr1_2 hs2 hmu
      exact absurd hmu (Nat.not_lt_zero _)
    | succ n ih2 =>
      intro x1_2 H locs ls hr1_2 hs2 hmu2 hM hS hl
      refine lv_iload_n hx hb dX10_firstBlind_2 rfl (lv_at hl 0 rfl) ?_
      refine lv_sipush (v := (576)) hx hb dX10_firstBlind_3 (by decide) ?_
      refine lv_icmp_ge (tgt := 42) hx hb dX10_firstBlind_6 (by decide) (fun c1 => ?_) (fun c1 => ?_)
      · have hc1 := c1
        have q1 := q_le hc1
        refine lv_bipush (v := (-2)) hx hb dX10_firstBlind_42 (by decide) ?_
        exact m_iret hx hb hr hlocks hM hS (Nat.le_of_ble_eq_true rfl) (Nat.le_of_ble_eq_true rfl) ⟨rfl, (Or.inl ⟨by decide, fun c hc => hs2 c (by have z := tn (i := x1_2) (by omega); omega)⟩)⟩ dX10_firstBlind_44
      · have hc1 := c1
        have q1 := q_nle hc1
        refine lv_aload_n hx hb dX10_firstBlind_9 rfl (lv_at hl 1 rfl) ?_
        refine m_getr (1000) 3 (1003) hx hb hts hown hE oc10 hM hJ.1 rfl (by decide) rfl (hJ.2 3 (by decide)).2 (by decide) tb_1180 dX10_firstBlind_10 ?_
        refine lv_iload_n hx hb dX10_firstBlind_13 rfl (lv_at hl 0 rfl) ?_
        refine m_iald (1003) hx hb hE hM (hJ.2 3 (by decide)).1 rfl (vp_in_iff.mpr (by omega)) dX10_firstBlind_14 ?_
        refine lv_iconst (v := (-1)) hx hb dX10_firstBlind_15 (by decide) ?_
        refine lv_icmp_eq (tgt := 36) hx hb dX10_firstBlind_16 (by decide) (fun c2 => ?_) (fun c2 => ?_)
        · have hc2 := c2
          have q2 := q_eq hc2
          obtain ⟨v3, ev3⟩ : ∃ z : Int32, z = x1_2 + Int32.ofInt (1) := ⟨_, rfl⟩
          have tv3 := a_inc ev3 (by decide) (by omega) (by omega)
          refine lv_iinc (v := v3) (lv' := [(1, .int (v3)), (0, .ref (ad (1000)))]) hx hb dX10_firstBlind_36 hl (k := 0) rfl ev3.symm (by decide) rfl (fun ls hl => ?_)
          refine lv_goto (tgt := 2) hx hb dX10_firstBlind_39 (by decide) ?_
          exact ih2 (v3) _ _ ls (by first | omega | decide) (fun c hc => by have z := tn (i := x1_2) (by omega); have z2 := tn (i := v3) (by omega); by_cases hq : c < (x1_2).toNatClampNeg; exact hs2 c hq; rw [show c = (x1_2).toNatClampNeg from by omega]; exact fun hh => by have h1 := hh.1; have h2 := hh.2; omega) (by omega) hM hS (lv_sub hl [0, 1] rfl)
        · have hc2 := c2
          have q2 := q_ne hc2
          refine lv_aload_n hx hb dX10_firstBlind_19 rfl (lv_at hl 1 rfl) ?_
          refine m_getr (1000) 49 (1049) hx hb hts hown hE oc10 hM hJ.1 rfl (by decide) rfl (hJ.2 49 (by decide)).2 (by decide) tb_1226 dX10_firstBlind_20 ?_
          refine lv_iload_n hx hb dX10_firstBlind_23 rfl (lv_at hl 0 rfl) ?_
          refine m_iald (1049) hx hb hE hM (hJ.2 49 (by decide)).1 rfl (vp_in_iff.mpr (by omega)) dX10_firstBlind_24 ?_
          refine lv_aload_n hx hb dX10_firstBlind_25 rfl (lv_at hl 1 rfl) ?_
          refine m_getr (1000) 3 (1003) hx hb hts hown hE oc10 hM hJ.1 rfl (by decide) rfl (hJ.2 3 (by decide)).2 (by decide) tb_1180 dX10_firstBlind_26 ?_
          refine lv_iload_n hx hb dX10_firstBlind_29 rfl (lv_at hl 0 rfl) ?_
          refine m_iald (1003) hx hb hE hM (hJ.2 3 (by decide)).1 rfl (vp_in_iff.mpr (by omega)) dX10_firstBlind_30 ?_
          refine lv_icmp_le (tgt := 36) hx hb dX10_firstBlind_31 (by decide) (fun c4 => ?_) (fun c4 => ?_)
          · have hc4 := c4
            have q4 := q_le hc4
            obtain ⟨v5, ev5⟩ : ∃ z : Int32, z = x1_2 + Int32.ofInt (1) := ⟨_, rfl⟩
            have tv5 := a_inc ev5 (by decide) (by omega) (by omega)
            refine lv_iinc (v := v5) (lv' := [(1, .int (v5)), (0, .ref (ad (1000)))]) hx hb dX10_firstBlind_36 hl (k := 0) rfl ev5.symm (by decide) rfl (fun ls hl => ?_)
            refine lv_goto (tgt := 2) hx hb dX10_firstBlind_39 (by decide) ?_
            exact ih2 (v5) _ _ ls (by first | omega | decide) (fun c hc => by have z := tn (i := x1_2) (by omega); have z2 := tn (i := v5) (by omega); by_cases hq : c < (x1_2).toNatClampNeg; exact hs2 c hq; rw [show c = (x1_2).toNatClampNeg from by omega]; exact fun hh => by have h1 := hh.1; have h2 := hh.2; omega) (by omega) hM hS (lv_sub hl [0, 1] rfl)
          · have hc4 := c4
            have q4 := q_nle hc4
            refine lv_iload_n hx hb dX10_firstBlind_34 rfl (lv_at hl 0 rfl) ?_
            exact m_iret hx hb hr hlocks hM hS (Nat.le_of_ble_eq_true rfl) (Nat.le_of_ble_eq_true rfl) ⟨rfl, (Or.inr ⟨by omega, by omega, ⟨by omega, by omega⟩, hs2⟩)⟩ dX10_firstBlind_35
  exact loop2 (_ + 1) (0) _ _ ls (by first | omega | decide) (fun c hc => absurd hc (Nat.not_lt_zero c)) (Nat.lt_succ_self _) hM hS (lv_sub hl [0, 1] rfl)
