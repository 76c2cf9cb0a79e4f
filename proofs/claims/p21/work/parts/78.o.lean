set_option maxHeartbeats 4000000 in
set_option maxRecDepth 20000 in
theorem V_X10_law_h (l : Launch) (D : va_G) (A : Nat → Prop) (ad : Nat → Nat) (ns : List Nat) (I : MI) (L : ML) (G : MG) (hJ : SGM ns G) (hI : INV I) (hLM : LWM I) (hbt : BTM I) : Met l yX10_law (wd yX10_law cX10_law 3 (some .int)) ({ frames := 12, cells := 0, slots := 0, locals := 262 }) (va_Pc [.ref (ad (1000))] (PM D A ad ns I L G)) (va_Qi (fun r u => ∃ I2 L2, u = (ad, ns, I2, L2, G) ∧ INV I2 ∧ Kp [(1035, 1043)] [(1000, 24), (1000, 25), (1000, 26), (1000, 27), (1000, 28), (1000, 29), (1000, 30), (1000, 31), (1000, 32)] I I2 ∧ (LAWM I I2 r ∧ LWM I2)) (BM D A) A) 0 0 A := by
  refine m_ofW (by decide) (Nat.le_of_ble_eq_true rfl) ?_
  intro p e s m below meth c ls args hC hE hM hA hS hl
  obtain ⟨hx, hb, hml, hown, hts, hr, hlocks, hin⟩ := hC
  have km2 : (-2 : Int32).toInt = -2 := by decide
  have km1 : (-1 : Int32).toInt = -1 := by decide
  have k0 : (0 : Int32).toInt = 0 := by decide
  have k1 : (1 : Int32).toInt = 1 := by decide
  have k6 : (6 : Int32).toInt = 6 := by decide
  have k59 : (59 : Int32).toInt = 59 := by decide
  have hI0 := hI
  have gl0 := hI.get 1000 28 (lo := 0) (hi := 6) rfl
  have hT := TM_ok hI
  have k1 : (1 : Int32).toInt = 1 := by decide
  have hK : Kp [(1035, 1043)] [(1000, 24), (1000, 25), (1000, 26), (1000, 27), (1000, 28), (1000, 29), (1000, 30), (1000, 31), (1000, 32)] I I := Kp.rf
  have hl : lv_has ls 3 [(0, .ref (ad (1000)))] := hl
  refine lv_aload_n hx hb dX10_law_0 rfl (lv_at hl 0 rfl) ?_
  refine m_geti (1000) 28 hx hb hts hown hE oc10 hM hJ.1 rfl (by decide) rfl tb_1205 dX10_law_1 ?_
  have g1 := hI.get (1000) 28 (lo := 0) (hi := 6) rfl
  refine lv_bipush (v := (6)) hx hb dX10_law_4 (by decide) ?_
  refine lv_icmp_ne (tgt := 11) hx hb dX10_law_6 (by decide) (fun c2 => ?_) (fun c2 => ?_)
  · have hc2 := c2
    have q2 := q_ne hc2
    refine lv_aload_n hx hb dX10_law_11 rfl (lv_at hl 0 rfl) ?_
    refine lv_aload_n hx hb dX10_law_12 rfl (lv_at hl 0 rfl) ?_
    refine m_geti (1000) 28 hx hb hts hown hE oc10 hM hJ.1 rfl (by decide) rfl tb_1205 dX10_law_13 ?_
    refine m_puti (1000) 27 hx hb hts hown hE oc10 hM hS hJ.1 rfl (by decide) rfl rfl rfl rfl tb_1204 dX10_law_16 (fun H locs I3 eI3 hM hS => ?_)
    subst eI3
    have hI := hI.put (n := 1000) (k := 27) (v := I (1000) 28) (lo := 0) (hi := 5) rfl (by first | omega | decide)
    have hK := hK.put (n := 1000) (k := 27) (v := I (1000) 28) (by first | rfl | simp [inR])
    refine lv_aload_n hx hb dX10_law_19 rfl (lv_at hl 0 rfl) ?_
    refine lv_iconst (v := (0)) hx hb dX10_law_20 (by decide) ?_
    refine m_puti (1000) 25 hx hb hts hown hE oc10 hM hS hJ.1 rfl (by decide) rfl rfl rfl rfl tb_1202 dX10_law_21 (fun H locs I4 eI4 hM hS => ?_)
    subst eI4
    have hI := hI.put (n := 1000) (k := 25) (v := 0) (lo := 0) (hi := 100000) rfl (by first | omega | decide)
    have hK := hK.put (n := 1000) (k := 25) (v := 0) (by first | rfl | simp [inR])
    refine lv_aload_n hx hb dX10_law_24 rfl (lv_at hl 0 rfl) ?_
    refine lv_iconst (v := (0)) hx hb dX10_law_25 (by decide) ?_
    refine m_puti (1000) 26 hx hb hts hown hE oc10 hM hS hJ.1 rfl (by decide) rfl rfl rfl rfl tb_1203 dX10_law_26 (fun H locs I5 eI5 hM hS => ?_)
    subst eI5
    have hI := hI.putF (n := 1000) (k := 26) (v := 0) rfl
    have hK := hK.put (n := 1000) (k := 26) (v := 0) (by first | rfl | simp [inR])
    refine lv_aload_n hx hb dX10_law_29 rfl (lv_at hl 0 rfl) ?_
    refine lv_iconst (v := (0)) hx hb dX10_law_30 (by decide) ?_
    refine m_puti (1000) 29 hx hb hts hown hE oc10 hM hS hJ.1 rfl (by decide) rfl rfl rfl rfl tb_1206 dX10_law_31 (fun H locs I6 eI6 hM hS => ?_)
    subst eI6
    have hI := hI.put (n := 1000) (k := 29) (v := 0) (lo := 0) (hi := 300) rfl (by first | omega | decide)
    have hK := hK.put (n := 1000) (k := 29) (v := 0) (by first | rfl | simp [inR])
    refine lv_aload_n hx hb dX10_law_34 rfl (lv_at hl 0 rfl) ?_
    refine lv_iconst (v := (0)) hx hb dX10_law_35 (by decide) ?_
    refine m_puti (1000) 30 hx hb hts hown hE oc10 hM hS hJ.1 rfl (by decide) rfl rfl rfl rfl tb_1207 dX10_law_36 (fun H locs I7 eI7 hM hS => ?_)
    subst eI7
    have hI := hI.putF (n := 1000) (k := 30) (v := 0) rfl
    have hK := hK.put (n := 1000) (k := 30) (v := 0) (by first | rfl | simp [inR])
    refine lv_aload_n hx hb dX10_law_39 rfl (lv_at hl 0 rfl) ?_
    refine lv_iconst (v := (0)) hx hb dX10_law_40 (by decide) ?_
    refine m_puti (1000) 31 hx hb hts hown hE oc10 hM hS hJ.1 rfl (by decide) rfl rfl rfl rfl tb_1208 dX10_law_41 (fun H locs I8 eI8 hM hS => ?_)
    subst eI8
    have hI := hI.putF (n := 1000) (k := 31) (v := 0) rfl
    have hK := hK.put (n := 1000) (k := 31) (v := 0) (by first | rfl | simp [inR])
    refine lv_iconst (v := (0)) hx hb dX10_law_44 (by decide) ?_
    refine lv_istore_n (lv' := [(1, .int (0)), (0, .ref (ad (1000)))]) hx hb dX10_law_45 rfl hl (by decide) rfl (fun ls hl => ?_)
    refine lv_iconst (v := (1)) hx hb dX10_law_46 (by decide) ?_
    refine lv_istore_n (lv' := [(2, .int (1)), (1, .int (0)), (0, .ref (ad (1000)))]) hx hb dX10_law_47 rfl hl (by decide) rfl (fun ls hl => ?_)
    have pw9 : ((u2 (u2 (u2 (u2 (u2 (u2 I (1000) 27 (I (1000) 28)) (1000) 25 (0)) (1000) 26 (0)) (1000) 29 (0)) (1000) 30 (0)) (1000) 31 (0)) (1000) 24).toInt = (I (1000) 24 : Int32).toInt := congrArg Int32.toInt ((show (u2 (u2 (u2 (u2 (u2 (u2 I (1000) 27 (I (1000) 28)) (1000) 25 (0)) (1000) 26 (0)) (1000) 29 (0)) (1000) 30 (0)) (1000) 31 (0)) (1000) 24 = I (1000) 24 from by simp [u2_v]))
    have pw10 : ((u2 (u2 (u2 (u2 (u2 (u2 I (1000) 27 (I (1000) 28)) (1000) 25 (0)) (1000) 26 (0)) (1000) 29 (0)) (1000) 30 (0)) (1000) 31 (0)) (1000) 25).toInt = (0 : Int32).toInt := congrArg Int32.toInt ((show (u2 (u2 (u2 (u2 (u2 (u2 I (1000) 27 (I (1000) 28)) (1000) 25 (0)) (1000) 26 (0)) (1000) 29 (0)) (1000) 30 (0)) (1000) 31 (0)) (1000) 25 = 0 from by simp [u2_v]))
    have pw11 : ((u2 (u2 (u2 (u2 (u2 (u2 I (1000) 27 (I (1000) 28)) (1000) 25 (0)) (1000) 26 (0)) (1000) 29 (0)) (1000) 30 (0)) (1000) 31 (0)) (1000) 26).toInt = (0 : Int32).toInt := congrArg Int32.toInt ((show (u2 (u2 (u2 (u2 (u2 (u2 I (1000) 27 (I (1000) 28)) (1000) 25 (0)) (1000) 26 (0)) (1000) 29 (0)) (1000) 30 (0)) (1000) 31 (0)) (1000) 26 = 0 from by simp [u2_v]))
    have pw12 : ((u2 (u2 (u2 (u2 (u2 (u2 I (1000) 27 (I (1000) 28)) (1000) 25 (0)) (1000) 26 (0)) (1000) 29 (0)) (1000) 30 (0)) (1000) 31 (0)) (1000) 27).toInt = (I (1000) 28 : Int32).toInt := congrArg Int32.toInt ((show (u2 (u2 (u2 (u2 (u2 (u2 I (1000) 27 (I (1000) 28)) (1000) 25 (0)) (1000) 26 (0)) (1000) 29 (0)) (1000) 30 (0)) (1000) 31 (0)) (1000) 27 = I (1000) 28 from by simp [u2_v]))
    have pw13 : ((u2 (u2 (u2 (u2 (u2 (u2 I (1000) 27 (I (1000) 28)) (1000) 25 (0)) (1000) 26 (0)) (1000) 29 (0)) (1000) 30 (0)) (1000) 31 (0)) (1000) 29).toInt = (0 : Int32).toInt := congrArg Int32.toInt ((show (u2 (u2 (u2 (u2 (u2 (u2 I (1000) 27 (I (1000) 28)) (1000) 25 (0)) (1000) 26 (0)) (1000) 29 (0)) (1000) 30 (0)) (1000) 31 (0)) (1000) 29 = 0 from by simp [u2_v]))
    have pw14 : ((u2 (u2 (u2 (u2 (u2 (u2 I (1000) 27 (I (1000) 28)) (1000) 25 (0)) (1000) 26 (0)) (1000) 29 (0)) (1000) 30 (0)) (1000) 31 (0)) (1000) 30).toInt = (0 : Int32).toInt := congrArg Int32.toInt ((show (u2 (u2 (u2 (u2 (u2 (u2 I (1000) 27 (I (1000) 28)) (1000) 25 (0)) (1000) 26 (0)) (1000) 29 (0)) (1000) 30 (0)) (1000) 31 (0)) (1000) 30 = 0 from by simp [u2_v]))
    have pw15 : ((u2 (u2 (u2 (u2 (u2 (u2 I (1000) 27 (I (1000) 28)) (1000) 25 (0)) (1000) 26 (0)) (1000) 29 (0)) (1000) 30 (0)) (1000) 31 (0)) (1000) 31).toInt = (0 : Int32).toInt := congrArg Int32.toInt ((show (u2 (u2 (u2 (u2 (u2 (u2 I (1000) 27 (I (1000) 28)) (1000) 25 (0)) (1000) 26 (0)) (1000) 29 (0)) (1000) 30 (0)) (1000) 31 (0)) (1000) 31 = 0 from by simp [u2_v]))
    have pw16 : ((u2 (u2 (u2 (u2 (u2 (u2 I (1000) 27 (I (1000) 28)) (1000) 25 (0)) (1000) 26 (0)) (1000) 29 (0)) (1000) 30 (0)) (1000) 31 (0)) (1000) 32).toInt = (I (1000) 32 : Int32).toInt := congrArg Int32.toInt ((show (u2 (u2 (u2 (u2 (u2 (u2 I (1000) 27 (I (1000) 28)) (1000) 25 (0)) (1000) 26 (0)) (1000) 29 (0)) (1000) 30 (0)) (1000) 31 (0)) (1000) 32 = I (1000) 32 from by simp [u2_v]))
    have pw17 : ((u2 (u2 (u2 (u2 (u2 (u2 I (1000) 27 (I (1000) 28)) (1000) 25 (0)) (1000) 26 (0)) (1000) 29 (0)) (1000) 30 (0)) (1000) 31 (0)) (1000) 28).toInt = (I (1000) 28 : Int32).toInt := congrArg Int32.toInt ((show (u2 (u2 (u2 (u2 (u2 (u2 I (1000) 27 (I (1000) 28)) (1000) 25 (0)) (1000) 26 (0)) (1000) 29 (0)) (1000) 30 (0)) (1000) 31 (0)) (1000) 28 = I (1000) 28 from by simp [u2_v]))
    have hfr : ∀ r : Nat, (r : Int) < (I 1000 28).toInt → LWR (u2 (u2 (u2 (u2 (u2 (u2 I (1000) 27 (I (1000) 28)) (1000) 25 (0)) (1000) 26 (0)) (1000) 29 (0)) (1000) 30 (0)) (1000) 31 (0)) r := fun r hr => (hLM r hr).of ((show (u2 (u2 (u2 (u2 (u2 (u2 I (1000) 27 (I (1000) 28)) (1000) 25 (0)) (1000) 26 (0)) (1000) 29 (0)) (1000) 30 (0)) (1000) 31 (0)) 1035 = I 1035 from by funext zz; simp [u2_v])) ((show (u2 (u2 (u2 (u2 (u2 (u2 I (1000) 27 (I (1000) 28)) (1000) 25 (0)) (1000) 26 (0)) (1000) 29 (0)) (1000) 30 (0)) (1000) 31 (0)) 1036 = I 1036 from by funext zz; simp [u2_v])) ((show (u2 (u2 (u2 (u2 (u2 (u2 I (1000) 27 (I (1000) 28)) (1000) 25 (0)) (1000) 26 (0)) (1000) 29 (0)) (1000) 30 (0)) (1000) 31 (0)) 1037 = I 1037 from by funext zz; simp [u2_v])) ((show (u2 (u2 (u2 (u2 (u2 (u2 I (1000) 27 (I (1000) 28)) (1000) 25 (0)) (1000) 26 (0)) (1000) 29 (0)) (1000) 30 (0)) (1000) 31 (0)) 1039 = I 1039 from by funext zz; simp [u2_v])) ((show (u2 (u2 (u2 (u2 (u2 (u2 I (1000) 27 (I (1000) 28)) (1000) 25 (0)) (1000) 26 (0)) (1000) 29 (0)) (1000) 30 (0)) (1000) 31 (0)) 1040 = I 1040 from by funext zz; simp [u2_v])) ((show (u2 (u2 (u2 (u2 (u2 (u2 I (1000) 27 (I (1000) 28)) (1000) 25 (0)) (1000) 26 (0)) (1000) 29 (0)) (1000) 30 (0)) (1000) 31 (0)) 1041 = I 1041 from by funext zz; simp [u2_v]))
    have loop48 : ∀ (n : Nat) (x2_48 : Int32) (x1_48 : Int32) (Ia48 : MI) (La48 : ML) (H : Heap) (locs : List Loc) (ls : Array Slot), INV Ia48 → Kp [(1035, 1043)] [(1000, 24), (1000, 25), (1000, 26), (1000, 27), (1000, 28), (1000, 29), (1000, 30), (1000, 31), (1000, 32)] I Ia48 → (0 ≤ x2_48.toInt ∧ x2_48.toInt ≤ 1) → (0 ≤ x1_48.toInt ∧ x1_48.toInt ≤ 13) → ((Ia48 1000 27).toInt = (I 1000 28).toInt ∧ (Ia48 1000 28).toInt = (I 1000 28).toInt ∧ (Ia48 1000 25).toInt ≤ 402) → (Imp ((x2_48).toInt ≠ 0) ((Ia48 1000 26).toInt = 0 ∧ (Ia48 1000 25).toInt ≤ 400)) → (Imp ((Ia48 1000 26).toInt = 0) (0 ≤ (Ia48 1000 31).toInt ∧ (Ia48 1000 31).toInt ≤ 60 ∧ 3 * (Ia48 1000 29).toInt ≤ 6 * (Ia48 1000 31).toInt + (Ia48 1000 25).toInt ∧ (x1_48).toInt ≤ 12)) → (∀ r : Nat, (r : Int) < (I 1000 28).toInt → LWR Ia48 r) → (Imp ((Ia48 1000 26).toInt = 0) (LWn Ia48 (x1_48).toNatClampNeg)) → (TM Ia48 = TM I) → (BTM Ia48) → (LWI (TM I) ((u2 (u2 (u2 (u2 (u2 (u2 I (1000) 27 (I (1000) 28)) (1000) 25 (0)) (1000) 26 (0)) (1000) 29 (0)) (1000) 30 (0)) (1000) 31 (0))) Ia48 (x1_48).toNatClampNeg (x2_48).toInt) → (OLD I Ia48 (I 1000 28).toNatClampNeg) → (403 - (Ia48 1000 25).toInt).toNat < n → Mem D A ad ns Ia48 La48 G H → va_S A s.heap H locs → lv_has ls 3 [(2, .int (x2_48)), (1, .int (x1_48)), (0, .ref (ad (1000)))] → W p l e ({ frames := 12, cells := 0, slots := 0, locals := 262 } : Room) s m args below meth c H locs 0 0 (MQ below (va_Qi (fun r u => ∃ I2 L2, u = (ad, ns, I2, L2, G) ∧ INV I2 ∧ Kp [(1035, 1043)] [(1000, 24), (1000, 25), (1000, 26), (1000, 27), (1000, 28), (1000, 29), (1000, 30), (1000, 31), (1000, 32)] I I2 ∧ (LAWM I I2 r ∧ LWM I2)) (BM D A) A) args s 0 0 A) (F0 m 48 ls []) := by
      intro n
      induction n with
      | zero =>
        intro x2_48 x1_48 Ia48 La48 H locs ls hI hK hr2_48 hr1_48 hlin hon hcn hLo hLn hTM hBT hLW hOL hmu
        exact absurd hmu (Nat.not_lt_zero _)
      | succ n ih48 =>
        intro x2_48 x1_48 Ia48 La48 H locs ls hI hK hr2_48 hr1_48 hlin hon hcn hLo hLn hTM hBT hLW hOL hmu48 hM hS hl
        have hIa := hI
        refine lv_iload_n hx hb dX10_law_48 rfl (lv_at hl 0 rfl) ?_
        refine lv_if_eq (tgt := 137) hx hb dX10_law_49 (by decide) (fun c18 => ?_) (fun c18 => ?_)
        · have hc18 := c18
          have q18 := q_eq hc18
          refine lv_aload_n hx hb dX10_law_137 rfl (lv_at hl 2 rfl) ?_
          refine lv_iconst (v := (0)) hx hb dX10_law_138 (by decide) ?_
          refine m_puti (1000) 24 hx hb hts hown hE oc10 hM hS hJ.1 rfl (by decide) rfl rfl rfl rfl tb_1201 dX10_law_139 (fun H locs I19 eI19 hM hS => ?_)
          subst eI19
          have hI := hI.put (n := 1000) (k := 24) (v := 0) (lo := 0) (hi := 400) rfl (by first | omega | decide)
          have hK := hK.put (n := 1000) (k := 24) (v := 0) (by first | rfl | simp [inR])
          refine lv_aload_n hx hb dX10_law_142 rfl (lv_at hl 2 rfl) ?_
          refine m_getr (1000) 37 (1037) hx hb hts hown hE oc10 hM hJ.1 rfl (by decide) rfl (hJ.2 37 (by decide)).2 (by decide) tb_1214 dX10_law_143 ?_
          refine lv_aload_n hx hb dX10_law_146 rfl (lv_at hl 2 rfl) ?_
          refine m_geti (1000) 27 hx hb hts hown hE oc10 hM hJ.1 rfl (by decide) rfl tb_1204 dX10_law_147 ?_
          have g20 := hI.get (1000) 27 (lo := 0) (hi := 5) rfl
          have z21 : (u2 Ia48 (1000) 24 (0)) (1000) 27 = Ia48 (1000) 27 := (show (u2 Ia48 (1000) 24 (0)) (1000) 27 = Ia48 (1000) 27 from by simp [u2_v])
          rw [z21] at g20 ⊢
          refine lv_iload_n hx hb dX10_law_150 rfl (lv_at hl 1 rfl) ?_
          refine m_iast (1037) hx hb hE hM hS (hJ.2 37 (by decide)).1 rfl (vp_in_iff.mpr (by omega)) dX10_law_151 (fun H locs I22 eI22 hM hS => ?_)
          subst eI22
          have hI := hI.putF (n := 1037) (k := ((Ia48 (1000) 27).toNatClampNeg)) (v := x1_48) rfl
          have hK := hK.put (n := 1037) (k := ((Ia48 (1000) 27).toNatClampNeg)) (v := x1_48) (by first | rfl | simp [inR])
          refine lv_aload_n hx hb dX10_law_152 rfl (lv_at hl 2 rfl) ?_
          refine lv_dup hx hb dX10_law_153 rfl ?_
          refine m_geti (1000) 28 hx hb hts hown hE oc10 hM hJ.1 rfl (by decide) rfl tb_1205 dX10_law_154 ?_
          have g23 := hI.get (1000) 28 (lo := 0) (hi := 6) rfl
          have z24 : (u2 (u2 Ia48 (1000) 24 (0)) (1037) ((Ia48 (1000) 27).toNatClampNeg) (x1_48)) (1000) 28 = Ia48 (1000) 28 := (show (u2 (u2 Ia48 (1000) 24 (0)) (1037) ((Ia48 (1000) 27).toNatClampNeg) (x1_48)) (1000) 28 = Ia48 (1000) 28 from by simp [u2_v])
          rw [z24] at g23 ⊢
          refine lv_aload_n hx hb dX10_law_157 rfl (lv_at hl 2 rfl) ?_
          refine m_geti (1000) 26 hx hb hts hown hE oc10 hM hJ.1 rfl (by decide) rfl tb_1203 dX10_law_158 ?_
          have z25 : (u2 (u2 Ia48 (1000) 24 (0)) (1037) ((Ia48 (1000) 27).toNatClampNeg) (x1_48)) (1000) 26 = Ia48 (1000) 26 := (show (u2 (u2 Ia48 (1000) 24 (0)) (1037) ((Ia48 (1000) 27).toNatClampNeg) (x1_48)) (1000) 26 = Ia48 (1000) 26 from by simp [u2_v])
          rw [z25]
          refine lv_if_ne (tgt := 168) hx hb dX10_law_161 (by decide) (fun c26 => ?_) (fun c26 => ?_)
          · have hc26 := c26
            have q26 := q_ne hc26
            refine lv_iconst (v := (0)) hx hb dX10_law_168 (by decide) ?_
            refine lv_iadd hx hb dX10_law_169 ?_
            refine lv_topi (fun v27 ev27 => ?_)
            have tv27 := a_add ev27 (by omega) (by omega)
            refine m_puti (1000) 28 hx hb hts hown hE oc10 hM hS hJ.1 rfl (by decide) rfl rfl rfl rfl tb_1205 dX10_law_170 (fun H locs I28 eI28 hM hS => ?_)
            subst eI28
            have hI := hI.put (n := 1000) (k := 28) (v := v27) (lo := 0) (hi := 6) rfl (by first | omega | decide)
            have hK := hK.put (n := 1000) (k := 28) (v := v27) (by first | rfl | simp [inR])
            refine lv_aload_n hx hb dX10_law_173 rfl (lv_at hl 2 rfl) ?_
            refine m_geti (1000) 26 hx hb hts hown hE oc10 hM hJ.1 rfl (by decide) rfl tb_1203 dX10_law_174 ?_
            have z29 : (u2 (u2 (u2 Ia48 (1000) 24 (0)) (1037) ((Ia48 (1000) 27).toNatClampNeg) (x1_48)) (1000) 28 (v27)) (1000) 26 = Ia48 (1000) 26 := (show (u2 (u2 (u2 Ia48 (1000) 24 (0)) (1037) ((Ia48 (1000) 27).toNatClampNeg) (x1_48)) (1000) 28 (v27)) (1000) 26 = Ia48 (1000) 26 from by simp [u2_v])
            rw [z29]
            refine lv_if_le (tgt := 190) hx hb dX10_law_177 (by decide) (fun c30 => ?_) (fun c30 => ?_)
            · have hc30 := c30
              have q30 := q_le hc30
              refine lv_aload_n hx hb dX10_law_190 rfl (lv_at hl 2 rfl) ?_
              refine m_geti (1000) 28 hx hb hts hown hE oc10 hM hJ.1 rfl (by decide) rfl tb_1205 dX10_law_191 ?_
              have g31 := hI.get (1000) 28 (lo := 0) (hi := 6) rfl
              have z32 : (u2 (u2 (u2 Ia48 (1000) 24 (0)) (1037) ((Ia48 (1000) 27).toNatClampNeg) (x1_48)) (1000) 28 (v27)) (1000) 28 = v27 := (show (u2 (u2 (u2 Ia48 (1000) 24 (0)) (1037) ((Ia48 (1000) 27).toNatClampNeg) (x1_48)) (1000) 28 (v27)) (1000) 28 = v27 from by simp [u2_v])
              rw [z32] at g31 ⊢
              refine lv_iconst (v := (1)) hx hb dX10_law_194 (by decide) ?_
              refine lv_isub hx hb dX10_law_195 ?_
              refine lv_topi (fun v33 ev33 => ?_)
              have tv33 := a_sub ev33 (by omega) (by omega)
              have pw34 : ((u2 (u2 (u2 Ia48 (1000) 24 (0)) (1037) ((Ia48 (1000) 27).toNatClampNeg) (x1_48)) (1000) 28 (v27)) (1000) 24).toInt = (0 : Int32).toInt := congrArg Int32.toInt ((show (u2 (u2 (u2 Ia48 (1000) 24 (0)) (1037) ((Ia48 (1000) 27).toNatClampNeg) (x1_48)) (1000) 28 (v27)) (1000) 24 = 0 from by simp [u2_v]))
              have pw35 : ((u2 (u2 (u2 Ia48 (1000) 24 (0)) (1037) ((Ia48 (1000) 27).toNatClampNeg) (x1_48)) (1000) 28 (v27)) (1000) 25).toInt = (Ia48 (1000) 25 : Int32).toInt := congrArg Int32.toInt ((show (u2 (u2 (u2 Ia48 (1000) 24 (0)) (1037) ((Ia48 (1000) 27).toNatClampNeg) (x1_48)) (1000) 28 (v27)) (1000) 25 = Ia48 (1000) 25 from by simp [u2_v]))
              have pw36 : ((u2 (u2 (u2 Ia48 (1000) 24 (0)) (1037) ((Ia48 (1000) 27).toNatClampNeg) (x1_48)) (1000) 28 (v27)) (1000) 26).toInt = (Ia48 (1000) 26 : Int32).toInt := congrArg Int32.toInt ((show (u2 (u2 (u2 Ia48 (1000) 24 (0)) (1037) ((Ia48 (1000) 27).toNatClampNeg) (x1_48)) (1000) 28 (v27)) (1000) 26 = Ia48 (1000) 26 from by simp [u2_v]))
              have pw37 : ((u2 (u2 (u2 Ia48 (1000) 24 (0)) (1037) ((Ia48 (1000) 27).toNatClampNeg) (x1_48)) (1000) 28 (v27)) (1000) 27).toInt = (Ia48 (1000) 27 : Int32).toInt := congrArg Int32.toInt ((show (u2 (u2 (u2 Ia48 (1000) 24 (0)) (1037) ((Ia48 (1000) 27).toNatClampNeg) (x1_48)) (1000) 28 (v27)) (1000) 27 = Ia48 (1000) 27 from by simp [u2_v]))
              have pw38 : ((u2 (u2 (u2 Ia48 (1000) 24 (0)) (1037) ((Ia48 (1000) 27).toNatClampNeg) (x1_48)) (1000) 28 (v27)) (1000) 29).toInt = (Ia48 (1000) 29 : Int32).toInt := congrArg Int32.toInt ((show (u2 (u2 (u2 Ia48 (1000) 24 (0)) (1037) ((Ia48 (1000) 27).toNatClampNeg) (x1_48)) (1000) 28 (v27)) (1000) 29 = Ia48 (1000) 29 from by simp [u2_v]))
              have pw39 : ((u2 (u2 (u2 Ia48 (1000) 24 (0)) (1037) ((Ia48 (1000) 27).toNatClampNeg) (x1_48)) (1000) 28 (v27)) (1000) 30).toInt = (Ia48 (1000) 30 : Int32).toInt := congrArg Int32.toInt ((show (u2 (u2 (u2 Ia48 (1000) 24 (0)) (1037) ((Ia48 (1000) 27).toNatClampNeg) (x1_48)) (1000) 28 (v27)) (1000) 30 = Ia48 (1000) 30 from by simp [u2_v]))
              have pw40 : ((u2 (u2 (u2 Ia48 (1000) 24 (0)) (1037) ((Ia48 (1000) 27).toNatClampNeg) (x1_48)) (1000) 28 (v27)) (1000) 31).toInt = (Ia48 (1000) 31 : Int32).toInt := congrArg Int32.toInt ((show (u2 (u2 (u2 Ia48 (1000) 24 (0)) (1037) ((Ia48 (1000) 27).toNatClampNeg) (x1_48)) (1000) 28 (v27)) (1000) 31 = Ia48 (1000) 31 from by simp [u2_v]))
              have pw41 : ((u2 (u2 (u2 Ia48 (1000) 24 (0)) (1037) ((Ia48 (1000) 27).toNatClampNeg) (x1_48)) (1000) 28 (v27)) (1000) 32).toInt = (Ia48 (1000) 32 : Int32).toInt := congrArg Int32.toInt ((show (u2 (u2 (u2 Ia48 (1000) 24 (0)) (1037) ((Ia48 (1000) 27).toNatClampNeg) (x1_48)) (1000) 28 (v27)) (1000) 32 = Ia48 (1000) 32 from by simp [u2_v]))
              have pw42 : ((u2 (u2 (u2 Ia48 (1000) 24 (0)) (1037) ((Ia48 (1000) 27).toNatClampNeg) (x1_48)) (1000) 28 (v27)) (1000) 28).toInt = (v27 : Int32).toInt := congrArg Int32.toInt ((show (u2 (u2 (u2 Ia48 (1000) 24 (0)) (1037) ((Ia48 (1000) 27).toNatClampNeg) (x1_48)) (1000) 28 (v27)) (1000) 28 = v27 from by simp [u2_v]))
              have hz37 : (u2 (u2 (u2 Ia48 (1000) 24 (0)) (1037) ((Ia48 (1000) 27).toNatClampNeg) (x1_48)) (1000) 28 (v27)) 1037 = (u2 (u2 Ia48 (1000) 24 (0)) (1037) ((Ia48 (1000) 27).toNatClampNeg) (x1_48)) 1037 := (show (u2 (u2 (u2 Ia48 (1000) 24 (0)) (1037) ((Ia48 (1000) 27).toNatClampNeg) (x1_48)) (1000) 28 (v27)) 1037 = (u2 (u2 Ia48 (1000) 24 (0)) (1037) ((Ia48 (1000) 27).toNatClampNeg) (x1_48)) 1037 from by funext zz; simp [u2_v])
              have hq37 : (u2 Ia48 (1000) 24 (0)) 1037 = Ia48 1037 := (show (u2 Ia48 (1000) 24 (0)) 1037 = Ia48 1037 from by funext zz; simp [u2_v])
              have hs27 := tn (i := Ia48 1000 27) (by omega)
              have hold : ∀ r : Nat, (r : Int) < (I 1000 28).toInt → LWR (u2 (u2 (u2 Ia48 (1000) 24 (0)) (1037) ((Ia48 (1000) 27).toNatClampNeg) (x1_48)) (1000) 28 (v27)) r := fun r hr => (hLo r hr).of1 ((show (u2 (u2 (u2 Ia48 (1000) 24 (0)) (1037) ((Ia48 (1000) 27).toNatClampNeg) (x1_48)) (1000) 28 (v27)) 1035 = Ia48 1035 from by funext zz; simp [u2_v])) ((show (u2 (u2 (u2 Ia48 (1000) 24 (0)) (1037) ((Ia48 (1000) 27).toNatClampNeg) (x1_48)) (1000) 28 (v27)) 1036 = Ia48 1036 from by funext zz; simp [u2_v])) ((show (u2 (u2 (u2 Ia48 (1000) 24 (0)) (1037) ((Ia48 (1000) 27).toNatClampNeg) (x1_48)) (1000) 28 (v27)) 1039 = Ia48 1039 from by funext zz; simp [u2_v])) ((show (u2 (u2 (u2 Ia48 (1000) 24 (0)) (1037) ((Ia48 (1000) 27).toNatClampNeg) (x1_48)) (1000) 28 (v27)) 1040 = Ia48 1040 from by funext zz; simp [u2_v])) ((show (u2 (u2 (u2 Ia48 (1000) 24 (0)) (1037) ((Ia48 (1000) 27).toNatClampNeg) (x1_48)) (1000) 28 (v27)) 1041 = Ia48 1041 from by funext zz; simp [u2_v])) (by rw [hz37, u2_v, if_neg (by rintro ⟨-, hj⟩; omega)]; exact congrFun hq37 r)
              have hLW1 := hLW
              rw [show (x2_48).toInt = 0 from by omega] at hLW1
              have hOF : OLD I (u2 (u2 (u2 (u2 Ia48 (1000) 24 (0)) (1037) ((Ia48 (1000) 27).toNatClampNeg) (x1_48)) (1000) 28 (v27)) 1037 (I 1000 28).toNatClampNeg (I 1037 (I 1000 28).toNatClampNeg)) (I 1000 28).toNatClampNeg := hOL.of (by rw [u2_ne _ _ _ (by decide)]; exact (show (u2 (u2 (u2 Ia48 (1000) 24 (0)) (1037) ((Ia48 (1000) 27).toNatClampNeg) (x1_48)) (1000) 28 (v27)) 1035 = Ia48 1035 from by funext zz; simp [u2_v])) (by rw [u2_ne _ _ _ (by decide)]; exact (show (u2 (u2 (u2 Ia48 (1000) 24 (0)) (1037) ((Ia48 (1000) 27).toNatClampNeg) (x1_48)) (1000) 28 (v27)) 1036 = Ia48 1036 from by funext zz; simp [u2_v])) (funext fun zz => by by_cases hzz : zz = (I 1000 28).toNatClampNeg; (rw [hzz, u2_self]; exact (congrFun hOL.2.2 _).symm); (rw [u2_v, if_neg (fun q => hzz q.2), hz37, u2_v, if_neg (fun q => hzz (q.2.trans (cl_eq (by omega))))]; exact congrFun hq37 zz)) (by rw [u2_ne _ _ _ (by decide)]; exact (show (u2 (u2 (u2 Ia48 (1000) 24 (0)) (1037) ((Ia48 (1000) 27).toNatClampNeg) (x1_48)) (1000) 28 (v27)) 1038 = Ia48 1038 from by funext zz; simp [u2_v])) (by rw [u2_ne _ _ _ (by decide)]; exact (show (u2 (u2 (u2 Ia48 (1000) 24 (0)) (1037) ((Ia48 (1000) 27).toNatClampNeg) (x1_48)) (1000) 28 (v27)) 1039 = Ia48 1039 from by funext zz; simp [u2_v])) (by rw [u2_ne _ _ _ (by decide)]; exact (show (u2 (u2 (u2 Ia48 (1000) 24 (0)) (1037) ((Ia48 (1000) 27).toNatClampNeg) (x1_48)) (1000) 28 (v27)) 1040 = Ia48 1040 from by funext zz; simp [u2_v])) (by rw [u2_ne _ _ _ (by decide)]; exact (show (u2 (u2 (u2 Ia48 (1000) 24 (0)) (1037) ((Ia48 (1000) 27).toNatClampNeg) (x1_48)) (1000) 28 (v27)) 1041 = Ia48 1041 from by funext zz; simp [u2_v]))
              exact m_iret hx hb hr hlocks hM hS (Nat.le_of_ble_eq_true rfl) (Nat.le_of_ble_eq_true rfl) ⟨_, _, rfl, hI, hK, ⟨Or.inr ⟨by omega, by omega, hOF, fun F f pt c hc1 hF0 hrr => by have w1 := (law_run hLW1 (by rw [show (u2 (u2 (u2 (u2 (u2 (u2 I (1000) 27 (I (1000) 28)) (1000) 25 (0)) (1000) 26 (0)) (1000) 29 (0)) (1000) 30 (0)) (1000) 31 (0)) 1000 26 = 0 from (by simp [u2_v])]; exact k0) (by rw [show (u2 (u2 (u2 (u2 (u2 (u2 I (1000) 27 (I (1000) 28)) (1000) 25 (0)) (1000) 26 (0)) (1000) 29 (0)) (1000) 30 (0)) (1000) 31 (0)) 1000 25 = 0 from (by simp [u2_v])]; exact k0) (by rw [show (u2 (u2 (u2 (u2 (u2 (u2 I (1000) 27 (I (1000) 28)) (1000) 25 (0)) (1000) 26 (0)) (1000) 29 (0)) (1000) 30 (0)) (1000) 31 (0)) 1000 29 = 0 from (by simp [u2_v])]; exact k0) (by simp [u2_v]) (by rw [show (u2 (u2 (u2 (u2 (u2 (u2 I (1000) 27 (I (1000) 28)) (1000) 25 (0)) (1000) 26 (0)) (1000) 29 (0)) (1000) 30 (0)) (1000) 31 (0)) 1000 31 = 0 from (by simp [u2_v])]; exact k0) hc1 hrr); have w2 := w1.2 (by omega); exact Or.inr ⟨by omega, by omega, by omega, by rw [show (I 1000 28).toNatClampNeg = (Ia48 1000 27).toNatClampNeg from cl_eq (by omega)]; exact LTM.mk (w1.1 (by omega)).2.1 (w1.1 (by omega)).2.2.1 (w1.1 (by omega)).2.2.2 ((show (u2 (u2 (u2 Ia48 (1000) 24 (0)) (1037) ((Ia48 (1000) 27).toNatClampNeg) (x1_48)) (1000) 28 (v27)) 1035 = Ia48 1035 from by funext zz; simp [u2_v])) ((show (u2 (u2 (u2 Ia48 (1000) 24 (0)) (1037) ((Ia48 (1000) 27).toNatClampNeg) (x1_48)) (1000) 28 (v27)) 1036 = Ia48 1036 from by funext zz; simp [u2_v])) ((show (u2 (u2 (u2 Ia48 (1000) 24 (0)) (1037) ((Ia48 (1000) 27).toNatClampNeg) (x1_48)) (1000) 28 (v27)) 1038 = Ia48 1038 from by funext zz; simp [u2_v])) ((show (u2 (u2 (u2 Ia48 (1000) 24 (0)) (1037) ((Ia48 (1000) 27).toNatClampNeg) (x1_48)) (1000) 28 (v27)) 1039 = Ia48 1039 from by funext zz; simp [u2_v])) ((show (u2 (u2 (u2 Ia48 (1000) 24 (0)) (1037) ((Ia48 (1000) 27).toNatClampNeg) (x1_48)) (1000) 28 (v27)) 1040 = Ia48 1040 from by funext zz; simp [u2_v])) ((show (u2 (u2 (u2 Ia48 (1000) 24 (0)) (1037) ((Ia48 (1000) 27).toNatClampNeg) (x1_48)) (1000) 28 (v27)) 1041 = Ia48 1041 from by funext zz; simp [u2_v])) (by rw [hz37, u2_self]; have z9 := tn (i := x1_48) (by omega); omega) rfl (hIa.get 1000 29 (lo := 0) (hi := 300) rfl)⟩⟩, (fun r hr => hold r (by omega))⟩⟩ dX10_law_196
            · have hc30 := c30
              have q30 := q_nle hc30
              refine lv_bipush (v := (-2)) hx hb dX10_law_180 (by decide) ?_
              refine lv_aload_n hx hb dX10_law_182 rfl (lv_at hl 2 rfl) ?_
              refine m_geti (1000) 26 hx hb hts hown hE oc10 hM hJ.1 rfl (by decide) rfl tb_1203 dX10_law_183 ?_
              have z43 : (u2 (u2 (u2 Ia48 (1000) 24 (0)) (1037) ((Ia48 (1000) 27).toNatClampNeg) (x1_48)) (1000) 28 (v27)) (1000) 26 = Ia48 (1000) 26 := (show (u2 (u2 (u2 Ia48 (1000) 24 (0)) (1037) ((Ia48 (1000) 27).toNatClampNeg) (x1_48)) (1000) 28 (v27)) (1000) 26 = Ia48 (1000) 26 from by simp [u2_v])
              rw [z43]
              refine lv_isub hx hb dX10_law_186 ?_
              refine lv_topi (fun v44 ev44 => ?_)
              refine lv_goto (tgt := 196) hx hb dX10_law_187 (by decide) ?_
              have pw45 : ((u2 (u2 (u2 Ia48 (1000) 24 (0)) (1037) ((Ia48 (1000) 27).toNatClampNeg) (x1_48)) (1000) 28 (v27)) (1000) 24).toInt = (0 : Int32).toInt := congrArg Int32.toInt ((show (u2 (u2 (u2 Ia48 (1000) 24 (0)) (1037) ((Ia48 (1000) 27).toNatClampNeg) (x1_48)) (1000) 28 (v27)) (1000) 24 = 0 from by simp [u2_v]))
              have pw46 : ((u2 (u2 (u2 Ia48 (1000) 24 (0)) (1037) ((Ia48 (1000) 27).toNatClampNeg) (x1_48)) (1000) 28 (v27)) (1000) 25).toInt = (Ia48 (1000) 25 : Int32).toInt := congrArg Int32.toInt ((show (u2 (u2 (u2 Ia48 (1000) 24 (0)) (1037) ((Ia48 (1000) 27).toNatClampNeg) (x1_48)) (1000) 28 (v27)) (1000) 25 = Ia48 (1000) 25 from by simp [u2_v]))
              have pw47 : ((u2 (u2 (u2 Ia48 (1000) 24 (0)) (1037) ((Ia48 (1000) 27).toNatClampNeg) (x1_48)) (1000) 28 (v27)) (1000) 26).toInt = (Ia48 (1000) 26 : Int32).toInt := congrArg Int32.toInt ((show (u2 (u2 (u2 Ia48 (1000) 24 (0)) (1037) ((Ia48 (1000) 27).toNatClampNeg) (x1_48)) (1000) 28 (v27)) (1000) 26 = Ia48 (1000) 26 from by simp [u2_v]))
              have pw48 : ((u2 (u2 (u2 Ia48 (1000) 24 (0)) (1037) ((Ia48 (1000) 27).toNatClampNeg) (x1_48)) (1000) 28 (v27)) (1000) 27).toInt = (Ia48 (1000) 27 : Int32).toInt := congrArg Int32.toInt ((show (u2 (u2 (u2 Ia48 (1000) 24 (0)) (1037) ((Ia48 (1000) 27).toNatClampNeg) (x1_48)) (1000) 28 (v27)) (1000) 27 = Ia48 (1000) 27 from by simp [u2_v]))
              have pw49 : ((u2 (u2 (u2 Ia48 (1000) 24 (0)) (1037) ((Ia48 (1000) 27).toNatClampNeg) (x1_48)) (1000) 28 (v27)) (1000) 29).toInt = (Ia48 (1000) 29 : Int32).toInt := congrArg Int32.toInt ((show (u2 (u2 (u2 Ia48 (1000) 24 (0)) (1037) ((Ia48 (1000) 27).toNatClampNeg) (x1_48)) (1000) 28 (v27)) (1000) 29 = Ia48 (1000) 29 from by simp [u2_v]))
              have pw50 : ((u2 (u2 (u2 Ia48 (1000) 24 (0)) (1037) ((Ia48 (1000) 27).toNatClampNeg) (x1_48)) (1000) 28 (v27)) (1000) 30).toInt = (Ia48 (1000) 30 : Int32).toInt := congrArg Int32.toInt ((show (u2 (u2 (u2 Ia48 (1000) 24 (0)) (1037) ((Ia48 (1000) 27).toNatClampNeg) (x1_48)) (1000) 28 (v27)) (1000) 30 = Ia48 (1000) 30 from by simp [u2_v]))
              have pw51 : ((u2 (u2 (u2 Ia48 (1000) 24 (0)) (1037) ((Ia48 (1000) 27).toNatClampNeg) (x1_48)) (1000) 28 (v27)) (1000) 31).toInt = (Ia48 (1000) 31 : Int32).toInt := congrArg Int32.toInt ((show (u2 (u2 (u2 Ia48 (1000) 24 (0)) (1037) ((Ia48 (1000) 27).toNatClampNeg) (x1_48)) (1000) 28 (v27)) (1000) 31 = Ia48 (1000) 31 from by simp [u2_v]))
              have pw52 : ((u2 (u2 (u2 Ia48 (1000) 24 (0)) (1037) ((Ia48 (1000) 27).toNatClampNeg) (x1_48)) (1000) 28 (v27)) (1000) 32).toInt = (Ia48 (1000) 32 : Int32).toInt := congrArg Int32.toInt ((show (u2 (u2 (u2 Ia48 (1000) 24 (0)) (1037) ((Ia48 (1000) 27).toNatClampNeg) (x1_48)) (1000) 28 (v27)) (1000) 32 = Ia48 (1000) 32 from by simp [u2_v]))
              have pw53 : ((u2 (u2 (u2 Ia48 (1000) 24 (0)) (1037) ((Ia48 (1000) 27).toNatClampNeg) (x1_48)) (1000) 28 (v27)) (1000) 28).toInt = (v27 : Int32).toInt := congrArg Int32.toInt ((show (u2 (u2 (u2 Ia48 (1000) 24 (0)) (1037) ((Ia48 (1000) 27).toNatClampNeg) (x1_48)) (1000) 28 (v27)) (1000) 28 = v27 from by simp [u2_v]))
              have hz37 : (u2 (u2 (u2 Ia48 (1000) 24 (0)) (1037) ((Ia48 (1000) 27).toNatClampNeg) (x1_48)) (1000) 28 (v27)) 1037 = (u2 (u2 Ia48 (1000) 24 (0)) (1037) ((Ia48 (1000) 27).toNatClampNeg) (x1_48)) 1037 := (show (u2 (u2 (u2 Ia48 (1000) 24 (0)) (1037) ((Ia48 (1000) 27).toNatClampNeg) (x1_48)) (1000) 28 (v27)) 1037 = (u2 (u2 Ia48 (1000) 24 (0)) (1037) ((Ia48 (1000) 27).toNatClampNeg) (x1_48)) 1037 from by funext zz; simp [u2_v])
              have hq37 : (u2 Ia48 (1000) 24 (0)) 1037 = Ia48 1037 := (show (u2 Ia48 (1000) 24 (0)) 1037 = Ia48 1037 from by funext zz; simp [u2_v])
              have hs27 := tn (i := Ia48 1000 27) (by omega)
              have hold : ∀ r : Nat, (r : Int) < (I 1000 28).toInt → LWR (u2 (u2 (u2 Ia48 (1000) 24 (0)) (1037) ((Ia48 (1000) 27).toNatClampNeg) (x1_48)) (1000) 28 (v27)) r := fun r hr => (hLo r hr).of1 ((show (u2 (u2 (u2 Ia48 (1000) 24 (0)) (1037) ((Ia48 (1000) 27).toNatClampNeg) (x1_48)) (1000) 28 (v27)) 1035 = Ia48 1035 from by funext zz; simp [u2_v])) ((show (u2 (u2 (u2 Ia48 (1000) 24 (0)) (1037) ((Ia48 (1000) 27).toNatClampNeg) (x1_48)) (1000) 28 (v27)) 1036 = Ia48 1036 from by funext zz; simp [u2_v])) ((show (u2 (u2 (u2 Ia48 (1000) 24 (0)) (1037) ((Ia48 (1000) 27).toNatClampNeg) (x1_48)) (1000) 28 (v27)) 1039 = Ia48 1039 from by funext zz; simp [u2_v])) ((show (u2 (u2 (u2 Ia48 (1000) 24 (0)) (1037) ((Ia48 (1000) 27).toNatClampNeg) (x1_48)) (1000) 28 (v27)) 1040 = Ia48 1040 from by funext zz; simp [u2_v])) ((show (u2 (u2 (u2 Ia48 (1000) 24 (0)) (1037) ((Ia48 (1000) 27).toNatClampNeg) (x1_48)) (1000) 28 (v27)) 1041 = Ia48 1041 from by funext zz; simp [u2_v])) (by rw [hz37, u2_v, if_neg (by rintro ⟨-, hj⟩; omega)]; exact congrFun hq37 r)
              have hLW1 := hLW
              rw [show (x2_48).toInt = 0 from by omega] at hLW1
              have hOF : OLD I (u2 (u2 (u2 (u2 Ia48 (1000) 24 (0)) (1037) ((Ia48 (1000) 27).toNatClampNeg) (x1_48)) (1000) 28 (v27)) 1037 (I 1000 28).toNatClampNeg (I 1037 (I 1000 28).toNatClampNeg)) (I 1000 28).toNatClampNeg := hOL.of (by rw [u2_ne _ _ _ (by decide)]; exact (show (u2 (u2 (u2 Ia48 (1000) 24 (0)) (1037) ((Ia48 (1000) 27).toNatClampNeg) (x1_48)) (1000) 28 (v27)) 1035 = Ia48 1035 from by funext zz; simp [u2_v])) (by rw [u2_ne _ _ _ (by decide)]; exact (show (u2 (u2 (u2 Ia48 (1000) 24 (0)) (1037) ((Ia48 (1000) 27).toNatClampNeg) (x1_48)) (1000) 28 (v27)) 1036 = Ia48 1036 from by funext zz; simp [u2_v])) (funext fun zz => by by_cases hzz : zz = (I 1000 28).toNatClampNeg; (rw [hzz, u2_self]; exact (congrFun hOL.2.2 _).symm); (rw [u2_v, if_neg (fun q => hzz q.2), hz37, u2_v, if_neg (fun q => hzz (q.2.trans (cl_eq (by omega))))]; exact congrFun hq37 zz)) (by rw [u2_ne _ _ _ (by decide)]; exact (show (u2 (u2 (u2 Ia48 (1000) 24 (0)) (1037) ((Ia48 (1000) 27).toNatClampNeg) (x1_48)) (1000) 28 (v27)) 1038 = Ia48 1038 from by funext zz; simp [u2_v])) (by rw [u2_ne _ _ _ (by decide)]; exact (show (u2 (u2 (u2 Ia48 (1000) 24 (0)) (1037) ((Ia48 (1000) 27).toNatClampNeg) (x1_48)) (1000) 28 (v27)) 1039 = Ia48 1039 from by funext zz; simp [u2_v])) (by rw [u2_ne _ _ _ (by decide)]; exact (show (u2 (u2 (u2 Ia48 (1000) 24 (0)) (1037) ((Ia48 (1000) 27).toNatClampNeg) (x1_48)) (1000) 28 (v27)) 1040 = Ia48 1040 from by funext zz; simp [u2_v])) (by rw [u2_ne _ _ _ (by decide)]; exact (show (u2 (u2 (u2 Ia48 (1000) 24 (0)) (1037) ((Ia48 (1000) 27).toNatClampNeg) (x1_48)) (1000) 28 (v27)) 1041 = Ia48 1041 from by funext zz; simp [u2_v]))
              exact m_iret hx hb hr hlocks hM hS (Nat.le_of_ble_eq_true rfl) (Nat.le_of_ble_eq_true rfl) ⟨_, _, rfl, hI, hK, ⟨Or.inr ⟨by omega, by omega, hOF, fun F f pt c hc1 hF0 hrr => by have w1 := (law_run hLW1 (by rw [show (u2 (u2 (u2 (u2 (u2 (u2 I (1000) 27 (I (1000) 28)) (1000) 25 (0)) (1000) 26 (0)) (1000) 29 (0)) (1000) 30 (0)) (1000) 31 (0)) 1000 26 = 0 from (by simp [u2_v])]; exact k0) (by rw [show (u2 (u2 (u2 (u2 (u2 (u2 I (1000) 27 (I (1000) 28)) (1000) 25 (0)) (1000) 26 (0)) (1000) 29 (0)) (1000) 30 (0)) (1000) 31 (0)) 1000 25 = 0 from (by simp [u2_v])]; exact k0) (by rw [show (u2 (u2 (u2 (u2 (u2 (u2 I (1000) 27 (I (1000) 28)) (1000) 25 (0)) (1000) 26 (0)) (1000) 29 (0)) (1000) 30 (0)) (1000) 31 (0)) 1000 29 = 0 from (by simp [u2_v])]; exact k0) (by simp [u2_v]) (by rw [show (u2 (u2 (u2 (u2 (u2 (u2 I (1000) 27 (I (1000) 28)) (1000) 25 (0)) (1000) 26 (0)) (1000) 29 (0)) (1000) 30 (0)) (1000) 31 (0)) 1000 31 = 0 from (by simp [u2_v])]; exact k0) hc1 hrr); have w2 := w1.2 (by omega); exact Or.inl ⟨by omega, ⟨Ia48 1000 26, ev44, by omega⟩, by omega⟩⟩, (fun r hr => hold r (by omega))⟩⟩ dX10_law_196
          · have hc26 := c26
            have q26 := q_eq hc26
            have w54 := hcn (by omega)
            refine lv_iconst (v := (1)) hx hb dX10_law_164 (by decide) ?_
            refine lv_goto (tgt := 169) hx hb dX10_law_165 (by decide) ?_
            refine lv_iadd hx hb dX10_law_169 ?_
            refine lv_topi (fun v55 ev55 => ?_)
            have tv55 := a_add ev55 (by omega) (by omega)
            refine m_puti (1000) 28 hx hb hts hown hE oc10 hM hS hJ.1 rfl (by decide) rfl rfl rfl rfl tb_1205 dX10_law_170 (fun H locs I56 eI56 hM hS => ?_)
            subst eI56
            have hI := hI.put (n := 1000) (k := 28) (v := v55) (lo := 0) (hi := 6) rfl (by first | omega | decide)
            have hK := hK.put (n := 1000) (k := 28) (v := v55) (by first | rfl | simp [inR])
            refine lv_aload_n hx hb dX10_law_173 rfl (lv_at hl 2 rfl) ?_
            refine m_geti (1000) 26 hx hb hts hown hE oc10 hM hJ.1 rfl (by decide) rfl tb_1203 dX10_law_174 ?_
            have z57 : (u2 (u2 (u2 Ia48 (1000) 24 (0)) (1037) ((Ia48 (1000) 27).toNatClampNeg) (x1_48)) (1000) 28 (v55)) (1000) 26 = Ia48 (1000) 26 := (show (u2 (u2 (u2 Ia48 (1000) 24 (0)) (1037) ((Ia48 (1000) 27).toNatClampNeg) (x1_48)) (1000) 28 (v55)) (1000) 26 = Ia48 (1000) 26 from by simp [u2_v])
            rw [z57]
            refine lv_if_le (tgt := 190) hx hb dX10_law_177 (by decide) (fun c58 => ?_) (fun c58 => ?_)
            · have hc58 := c58
              have q58 := q_le hc58
              refine lv_aload_n hx hb dX10_law_190 rfl (lv_at hl 2 rfl) ?_
              refine m_geti (1000) 28 hx hb hts hown hE oc10 hM hJ.1 rfl (by decide) rfl tb_1205 dX10_law_191 ?_
              have g59 := hI.get (1000) 28 (lo := 0) (hi := 6) rfl
              have z60 : (u2 (u2 (u2 Ia48 (1000) 24 (0)) (1037) ((Ia48 (1000) 27).toNatClampNeg) (x1_48)) (1000) 28 (v55)) (1000) 28 = v55 := (show (u2 (u2 (u2 Ia48 (1000) 24 (0)) (1037) ((Ia48 (1000) 27).toNatClampNeg) (x1_48)) (1000) 28 (v55)) (1000) 28 = v55 from by simp [u2_v])
              rw [z60] at g59 ⊢
              refine lv_iconst (v := (1)) hx hb dX10_law_194 (by decide) ?_
              refine lv_isub hx hb dX10_law_195 ?_
              refine lv_topi (fun v61 ev61 => ?_)
              have tv61 := a_sub ev61 (by omega) (by omega)
              have pw62 : ((u2 (u2 (u2 Ia48 (1000) 24 (0)) (1037) ((Ia48 (1000) 27).toNatClampNeg) (x1_48)) (1000) 28 (v55)) (1000) 24).toInt = (0 : Int32).toInt := congrArg Int32.toInt ((show (u2 (u2 (u2 Ia48 (1000) 24 (0)) (1037) ((Ia48 (1000) 27).toNatClampNeg) (x1_48)) (1000) 28 (v55)) (1000) 24 = 0 from by simp [u2_v]))
              have pw63 : ((u2 (u2 (u2 Ia48 (1000) 24 (0)) (1037) ((Ia48 (1000) 27).toNatClampNeg) (x1_48)) (1000) 28 (v55)) (1000) 25).toInt = (Ia48 (1000) 25 : Int32).toInt := congrArg Int32.toInt ((show (u2 (u2 (u2 Ia48 (1000) 24 (0)) (1037) ((Ia48 (1000) 27).toNatClampNeg) (x1_48)) (1000) 28 (v55)) (1000) 25 = Ia48 (1000) 25 from by simp [u2_v]))
              have pw64 : ((u2 (u2 (u2 Ia48 (1000) 24 (0)) (1037) ((Ia48 (1000) 27).toNatClampNeg) (x1_48)) (1000) 28 (v55)) (1000) 26).toInt = (Ia48 (1000) 26 : Int32).toInt := congrArg Int32.toInt ((show (u2 (u2 (u2 Ia48 (1000) 24 (0)) (1037) ((Ia48 (1000) 27).toNatClampNeg) (x1_48)) (1000) 28 (v55)) (1000) 26 = Ia48 (1000) 26 from by simp [u2_v]))
              have pw65 : ((u2 (u2 (u2 Ia48 (1000) 24 (0)) (1037) ((Ia48 (1000) 27).toNatClampNeg) (x1_48)) (1000) 28 (v55)) (1000) 27).toInt = (Ia48 (1000) 27 : Int32).toInt := congrArg Int32.toInt ((show (u2 (u2 (u2 Ia48 (1000) 24 (0)) (1037) ((Ia48 (1000) 27).toNatClampNeg) (x1_48)) (1000) 28 (v55)) (1000) 27 = Ia48 (1000) 27 from by simp [u2_v]))
              have pw66 : ((u2 (u2 (u2 Ia48 (1000) 24 (0)) (1037) ((Ia48 (1000) 27).toNatClampNeg) (x1_48)) (1000) 28 (v55)) (1000) 29).toInt = (Ia48 (1000) 29 : Int32).toInt := congrArg Int32.toInt ((show (u2 (u2 (u2 Ia48 (1000) 24 (0)) (1037) ((Ia48 (1000) 27).toNatClampNeg) (x1_48)) (1000) 28 (v55)) (1000) 29 = Ia48 (1000) 29 from by simp [u2_v]))
              have pw67 : ((u2 (u2 (u2 Ia48 (1000) 24 (0)) (1037) ((Ia48 (1000) 27).toNatClampNeg) (x1_48)) (1000) 28 (v55)) (1000) 30).toInt = (Ia48 (1000) 30 : Int32).toInt := congrArg Int32.toInt ((show (u2 (u2 (u2 Ia48 (1000) 24 (0)) (1037) ((Ia48 (1000) 27).toNatClampNeg) (x1_48)) (1000) 28 (v55)) (1000) 30 = Ia48 (1000) 30 from by simp [u2_v]))
              have pw68 : ((u2 (u2 (u2 Ia48 (1000) 24 (0)) (1037) ((Ia48 (1000) 27).toNatClampNeg) (x1_48)) (1000) 28 (v55)) (1000) 31).toInt = (Ia48 (1000) 31 : Int32).toInt := congrArg Int32.toInt ((show (u2 (u2 (u2 Ia48 (1000) 24 (0)) (1037) ((Ia48 (1000) 27).toNatClampNeg) (x1_48)) (1000) 28 (v55)) (1000) 31 = Ia48 (1000) 31 from by simp [u2_v]))
              have pw69 : ((u2 (u2 (u2 Ia48 (1000) 24 (0)) (1037) ((Ia48 (1000) 27).toNatClampNeg) (x1_48)) (1000) 28 (v55)) (1000) 32).toInt = (Ia48 (1000) 32 : Int32).toInt := congrArg Int32.toInt ((show (u2 (u2 (u2 Ia48 (1000) 24 (0)) (1037) ((Ia48 (1000) 27).toNatClampNeg) (x1_48)) (1000) 28 (v55)) (1000) 32 = Ia48 (1000) 32 from by simp [u2_v]))
              have pw70 : ((u2 (u2 (u2 Ia48 (1000) 24 (0)) (1037) ((Ia48 (1000) 27).toNatClampNeg) (x1_48)) (1000) 28 (v55)) (1000) 28).toInt = (v55 : Int32).toInt := congrArg Int32.toInt ((show (u2 (u2 (u2 Ia48 (1000) 24 (0)) (1037) ((Ia48 (1000) 27).toNatClampNeg) (x1_48)) (1000) 28 (v55)) (1000) 28 = v55 from by simp [u2_v]))
              have hz37 : (u2 (u2 (u2 Ia48 (1000) 24 (0)) (1037) ((Ia48 (1000) 27).toNatClampNeg) (x1_48)) (1000) 28 (v55)) 1037 = (u2 (u2 Ia48 (1000) 24 (0)) (1037) ((Ia48 (1000) 27).toNatClampNeg) (x1_48)) 1037 := (show (u2 (u2 (u2 Ia48 (1000) 24 (0)) (1037) ((Ia48 (1000) 27).toNatClampNeg) (x1_48)) (1000) 28 (v55)) 1037 = (u2 (u2 Ia48 (1000) 24 (0)) (1037) ((Ia48 (1000) 27).toNatClampNeg) (x1_48)) 1037 from by funext zz; simp [u2_v])
              have hq37 : (u2 Ia48 (1000) 24 (0)) 1037 = Ia48 1037 := (show (u2 Ia48 (1000) 24 (0)) 1037 = Ia48 1037 from by funext zz; simp [u2_v])
              have hs27 := tn (i := Ia48 1000 27) (by omega)
              have hold : ∀ r : Nat, (r : Int) < (I 1000 28).toInt → LWR (u2 (u2 (u2 Ia48 (1000) 24 (0)) (1037) ((Ia48 (1000) 27).toNatClampNeg) (x1_48)) (1000) 28 (v55)) r := fun r hr => (hLo r hr).of1 ((show (u2 (u2 (u2 Ia48 (1000) 24 (0)) (1037) ((Ia48 (1000) 27).toNatClampNeg) (x1_48)) (1000) 28 (v55)) 1035 = Ia48 1035 from by funext zz; simp [u2_v])) ((show (u2 (u2 (u2 Ia48 (1000) 24 (0)) (1037) ((Ia48 (1000) 27).toNatClampNeg) (x1_48)) (1000) 28 (v55)) 1036 = Ia48 1036 from by funext zz; simp [u2_v])) ((show (u2 (u2 (u2 Ia48 (1000) 24 (0)) (1037) ((Ia48 (1000) 27).toNatClampNeg) (x1_48)) (1000) 28 (v55)) 1039 = Ia48 1039 from by funext zz; simp [u2_v])) ((show (u2 (u2 (u2 Ia48 (1000) 24 (0)) (1037) ((Ia48 (1000) 27).toNatClampNeg) (x1_48)) (1000) 28 (v55)) 1040 = Ia48 1040 from by funext zz; simp [u2_v])) ((show (u2 (u2 (u2 Ia48 (1000) 24 (0)) (1037) ((Ia48 (1000) 27).toNatClampNeg) (x1_48)) (1000) 28 (v55)) 1041 = Ia48 1041 from by funext zz; simp [u2_v])) (by rw [hz37, u2_v, if_neg (by rintro ⟨-, hj⟩; omega)]; exact congrFun hq37 r)
              have hz1 := tn (i := x1_48) (by omega)
              have hnew := LWn.fin (Z := (u2 (u2 (u2 Ia48 (1000) 24 (0)) (1037) ((Ia48 (1000) 27).toNatClampNeg) (x1_48)) (1000) 28 (v55))) (n := (x1_48).toNatClampNeg) (r := (Ia48 1000 27).toNatClampNeg) (hLn (by omega)) hIa (by omega) (by omega) ((show (u2 (u2 (u2 Ia48 (1000) 24 (0)) (1037) ((Ia48 (1000) 27).toNatClampNeg) (x1_48)) (1000) 28 (v55)) 1035 = Ia48 1035 from by funext zz; simp [u2_v])) ((show (u2 (u2 (u2 Ia48 (1000) 24 (0)) (1037) ((Ia48 (1000) 27).toNatClampNeg) (x1_48)) (1000) 28 (v55)) 1036 = Ia48 1036 from by funext zz; simp [u2_v])) ((show (u2 (u2 (u2 Ia48 (1000) 24 (0)) (1037) ((Ia48 (1000) 27).toNatClampNeg) (x1_48)) (1000) 28 (v55)) 1039 = Ia48 1039 from by funext zz; simp [u2_v])) ((show (u2 (u2 (u2 Ia48 (1000) 24 (0)) (1037) ((Ia48 (1000) 27).toNatClampNeg) (x1_48)) (1000) 28 (v55)) 1040 = Ia48 1040 from by funext zz; simp [u2_v])) ((show (u2 (u2 (u2 Ia48 (1000) 24 (0)) (1037) ((Ia48 (1000) 27).toNatClampNeg) (x1_48)) (1000) 28 (v55)) 1041 = Ia48 1041 from by funext zz; simp [u2_v])) (by rw [hz37, u2_self]; omega) (by omega)
              have hLW1 := hLW
              rw [show (x2_48).toInt = 0 from by omega] at hLW1
              have hOF : OLD I (u2 (u2 (u2 (u2 Ia48 (1000) 24 (0)) (1037) ((Ia48 (1000) 27).toNatClampNeg) (x1_48)) (1000) 28 (v55)) 1037 (I 1000 28).toNatClampNeg (I 1037 (I 1000 28).toNatClampNeg)) (I 1000 28).toNatClampNeg := hOL.of (by rw [u2_ne _ _ _ (by decide)]; exact (show (u2 (u2 (u2 Ia48 (1000) 24 (0)) (1037) ((Ia48 (1000) 27).toNatClampNeg) (x1_48)) (1000) 28 (v55)) 1035 = Ia48 1035 from by funext zz; simp [u2_v])) (by rw [u2_ne _ _ _ (by decide)]; exact (show (u2 (u2 (u2 Ia48 (1000) 24 (0)) (1037) ((Ia48 (1000) 27).toNatClampNeg) (x1_48)) (1000) 28 (v55)) 1036 = Ia48 1036 from by funext zz; simp [u2_v])) (funext fun zz => by by_cases hzz : zz = (I 1000 28).toNatClampNeg; (rw [hzz, u2_self]; exact (congrFun hOL.2.2 _).symm); (rw [u2_v, if_neg (fun q => hzz q.2), hz37, u2_v, if_neg (fun q => hzz (q.2.trans (cl_eq (by omega))))]; exact congrFun hq37 zz)) (by rw [u2_ne _ _ _ (by decide)]; exact (show (u2 (u2 (u2 Ia48 (1000) 24 (0)) (1037) ((Ia48 (1000) 27).toNatClampNeg) (x1_48)) (1000) 28 (v55)) 1038 = Ia48 1038 from by funext zz; simp [u2_v])) (by rw [u2_ne _ _ _ (by decide)]; exact (show (u2 (u2 (u2 Ia48 (1000) 24 (0)) (1037) ((Ia48 (1000) 27).toNatClampNeg) (x1_48)) (1000) 28 (v55)) 1039 = Ia48 1039 from by funext zz; simp [u2_v])) (by rw [u2_ne _ _ _ (by decide)]; exact (show (u2 (u2 (u2 Ia48 (1000) 24 (0)) (1037) ((Ia48 (1000) 27).toNatClampNeg) (x1_48)) (1000) 28 (v55)) 1040 = Ia48 1040 from by funext zz; simp [u2_v])) (by rw [u2_ne _ _ _ (by decide)]; exact (show (u2 (u2 (u2 Ia48 (1000) 24 (0)) (1037) ((Ia48 (1000) 27).toNatClampNeg) (x1_48)) (1000) 28 (v55)) 1041 = Ia48 1041 from by funext zz; simp [u2_v]))
              exact m_iret hx hb hr hlocks hM hS (Nat.le_of_ble_eq_true rfl) (Nat.le_of_ble_eq_true rfl) ⟨_, _, rfl, hI, hK, ⟨Or.inr ⟨by omega, by omega, hOF, fun F f pt c hc1 hF0 hrr => by have w1 := (law_run hLW1 (by rw [show (u2 (u2 (u2 (u2 (u2 (u2 I (1000) 27 (I (1000) 28)) (1000) 25 (0)) (1000) 26 (0)) (1000) 29 (0)) (1000) 30 (0)) (1000) 31 (0)) 1000 26 = 0 from (by simp [u2_v])]; exact k0) (by rw [show (u2 (u2 (u2 (u2 (u2 (u2 I (1000) 27 (I (1000) 28)) (1000) 25 (0)) (1000) 26 (0)) (1000) 29 (0)) (1000) 30 (0)) (1000) 31 (0)) 1000 25 = 0 from (by simp [u2_v])]; exact k0) (by rw [show (u2 (u2 (u2 (u2 (u2 (u2 I (1000) 27 (I (1000) 28)) (1000) 25 (0)) (1000) 26 (0)) (1000) 29 (0)) (1000) 30 (0)) (1000) 31 (0)) 1000 29 = 0 from (by simp [u2_v])]; exact k0) (by simp [u2_v]) (by rw [show (u2 (u2 (u2 (u2 (u2 (u2 I (1000) 27 (I (1000) 28)) (1000) 25 (0)) (1000) 26 (0)) (1000) 29 (0)) (1000) 30 (0)) (1000) 31 (0)) 1000 31 = 0 from (by simp [u2_v])]; exact k0) hc1 hrr); have w2 := (w1.1 (by omega)).1; exact Or.inr ⟨by omega, by omega, by omega, by rw [show (I 1000 28).toNatClampNeg = (Ia48 1000 27).toNatClampNeg from cl_eq (by omega)]; exact LTM.mk (w1.1 (by omega)).2.1 (w1.1 (by omega)).2.2.1 (w1.1 (by omega)).2.2.2 ((show (u2 (u2 (u2 Ia48 (1000) 24 (0)) (1037) ((Ia48 (1000) 27).toNatClampNeg) (x1_48)) (1000) 28 (v55)) 1035 = Ia48 1035 from by funext zz; simp [u2_v])) ((show (u2 (u2 (u2 Ia48 (1000) 24 (0)) (1037) ((Ia48 (1000) 27).toNatClampNeg) (x1_48)) (1000) 28 (v55)) 1036 = Ia48 1036 from by funext zz; simp [u2_v])) ((show (u2 (u2 (u2 Ia48 (1000) 24 (0)) (1037) ((Ia48 (1000) 27).toNatClampNeg) (x1_48)) (1000) 28 (v55)) 1038 = Ia48 1038 from by funext zz; simp [u2_v])) ((show (u2 (u2 (u2 Ia48 (1000) 24 (0)) (1037) ((Ia48 (1000) 27).toNatClampNeg) (x1_48)) (1000) 28 (v55)) 1039 = Ia48 1039 from by funext zz; simp [u2_v])) ((show (u2 (u2 (u2 Ia48 (1000) 24 (0)) (1037) ((Ia48 (1000) 27).toNatClampNeg) (x1_48)) (1000) 28 (v55)) 1040 = Ia48 1040 from by funext zz; simp [u2_v])) ((show (u2 (u2 (u2 Ia48 (1000) 24 (0)) (1037) ((Ia48 (1000) 27).toNatClampNeg) (x1_48)) (1000) 28 (v55)) 1041 = Ia48 1041 from by funext zz; simp [u2_v])) (by rw [hz37, u2_self]; have z9 := tn (i := x1_48) (by omega); omega) rfl (hIa.get 1000 29 (lo := 0) (hi := 300) rfl)⟩⟩, (fun r hr => by by_cases hq : (r : Int) < (I 1000 28).toInt; exact hold r hq; rw [show r = (Ia48 1000 27).toNatClampNeg from by omega]; exact hnew)⟩⟩ dX10_law_196
            · have hc58 := c58
              have q58 := q_nle hc58
              refine lv_bipush (v := (-2)) hx hb dX10_law_180 (by decide) ?_
              refine lv_aload_n hx hb dX10_law_182 rfl (lv_at hl 2 rfl) ?_
              refine m_geti (1000) 26 hx hb hts hown hE oc10 hM hJ.1 rfl (by decide) rfl tb_1203 dX10_law_183 ?_
              have z71 : (u2 (u2 (u2 Ia48 (1000) 24 (0)) (1037) ((Ia48 (1000) 27).toNatClampNeg) (x1_48)) (1000) 28 (v55)) (1000) 26 = Ia48 (1000) 26 := (show (u2 (u2 (u2 Ia48 (1000) 24 (0)) (1037) ((Ia48 (1000) 27).toNatClampNeg) (x1_48)) (1000) 28 (v55)) (1000) 26 = Ia48 (1000) 26 from by simp [u2_v])
              rw [z71]
              refine lv_isub hx hb dX10_law_186 ?_
              refine lv_topi (fun v72 ev72 => ?_)
              refine lv_goto (tgt := 196) hx hb dX10_law_187 (by decide) ?_
              have pw73 : ((u2 (u2 (u2 Ia48 (1000) 24 (0)) (1037) ((Ia48 (1000) 27).toNatClampNeg) (x1_48)) (1000) 28 (v55)) (1000) 24).toInt = (0 : Int32).toInt := congrArg Int32.toInt ((show (u2 (u2 (u2 Ia48 (1000) 24 (0)) (1037) ((Ia48 (1000) 27).toNatClampNeg) (x1_48)) (1000) 28 (v55)) (1000) 24 = 0 from by simp [u2_v]))
              have pw74 : ((u2 (u2 (u2 Ia48 (1000) 24 (0)) (1037) ((Ia48 (1000) 27).toNatClampNeg) (x1_48)) (1000) 28 (v55)) (1000) 25).toInt = (Ia48 (1000) 25 : Int32).toInt := congrArg Int32.toInt ((show (u2 (u2 (u2 Ia48 (1000) 24 (0)) (1037) ((Ia48 (1000) 27).toNatClampNeg) (x1_48)) (1000) 28 (v55)) (1000) 25 = Ia48 (1000) 25 from by simp [u2_v]))
              have pw75 : ((u2 (u2 (u2 Ia48 (1000) 24 (0)) (1037) ((Ia48 (1000) 27).toNatClampNeg) (x1_48)) (1000) 28 (v55)) (1000) 26).toInt = (Ia48 (1000) 26 : Int32).toInt := congrArg Int32.toInt ((show (u2 (u2 (u2 Ia48 (1000) 24 (0)) (1037) ((Ia48 (1000) 27).toNatClampNeg) (x1_48)) (1000) 28 (v55)) (1000) 26 = Ia48 (1000) 26 from by simp [u2_v]))
              have pw76 : ((u2 (u2 (u2 Ia48 (1000) 24 (0)) (1037) ((Ia48 (1000) 27).toNatClampNeg) (x1_48)) (1000) 28 (v55)) (1000) 27).toInt = (Ia48 (1000) 27 : Int32).toInt := congrArg Int32.toInt ((show (u2 (u2 (u2 Ia48 (1000) 24 (0)) (1037) ((Ia48 (1000) 27).toNatClampNeg) (x1_48)) (1000) 28 (v55)) (1000) 27 = Ia48 (1000) 27 from by simp [u2_v]))
              have pw77 : ((u2 (u2 (u2 Ia48 (1000) 24 (0)) (1037) ((Ia48 (1000) 27).toNatClampNeg) (x1_48)) (1000) 28 (v55)) (1000) 29).toInt = (Ia48 (1000) 29 : Int32).toInt := congrArg Int32.toInt ((show (u2 (u2 (u2 Ia48 (1000) 24 (0)) (1037) ((Ia48 (1000) 27).toNatClampNeg) (x1_48)) (1000) 28 (v55)) (1000) 29 = Ia48 (1000) 29 from by simp [u2_v]))
              have pw78 : ((u2 (u2 (u2 Ia48 (1000) 24 (0)) (1037) ((Ia48 (1000) 27).toNatClampNeg) (x1_48)) (1000) 28 (v55)) (1000) 30).toInt = (Ia48 (1000) 30 : Int32).toInt := congrArg Int32.toInt ((show (u2 (u2 (u2 Ia48 (1000) 24 (0)) (1037) ((Ia48 (1000) 27).toNatClampNeg) (x1_48)) (1000) 28 (v55)) (1000) 30 = Ia48 (1000) 30 from by simp [u2_v]))
              have pw79 : ((u2 (u2 (u2 Ia48 (1000) 24 (0)) (1037) ((Ia48 (1000) 27).toNatClampNeg) (x1_48)) (1000) 28 (v55)) (1000) 31).toInt = (Ia48 (1000) 31 : Int32).toInt := congrArg Int32.toInt ((show (u2 (u2 (u2 Ia48 (1000) 24 (0)) (1037) ((Ia48 (1000) 27).toNatClampNeg) (x1_48)) (1000) 28 (v55)) (1000) 31 = Ia48 (1000) 31 from by simp [u2_v]))
              have pw80 : ((u2 (u2 (u2 Ia48 (1000) 24 (0)) (1037) ((Ia48 (1000) 27).toNatClampNeg) (x1_48)) (1000) 28 (v55)) (1000) 32).toInt = (Ia48 (1000) 32 : Int32).toInt := congrArg Int32.toInt ((show (u2 (u2 (u2 Ia48 (1000) 24 (0)) (1037) ((Ia48 (1000) 27).toNatClampNeg) (x1_48)) (1000) 28 (v55)) (1000) 32 = Ia48 (1000) 32 from by simp [u2_v]))
              have pw81 : ((u2 (u2 (u2 Ia48 (1000) 24 (0)) (1037) ((Ia48 (1000) 27).toNatClampNeg) (x1_48)) (1000) 28 (v55)) (1000) 28).toInt = (v55 : Int32).toInt := congrArg Int32.toInt ((show (u2 (u2 (u2 Ia48 (1000) 24 (0)) (1037) ((Ia48 (1000) 27).toNatClampNeg) (x1_48)) (1000) 28 (v55)) (1000) 28 = v55 from by simp [u2_v]))
              have hz37 : (u2 (u2 (u2 Ia48 (1000) 24 (0)) (1037) ((Ia48 (1000) 27).toNatClampNeg) (x1_48)) (1000) 28 (v55)) 1037 = (u2 (u2 Ia48 (1000) 24 (0)) (1037) ((Ia48 (1000) 27).toNatClampNeg) (x1_48)) 1037 := (show (u2 (u2 (u2 Ia48 (1000) 24 (0)) (1037) ((Ia48 (1000) 27).toNatClampNeg) (x1_48)) (1000) 28 (v55)) 1037 = (u2 (u2 Ia48 (1000) 24 (0)) (1037) ((Ia48 (1000) 27).toNatClampNeg) (x1_48)) 1037 from by funext zz; simp [u2_v])
              have hq37 : (u2 Ia48 (1000) 24 (0)) 1037 = Ia48 1037 := (show (u2 Ia48 (1000) 24 (0)) 1037 = Ia48 1037 from by funext zz; simp [u2_v])
              have hs27 := tn (i := Ia48 1000 27) (by omega)
              have hold : ∀ r : Nat, (r : Int) < (I 1000 28).toInt → LWR (u2 (u2 (u2 Ia48 (1000) 24 (0)) (1037) ((Ia48 (1000) 27).toNatClampNeg) (x1_48)) (1000) 28 (v55)) r := fun r hr => (hLo r hr).of1 ((show (u2 (u2 (u2 Ia48 (1000) 24 (0)) (1037) ((Ia48 (1000) 27).toNatClampNeg) (x1_48)) (1000) 28 (v55)) 1035 = Ia48 1035 from by funext zz; simp [u2_v])) ((show (u2 (u2 (u2 Ia48 (1000) 24 (0)) (1037) ((Ia48 (1000) 27).toNatClampNeg) (x1_48)) (1000) 28 (v55)) 1036 = Ia48 1036 from by funext zz; simp [u2_v])) ((show (u2 (u2 (u2 Ia48 (1000) 24 (0)) (1037) ((Ia48 (1000) 27).toNatClampNeg) (x1_48)) (1000) 28 (v55)) 1039 = Ia48 1039 from by funext zz; simp [u2_v])) ((show (u2 (u2 (u2 Ia48 (1000) 24 (0)) (1037) ((Ia48 (1000) 27).toNatClampNeg) (x1_48)) (1000) 28 (v55)) 1040 = Ia48 1040 from by funext zz; simp [u2_v])) ((show (u2 (u2 (u2 Ia48 (1000) 24 (0)) (1037) ((Ia48 (1000) 27).toNatClampNeg) (x1_48)) (1000) 28 (v55)) 1041 = Ia48 1041 from by funext zz; simp [u2_v])) (by rw [hz37, u2_v, if_neg (by rintro ⟨-, hj⟩; omega)]; exact congrFun hq37 r)
              have hz1 := tn (i := x1_48) (by omega)
              have hnew := LWn.fin (Z := (u2 (u2 (u2 Ia48 (1000) 24 (0)) (1037) ((Ia48 (1000) 27).toNatClampNeg) (x1_48)) (1000) 28 (v55))) (n := (x1_48).toNatClampNeg) (r := (Ia48 1000 27).toNatClampNeg) (hLn (by omega)) hIa (by omega) (by omega) ((show (u2 (u2 (u2 Ia48 (1000) 24 (0)) (1037) ((Ia48 (1000) 27).toNatClampNeg) (x1_48)) (1000) 28 (v55)) 1035 = Ia48 1035 from by funext zz; simp [u2_v])) ((show (u2 (u2 (u2 Ia48 (1000) 24 (0)) (1037) ((Ia48 (1000) 27).toNatClampNeg) (x1_48)) (1000) 28 (v55)) 1036 = Ia48 1036 from by funext zz; simp [u2_v])) ((show (u2 (u2 (u2 Ia48 (1000) 24 (0)) (1037) ((Ia48 (1000) 27).toNatClampNeg) (x1_48)) (1000) 28 (v55)) 1039 = Ia48 1039 from by funext zz; simp [u2_v])) ((show (u2 (u2 (u2 Ia48 (1000) 24 (0)) (1037) ((Ia48 (1000) 27).toNatClampNeg) (x1_48)) (1000) 28 (v55)) 1040 = Ia48 1040 from by funext zz; simp [u2_v])) ((show (u2 (u2 (u2 Ia48 (1000) 24 (0)) (1037) ((Ia48 (1000) 27).toNatClampNeg) (x1_48)) (1000) 28 (v55)) 1041 = Ia48 1041 from by funext zz; simp [u2_v])) (by rw [hz37, u2_self]; omega) (by omega)
              have hLW1 := hLW
              rw [show (x2_48).toInt = 0 from by omega] at hLW1
              have hOF : OLD I (u2 (u2 (u2 (u2 Ia48 (1000) 24 (0)) (1037) ((Ia48 (1000) 27).toNatClampNeg) (x1_48)) (1000) 28 (v55)) 1037 (I 1000 28).toNatClampNeg (I 1037 (I 1000 28).toNatClampNeg)) (I 1000 28).toNatClampNeg := hOL.of (by rw [u2_ne _ _ _ (by decide)]; exact (show (u2 (u2 (u2 Ia48 (1000) 24 (0)) (1037) ((Ia48 (1000) 27).toNatClampNeg) (x1_48)) (1000) 28 (v55)) 1035 = Ia48 1035 from by funext zz; simp [u2_v])) (by rw [u2_ne _ _ _ (by decide)]; exact (show (u2 (u2 (u2 Ia48 (1000) 24 (0)) (1037) ((Ia48 (1000) 27).toNatClampNeg) (x1_48)) (1000) 28 (v55)) 1036 = Ia48 1036 from by funext zz; simp [u2_v])) (funext fun zz => by by_cases hzz : zz = (I 1000 28).toNatClampNeg; (rw [hzz, u2_self]; exact (congrFun hOL.2.2 _).symm); (rw [u2_v, if_neg (fun q => hzz q.2), hz37, u2_v, if_neg (fun q => hzz (q.2.trans (cl_eq (by omega))))]; exact congrFun hq37 zz)) (by rw [u2_ne _ _ _ (by decide)]; exact (show (u2 (u2 (u2 Ia48 (1000) 24 (0)) (1037) ((Ia48 (1000) 27).toNatClampNeg) (x1_48)) (1000) 28 (v55)) 1038 = Ia48 1038 from by funext zz; simp [u2_v])) (by rw [u2_ne _ _ _ (by decide)]; exact (show (u2 (u2 (u2 Ia48 (1000) 24 (0)) (1037) ((Ia48 (1000) 27).toNatClampNeg) (x1_48)) (1000) 28 (v55)) 1039 = Ia48 1039 from by funext zz; simp [u2_v])) (by rw [u2_ne _ _ _ (by decide)]; exact (show (u2 (u2 (u2 Ia48 (1000) 24 (0)) (1037) ((Ia48 (1000) 27).toNatClampNeg) (x1_48)) (1000) 28 (v55)) 1040 = Ia48 1040 from by funext zz; simp [u2_v])) (by rw [u2_ne _ _ _ (by decide)]; exact (show (u2 (u2 (u2 Ia48 (1000) 24 (0)) (1037) ((Ia48 (1000) 27).toNatClampNeg) (x1_48)) (1000) 28 (v55)) 1041 = Ia48 1041 from by funext zz; simp [u2_v]))
              exact m_iret hx hb hr hlocks hM hS (Nat.le_of_ble_eq_true rfl) (Nat.le_of_ble_eq_true rfl) ⟨_, _, rfl, hI, hK, ⟨Or.inr ⟨by omega, by omega, hOF, fun F f pt c hc1 hF0 hrr => by have w1 := (law_run hLW1 (by rw [show (u2 (u2 (u2 (u2 (u2 (u2 I (1000) 27 (I (1000) 28)) (1000) 25 (0)) (1000) 26 (0)) (1000) 29 (0)) (1000) 30 (0)) (1000) 31 (0)) 1000 26 = 0 from (by simp [u2_v])]; exact k0) (by rw [show (u2 (u2 (u2 (u2 (u2 (u2 I (1000) 27 (I (1000) 28)) (1000) 25 (0)) (1000) 26 (0)) (1000) 29 (0)) (1000) 30 (0)) (1000) 31 (0)) 1000 25 = 0 from (by simp [u2_v])]; exact k0) (by rw [show (u2 (u2 (u2 (u2 (u2 (u2 I (1000) 27 (I (1000) 28)) (1000) 25 (0)) (1000) 26 (0)) (1000) 29 (0)) (1000) 30 (0)) (1000) 31 (0)) 1000 29 = 0 from (by simp [u2_v])]; exact k0) (by simp [u2_v]) (by rw [show (u2 (u2 (u2 (u2 (u2 (u2 I (1000) 27 (I (1000) 28)) (1000) 25 (0)) (1000) 26 (0)) (1000) 29 (0)) (1000) 30 (0)) (1000) 31 (0)) 1000 31 = 0 from (by simp [u2_v])]; exact k0) hc1 hrr); have w2 := (w1.1 (by omega)).1; exact Or.inl ⟨by omega, ⟨Ia48 1000 26, ev72, by omega⟩, by omega⟩⟩, (fun r hr => by by_cases hq : (r : Int) < (I 1000 28).toInt; exact hold r hq; rw [show r = (Ia48 1000 27).toNatClampNeg from by omega]; exact hnew)⟩⟩ dX10_law_196
        · have hc18 := c18
          have q18 := q_ne hc18
          have wo := hon (by omega)
          have wc := hcn (by omega)
          refine lv_aload_n hx hb dX10_law_52 rfl (lv_at hl 2 rfl) ?_
          refine lv_iload_n hx hb dX10_law_53 rfl (lv_at hl 1 rfl) ?_
          refine m_callv (m_runV (1000) (As := [.int (x1_48)]) (rest := []) hx hb hml hown hts hE hM hS hA ce_X10_clause tb_1502 (V_X10_clause_h l D A ad ns Ia48 La48 G (x1_48) hJ hI (by omega) (by omega) (fun hz => by omega) (hBT.of (rfl) (rfl)) (by first | omega | decide)) rfl rfl ⟨Nat.le_of_ble_eq_true rfl, Nat.le_of_ble_eq_true rfl⟩ hJ.1 rfl rfl (by decide) rfl hl.1 rfl (Nat.le_of_ble_eq_true rfl) dX10_law_54 ⟨Nat.le_of_ble_eq_true rfl, Nat.le_of_ble_eq_true rfl⟩) hS (fun u H locs hw hM hS => ?_)
          obtain ⟨I82, L83, rfl, hI, hkI82, xI82⟩ := hw
          have hM : Mem D A ad ns I82 L83 G H := hM
          have hK := hK.trans hkI82 rfl
          have pw84 : (I82 (1000) 24).toInt = (Ia48 (1000) 24 : Int32).toInt := congrArg Int32.toInt ((hkI82.get (1000) 24 rfl))
          have pw85 : (I82 (1000) 27).toInt = (Ia48 (1000) 27 : Int32).toInt := congrArg Int32.toInt ((hkI82.get (1000) 27 rfl))
          have pw86 : (I82 (1000) 28).toInt = (Ia48 (1000) 28 : Int32).toInt := congrArg Int32.toInt ((hkI82.get (1000) 28 rfl))
          have g87 := hIa.get 1000 27 (lo := 0) (hi := 5) rfl
          have g88 := hIa.get 1000 29 (lo := 0) (hi := 300) rfl
          replace hLo := fun (r : Nat) (hr : (r : Int) < (I 1000 28).toInt) => (hLo r hr).clause hIa xI82.2.2.2.2.2.2 (hkI82.getA 1037 rfl) (by omega)
          replace hLn : Imp ((I82 1000 26).toInt = 0) (LWn I82 ((x1_48).toNatClampNeg + 1)) := fun hz => LWn.clause (hLn ((xI82.2.2.2.2.1 hz).1)) hIa xI82.2.2.2.2.2.2 (xI82.2.2.2.2.2.1 hz) (by omega) (by omega) (by omega)
          have nw89 := xI82.1
          rw [hTM] at nw89
          replace hOL := OLD.clause hOL xI82.2.2.2.2.2.2 nw89.2 (hkI82.getA 1037 rfl) (by have z9 := tn (i := I 1000 28) (by omega); omega) (by omega)
          obtain ⟨v90, ev90⟩ : ∃ z : Int32, z = x1_48 + Int32.ofInt (1) := ⟨_, rfl⟩
          have tv90 := a_inc ev90 (by decide) (by omega) (by omega)
          refine lv_iinc (v := v90) (lv' := [(1, .int (v90)), (2, .int (x2_48)), (0, .ref (ad (1000)))]) hx hb dX10_law_57 hl (k := 1) rfl ev90.symm (by decide) rfl (fun ls hl => ?_)
          refine lv_aload_n hx hb dX10_law_60 rfl (lv_at hl 2 rfl) ?_
          refine m_callv (m_runV (1000) (As := []) (rest := []) hx hb hml hown hts hE hM hS hA ce_X10_blanks tb_1506 (V_X10_blanks_hw l D A ad ns I82 L83 G hJ hI (by omega)) rfl rfl ⟨Nat.le_of_ble_eq_true rfl, Nat.le_of_ble_eq_true rfl⟩ hJ.1 rfl rfl (by decide) rfl hl.1 rfl (Nat.le_of_ble_eq_true rfl) dX10_law_61 ⟨Nat.le_of_ble_eq_true rfl, Nat.le_of_ble_eq_true rfl⟩) hS (fun u H locs hw hM hS => ?_)
          obtain ⟨I91, L92, rfl, hI, hkI91, xI91⟩ := hw
          have hM : Mem D A ad ns I91 L92 G H := hM
          have hK := hK.trans hkI91 rfl
          have pw93 : (I91 (1000) 24).toInt = (Ia48 (1000) 24 : Int32).toInt := (congrArg Int32.toInt ((hkI91.get (1000) 24 rfl))).trans pw84
          have pw94 : (I91 (1000) 26).toInt = (I82 (1000) 26 : Int32).toInt := congrArg Int32.toInt ((hkI91.get (1000) 26 rfl))
          have pw95 : (I91 (1000) 27).toInt = (Ia48 (1000) 27 : Int32).toInt := (congrArg Int32.toInt ((hkI91.get (1000) 27 rfl))).trans pw85
          have pw96 : (I91 (1000) 29).toInt = (I82 (1000) 29 : Int32).toInt := congrArg Int32.toInt ((hkI91.get (1000) 29 rfl))
          have pw97 : (I91 (1000) 30).toInt = (I82 (1000) 30 : Int32).toInt := congrArg Int32.toInt ((hkI91.get (1000) 30 rfl))
          have pw98 : (I91 (1000) 31).toInt = (I82 (1000) 31 : Int32).toInt := congrArg Int32.toInt ((hkI91.get (1000) 31 rfl))
          have pw99 : (I91 (1000) 32).toInt = (I82 (1000) 32 : Int32).toInt := congrArg Int32.toInt ((hkI91.get (1000) 32 rfl))
          have nw100 := xI91.1
          rw [show TM I82 = TM I from (TM_of ((hkI82.getA 1034 rfl)) ((hkI82.get (1000) 24 rfl))).trans hTM] at nw100
          refine lv_aload_n hx hb dX10_law_64 rfl (lv_at hl 2 rfl) ?_
          refine m_geti (1000) 26 hx hb hts hown hE oc10 hM hJ.1 rfl (by decide) rfl tb_1203 dX10_law_65 ?_
          have z101 : I91 (1000) 26 = I82 (1000) 26 := (hkI91.get (1000) 26 rfl)
          rw [z101]
          refine lv_if_ne (tgt := 100) hx hb dX10_law_68 (by decide) (fun c102 => ?_) (fun c102 => ?_)
          · have hc102 := c102
            have q102 := q_ne hc102
            refine lv_aload_n hx hb dX10_law_100 rfl (lv_at hl 2 rfl) ?_
            refine m_geti (1000) 26 hx hb hts hown hE oc10 hM hJ.1 rfl (by decide) rfl tb_1203 dX10_law_101 ?_
            have z103 : I91 (1000) 26 = I82 (1000) 26 := (hkI91.get (1000) 26 rfl)
            rw [z103]
            refine lv_if_ne (tgt := 122) hx hb dX10_law_104 (by decide) (fun c104 => ?_) (fun c104 => ?_)
            · have hc104 := c104
              have q104 := q_ne hc104
              refine lv_iconst (v := (0)) hx hb dX10_law_122 (by decide) ?_
              refine lv_istore_n (lv' := [(2, .int (0)), (1, .int (v90)), (0, .ref (ad (1000)))]) hx hb dX10_law_123 rfl hl (by decide) rfl (fun ls hl => ?_)
              refine lv_aload_n hx hb dX10_law_124 rfl (lv_at hl 2 rfl) ?_
              refine lv_dup hx hb dX10_law_125 rfl ?_
              refine m_geti (1000) 25 hx hb hts hown hE oc10 hM hJ.1 rfl (by decide) rfl tb_1202 dX10_law_126 ?_
              have g105 := hI.get (1000) 25 (lo := 0) (hi := 100000) rfl
              refine lv_iconst (v := (1)) hx hb dX10_law_129 (by decide) ?_
              refine lv_iadd hx hb dX10_law_130 ?_
              refine lv_topi (fun v106 ev106 => ?_)
              have tv106 := a_add ev106 (by omega) (by omega)
              refine m_puti (1000) 25 hx hb hts hown hE oc10 hM hS hJ.1 rfl (by decide) rfl rfl rfl rfl tb_1202 dX10_law_131 (fun H locs I107 eI107 hM hS => ?_)
              subst eI107
              have hI := hI.put (n := 1000) (k := 25) (v := v106) (lo := 0) (hi := 100000) rfl (by first | omega | decide)
              have hK := hK.put (n := 1000) (k := 25) (v := v106) (by first | rfl | simp [inR])
              refine lv_goto (tgt := 48) hx hb dX10_law_134 (by decide) ?_
              have pw108 : ((u2 I91 (1000) 25 (v106)) (1000) 24).toInt = (Ia48 (1000) 24 : Int32).toInt := (congrArg Int32.toInt ((show (u2 I91 (1000) 25 (v106)) (1000) 24 = I91 (1000) 24 from by simp [u2_v]))).trans pw93
              have pw109 : ((u2 I91 (1000) 25 (v106)) (1000) 25).toInt = (v106 : Int32).toInt := congrArg Int32.toInt ((show (u2 I91 (1000) 25 (v106)) (1000) 25 = v106 from by simp [u2_v]))
              have pw110 : ((u2 I91 (1000) 25 (v106)) (1000) 26).toInt = (I82 (1000) 26 : Int32).toInt := (congrArg Int32.toInt ((show (u2 I91 (1000) 25 (v106)) (1000) 26 = I91 (1000) 26 from by simp [u2_v]))).trans pw94
              have pw111 : ((u2 I91 (1000) 25 (v106)) (1000) 27).toInt = (Ia48 (1000) 27 : Int32).toInt := (congrArg Int32.toInt ((show (u2 I91 (1000) 25 (v106)) (1000) 27 = I91 (1000) 27 from by simp [u2_v]))).trans pw95
              have pw112 : ((u2 I91 (1000) 25 (v106)) (1000) 29).toInt = (I82 (1000) 29 : Int32).toInt := (congrArg Int32.toInt ((show (u2 I91 (1000) 25 (v106)) (1000) 29 = I91 (1000) 29 from by simp [u2_v]))).trans pw96
              have pw113 : ((u2 I91 (1000) 25 (v106)) (1000) 30).toInt = (I82 (1000) 30 : Int32).toInt := (congrArg Int32.toInt ((show (u2 I91 (1000) 25 (v106)) (1000) 30 = I91 (1000) 30 from by simp [u2_v]))).trans pw97
              have pw114 : ((u2 I91 (1000) 25 (v106)) (1000) 31).toInt = (I82 (1000) 31 : Int32).toInt := (congrArg Int32.toInt ((show (u2 I91 (1000) 25 (v106)) (1000) 31 = I91 (1000) 31 from by simp [u2_v]))).trans pw98
              have pw115 : ((u2 I91 (1000) 25 (v106)) (1000) 32).toInt = (I82 (1000) 32 : Int32).toInt := (congrArg Int32.toInt ((show (u2 I91 (1000) 25 (v106)) (1000) 32 = I91 (1000) 32 from by simp [u2_v]))).trans pw99
              have pw116 : ((u2 I91 (1000) 25 (v106)) (1000) 28).toInt = (Ia48 (1000) 28 : Int32).toInt := (congrArg Int32.toInt (((show (u2 I91 (1000) 25 (v106)) (1000) 28 = I91 (1000) 28 from by simp [u2_v])).trans (hkI91.get (1000) 28 rfl))).trans pw86
              have hz1 : (v90).toNatClampNeg = (x1_48).toNatClampNeg + 1 := by have z1 := tn (i := v90) (by omega); have z2 := tn (i := x1_48) (by omega); omega
              have hLW1 := hLW
              rw [show (x2_48).toInt = 1 from by omega] at hLW1
              have z3 := tn (i := I91 1000 25) (by omega)
              have z4 := tn (i := (u2 I91 (1000) 25 (v106)) 1000 25) (by omega)
              exact ih48 (0) (v90) (u2 I91 (1000) 25 (v106)) L92 _ _ ls hI hK (by first | omega | decide) (by first | omega | decide) (by omega) (fun hz => by omega) (fun hz => by have w0 := xI82.2.2.2.2.1 (by omega); omega) (fun r hr => (hLo r hr).of (((show (u2 I91 (1000) 25 (v106)) 1035 = I91 1035 from by funext zz; simp [u2_v])).trans (hkI91.getA 1035 rfl)) (((show (u2 I91 (1000) 25 (v106)) 1036 = I91 1036 from by funext zz; simp [u2_v])).trans (hkI91.getA 1036 rfl)) (((show (u2 I91 (1000) 25 (v106)) 1037 = I91 1037 from by funext zz; simp [u2_v])).trans (hkI91.getA 1037 rfl)) (((show (u2 I91 (1000) 25 (v106)) 1039 = I91 1039 from by funext zz; simp [u2_v])).trans (hkI91.getA 1039 rfl)) (((show (u2 I91 (1000) 25 (v106)) 1040 = I91 1040 from by funext zz; simp [u2_v])).trans (hkI91.getA 1040 rfl)) (((show (u2 I91 (1000) 25 (v106)) 1041 = I91 1041 from by funext zz; simp [u2_v])).trans (hkI91.getA 1041 rfl))) (fun hz => by rw [hz1]; have w0 := xI82.2.2.2.2.1 (by omega); exact (hLn (by omega)).of (((show (u2 I91 (1000) 25 (v106)) 1035 = I91 1035 from by funext zz; simp [u2_v])).trans (hkI91.getA 1035 rfl)) (((show (u2 I91 (1000) 25 (v106)) 1036 = I91 1036 from by funext zz; simp [u2_v])).trans (hkI91.getA 1036 rfl)) (((show (u2 I91 (1000) 25 (v106)) 1039 = I91 1039 from by funext zz; simp [u2_v])).trans (hkI91.getA 1039 rfl)) (((show (u2 I91 (1000) 25 (v106)) 1040 = I91 1040 from by funext zz; simp [u2_v])).trans (hkI91.getA 1040 rfl)) (((show (u2 I91 (1000) 25 (v106)) 1041 = I91 1041 from by funext zz; simp [u2_v])).trans (hkI91.getA 1041 rfl)) (by omega) (by omega)) ((TM_of ((((show (u2 I91 (1000) 25 (v106)) 1034 = I91 1034 from by funext zz; simp [u2_v])).trans (hkI91.getA 1034 rfl)).trans (hkI82.getA 1034 rfl)) ((((show (u2 I91 (1000) 25 (v106)) (1000) 24 = I91 (1000) 24 from by simp [u2_v])).trans (hkI91.get (1000) 24 rfl)).trans (hkI82.get (1000) 24 rfl))).trans hTM) (hBT.of ((((show (u2 I91 (1000) 25 (v106)) 1034 = I91 1034 from by funext zz; simp [u2_v])).trans (hkI91.getA 1034 rfl)).trans (hkI82.getA 1034 rfl)) ((((show (u2 I91 (1000) 25 (v106)) (1000) 24 = I91 (1000) 24 from by simp [u2_v])).trans (hkI91.get (1000) 24 rfl)).trans (hkI82.get (1000) 24 rfl))) (by rw [k0]; exact lwi_bad hLW1 (by omega) nw89.1 (by omega) (by omega)) (hOL.of (((show (u2 I91 (1000) 25 (v106)) 1035 = I91 1035 from by funext zz; simp [u2_v])).trans (hkI91.getA 1035 rfl)) (((show (u2 I91 (1000) 25 (v106)) 1036 = I91 1036 from by funext zz; simp [u2_v])).trans (hkI91.getA 1036 rfl)) (((show (u2 I91 (1000) 25 (v106)) 1037 = I91 1037 from by funext zz; simp [u2_v])).trans (hkI91.getA 1037 rfl)) (((show (u2 I91 (1000) 25 (v106)) 1038 = I91 1038 from by funext zz; simp [u2_v])).trans (hkI91.getA 1038 rfl)) (((show (u2 I91 (1000) 25 (v106)) 1039 = I91 1039 from by funext zz; simp [u2_v])).trans (hkI91.getA 1039 rfl)) (((show (u2 I91 (1000) 25 (v106)) 1040 = I91 1040 from by funext zz; simp [u2_v])).trans (hkI91.getA 1040 rfl)) (((show (u2 I91 (1000) 25 (v106)) 1041 = I91 1041 from by funext zz; simp [u2_v])).trans (hkI91.getA 1041 rfl))) (by omega) hM hS (lv_sub hl [0, 1, 2] rfl)
            · have hc104 := c104
              have q104 := q_eq hc104
              have w117 := xI82.2.2.2.2.1 (by omega)
              refine lv_aload_n hx hb dX10_law_107 rfl (lv_at hl 2 rfl) ?_
              refine m_geti (1000) 25 hx hb hts hown hE oc10 hM hJ.1 rfl (by decide) rfl tb_1202 dX10_law_108 ?_
              have g118 := hI.get (1000) 25 (lo := 0) (hi := 100000) rfl
              refine lv_aload_n hx hb dX10_law_111 rfl (lv_at hl 2 rfl) ?_
              refine m_geti (1000) 24 hx hb hts hown hE oc10 hM hJ.1 rfl (by decide) rfl tb_1201 dX10_law_112 ?_
              have g119 := hI.get (1000) 24 (lo := 0) (hi := 400) rfl
              have z120 : I91 (1000) 24 = Ia48 (1000) 24 := ((hkI91.get (1000) 24 rfl)).trans (hkI82.get (1000) 24 rfl)
              rw [z120] at g119 ⊢
              refine lv_icmp_ge (tgt := 122) hx hb dX10_law_115 (by decide) (fun c121 => ?_) (fun c121 => ?_)
              · have hc121 := c121
                have q121 := q_le hc121
                refine lv_iconst (v := (0)) hx hb dX10_law_122 (by decide) ?_
                refine lv_istore_n (lv' := [(2, .int (0)), (1, .int (v90)), (0, .ref (ad (1000)))]) hx hb dX10_law_123 rfl hl (by decide) rfl (fun ls hl => ?_)
                refine lv_aload_n hx hb dX10_law_124 rfl (lv_at hl 2 rfl) ?_
                refine lv_dup hx hb dX10_law_125 rfl ?_
                refine m_geti (1000) 25 hx hb hts hown hE oc10 hM hJ.1 rfl (by decide) rfl tb_1202 dX10_law_126 ?_
                refine lv_iconst (v := (1)) hx hb dX10_law_129 (by decide) ?_
                refine lv_iadd hx hb dX10_law_130 ?_
                refine lv_topi (fun v122 ev122 => ?_)
                have tv122 := a_add ev122 (by omega) (by omega)
                refine m_puti (1000) 25 hx hb hts hown hE oc10 hM hS hJ.1 rfl (by decide) rfl rfl rfl rfl tb_1202 dX10_law_131 (fun H locs I123 eI123 hM hS => ?_)
                subst eI123
                have hI := hI.put (n := 1000) (k := 25) (v := v122) (lo := 0) (hi := 100000) rfl (by first | omega | decide)
                have hK := hK.put (n := 1000) (k := 25) (v := v122) (by first | rfl | simp [inR])
                refine lv_goto (tgt := 48) hx hb dX10_law_134 (by decide) ?_
                have pw124 : ((u2 I91 (1000) 25 (v122)) (1000) 24).toInt = (Ia48 (1000) 24 : Int32).toInt := (congrArg Int32.toInt ((show (u2 I91 (1000) 25 (v122)) (1000) 24 = I91 (1000) 24 from by simp [u2_v]))).trans pw93
                have pw125 : ((u2 I91 (1000) 25 (v122)) (1000) 25).toInt = (v122 : Int32).toInt := congrArg Int32.toInt ((show (u2 I91 (1000) 25 (v122)) (1000) 25 = v122 from by simp [u2_v]))
                have pw126 : ((u2 I91 (1000) 25 (v122)) (1000) 26).toInt = (I82 (1000) 26 : Int32).toInt := (congrArg Int32.toInt ((show (u2 I91 (1000) 25 (v122)) (1000) 26 = I91 (1000) 26 from by simp [u2_v]))).trans pw94
                have pw127 : ((u2 I91 (1000) 25 (v122)) (1000) 27).toInt = (Ia48 (1000) 27 : Int32).toInt := (congrArg Int32.toInt ((show (u2 I91 (1000) 25 (v122)) (1000) 27 = I91 (1000) 27 from by simp [u2_v]))).trans pw95
                have pw128 : ((u2 I91 (1000) 25 (v122)) (1000) 29).toInt = (I82 (1000) 29 : Int32).toInt := (congrArg Int32.toInt ((show (u2 I91 (1000) 25 (v122)) (1000) 29 = I91 (1000) 29 from by simp [u2_v]))).trans pw96
                have pw129 : ((u2 I91 (1000) 25 (v122)) (1000) 30).toInt = (I82 (1000) 30 : Int32).toInt := (congrArg Int32.toInt ((show (u2 I91 (1000) 25 (v122)) (1000) 30 = I91 (1000) 30 from by simp [u2_v]))).trans pw97
                have pw130 : ((u2 I91 (1000) 25 (v122)) (1000) 31).toInt = (I82 (1000) 31 : Int32).toInt := (congrArg Int32.toInt ((show (u2 I91 (1000) 25 (v122)) (1000) 31 = I91 (1000) 31 from by simp [u2_v]))).trans pw98
                have pw131 : ((u2 I91 (1000) 25 (v122)) (1000) 32).toInt = (I82 (1000) 32 : Int32).toInt := (congrArg Int32.toInt ((show (u2 I91 (1000) 25 (v122)) (1000) 32 = I91 (1000) 32 from by simp [u2_v]))).trans pw99
                have pw132 : ((u2 I91 (1000) 25 (v122)) (1000) 28).toInt = (Ia48 (1000) 28 : Int32).toInt := (congrArg Int32.toInt (((show (u2 I91 (1000) 25 (v122)) (1000) 28 = I91 (1000) 28 from by simp [u2_v])).trans (hkI91.get (1000) 28 rfl))).trans pw86
                have hz1 : (v90).toNatClampNeg = (x1_48).toNatClampNeg + 1 := by have z1 := tn (i := v90) (by omega); have z2 := tn (i := x1_48) (by omega); omega
                have hLW1 := hLW
                rw [show (x2_48).toInt = 1 from by omega] at hLW1
                have z3 := tn (i := I91 1000 25) (by omega)
                have z4 := tn (i := (u2 I91 (1000) 25 (v122)) 1000 25) (by omega)
                exact ih48 (0) (v90) (u2 I91 (1000) 25 (v122)) L92 _ _ ls hI hK (by first | omega | decide) (by first | omega | decide) (by omega) (fun hz => by omega) (fun hz => by omega) (fun r hr => (hLo r hr).of (((show (u2 I91 (1000) 25 (v122)) 1035 = I91 1035 from by funext zz; simp [u2_v])).trans (hkI91.getA 1035 rfl)) (((show (u2 I91 (1000) 25 (v122)) 1036 = I91 1036 from by funext zz; simp [u2_v])).trans (hkI91.getA 1036 rfl)) (((show (u2 I91 (1000) 25 (v122)) 1037 = I91 1037 from by funext zz; simp [u2_v])).trans (hkI91.getA 1037 rfl)) (((show (u2 I91 (1000) 25 (v122)) 1039 = I91 1039 from by funext zz; simp [u2_v])).trans (hkI91.getA 1039 rfl)) (((show (u2 I91 (1000) 25 (v122)) 1040 = I91 1040 from by funext zz; simp [u2_v])).trans (hkI91.getA 1040 rfl)) (((show (u2 I91 (1000) 25 (v122)) 1041 = I91 1041 from by funext zz; simp [u2_v])).trans (hkI91.getA 1041 rfl))) (fun hz => by rw [hz1]; exact (hLn (by omega)).of (((show (u2 I91 (1000) 25 (v122)) 1035 = I91 1035 from by funext zz; simp [u2_v])).trans (hkI91.getA 1035 rfl)) (((show (u2 I91 (1000) 25 (v122)) 1036 = I91 1036 from by funext zz; simp [u2_v])).trans (hkI91.getA 1036 rfl)) (((show (u2 I91 (1000) 25 (v122)) 1039 = I91 1039 from by funext zz; simp [u2_v])).trans (hkI91.getA 1039 rfl)) (((show (u2 I91 (1000) 25 (v122)) 1040 = I91 1040 from by funext zz; simp [u2_v])).trans (hkI91.getA 1040 rfl)) (((show (u2 I91 (1000) 25 (v122)) 1041 = I91 1041 from by funext zz; simp [u2_v])).trans (hkI91.getA 1041 rfl)) (by omega) (by omega)) ((TM_of ((((show (u2 I91 (1000) 25 (v122)) 1034 = I91 1034 from by funext zz; simp [u2_v])).trans (hkI91.getA 1034 rfl)).trans (hkI82.getA 1034 rfl)) ((((show (u2 I91 (1000) 25 (v122)) (1000) 24 = I91 (1000) 24 from by simp [u2_v])).trans (hkI91.get (1000) 24 rfl)).trans (hkI82.get (1000) 24 rfl))).trans hTM) (hBT.of ((((show (u2 I91 (1000) 25 (v122)) 1034 = I91 1034 from by funext zz; simp [u2_v])).trans (hkI91.getA 1034 rfl)).trans (hkI82.getA 1034 rfl)) ((((show (u2 I91 (1000) 25 (v122)) (1000) 24 = I91 (1000) 24 from by simp [u2_v])).trans (hkI91.get (1000) 24 rfl)).trans (hkI82.get (1000) 24 rfl))) (by exfalso; omega) (hOL.of (((show (u2 I91 (1000) 25 (v122)) 1035 = I91 1035 from by funext zz; simp [u2_v])).trans (hkI91.getA 1035 rfl)) (((show (u2 I91 (1000) 25 (v122)) 1036 = I91 1036 from by funext zz; simp [u2_v])).trans (hkI91.getA 1036 rfl)) (((show (u2 I91 (1000) 25 (v122)) 1037 = I91 1037 from by funext zz; simp [u2_v])).trans (hkI91.getA 1037 rfl)) (((show (u2 I91 (1000) 25 (v122)) 1038 = I91 1038 from by funext zz; simp [u2_v])).trans (hkI91.getA 1038 rfl)) (((show (u2 I91 (1000) 25 (v122)) 1039 = I91 1039 from by funext zz; simp [u2_v])).trans (hkI91.getA 1039 rfl)) (((show (u2 I91 (1000) 25 (v122)) 1040 = I91 1040 from by funext zz; simp [u2_v])).trans (hkI91.getA 1040 rfl)) (((show (u2 I91 (1000) 25 (v122)) 1041 = I91 1041 from by funext zz; simp [u2_v])).trans (hkI91.getA 1041 rfl))) (by omega) hM hS (lv_sub hl [0, 1, 2] rfl)
              · have hc121 := c121
                have q121 := q_nle hc121
                refine lv_iconst (v := (1)) hx hb dX10_law_118 (by decide) ?_
                refine lv_goto (tgt := 123) hx hb dX10_law_119 (by decide) ?_
                refine lv_istore_n (lv' := [(2, .int (1)), (1, .int (v90)), (0, .ref (ad (1000)))]) hx hb dX10_law_123 rfl hl (by decide) rfl (fun ls hl => ?_)
                refine lv_aload_n hx hb dX10_law_124 rfl (lv_at hl 2 rfl) ?_
                refine lv_dup hx hb dX10_law_125 rfl ?_
                refine m_geti (1000) 25 hx hb hts hown hE oc10 hM hJ.1 rfl (by decide) rfl tb_1202 dX10_law_126 ?_
                refine lv_iconst (v := (1)) hx hb dX10_law_129 (by decide) ?_
                refine lv_iadd hx hb dX10_law_130 ?_
                refine lv_topi (fun v133 ev133 => ?_)
                have tv133 := a_add ev133 (by omega) (by omega)
                refine m_puti (1000) 25 hx hb hts hown hE oc10 hM hS hJ.1 rfl (by decide) rfl rfl rfl rfl tb_1202 dX10_law_131 (fun H locs I134 eI134 hM hS => ?_)
                subst eI134
                have hI := hI.put (n := 1000) (k := 25) (v := v133) (lo := 0) (hi := 100000) rfl (by first | omega | decide)
                have hK := hK.put (n := 1000) (k := 25) (v := v133) (by first | rfl | simp [inR])
                refine lv_goto (tgt := 48) hx hb dX10_law_134 (by decide) ?_
                have pw135 : ((u2 I91 (1000) 25 (v133)) (1000) 24).toInt = (Ia48 (1000) 24 : Int32).toInt := (congrArg Int32.toInt ((show (u2 I91 (1000) 25 (v133)) (1000) 24 = I91 (1000) 24 from by simp [u2_v]))).trans pw93
                have pw136 : ((u2 I91 (1000) 25 (v133)) (1000) 25).toInt = (v133 : Int32).toInt := congrArg Int32.toInt ((show (u2 I91 (1000) 25 (v133)) (1000) 25 = v133 from by simp [u2_v]))
                have pw137 : ((u2 I91 (1000) 25 (v133)) (1000) 26).toInt = (I82 (1000) 26 : Int32).toInt := (congrArg Int32.toInt ((show (u2 I91 (1000) 25 (v133)) (1000) 26 = I91 (1000) 26 from by simp [u2_v]))).trans pw94
                have pw138 : ((u2 I91 (1000) 25 (v133)) (1000) 27).toInt = (Ia48 (1000) 27 : Int32).toInt := (congrArg Int32.toInt ((show (u2 I91 (1000) 25 (v133)) (1000) 27 = I91 (1000) 27 from by simp [u2_v]))).trans pw95
                have pw139 : ((u2 I91 (1000) 25 (v133)) (1000) 29).toInt = (I82 (1000) 29 : Int32).toInt := (congrArg Int32.toInt ((show (u2 I91 (1000) 25 (v133)) (1000) 29 = I91 (1000) 29 from by simp [u2_v]))).trans pw96
                have pw140 : ((u2 I91 (1000) 25 (v133)) (1000) 30).toInt = (I82 (1000) 30 : Int32).toInt := (congrArg Int32.toInt ((show (u2 I91 (1000) 25 (v133)) (1000) 30 = I91 (1000) 30 from by simp [u2_v]))).trans pw97
                have pw141 : ((u2 I91 (1000) 25 (v133)) (1000) 31).toInt = (I82 (1000) 31 : Int32).toInt := (congrArg Int32.toInt ((show (u2 I91 (1000) 25 (v133)) (1000) 31 = I91 (1000) 31 from by simp [u2_v]))).trans pw98
                have pw142 : ((u2 I91 (1000) 25 (v133)) (1000) 32).toInt = (I82 (1000) 32 : Int32).toInt := (congrArg Int32.toInt ((show (u2 I91 (1000) 25 (v133)) (1000) 32 = I91 (1000) 32 from by simp [u2_v]))).trans pw99
                have pw143 : ((u2 I91 (1000) 25 (v133)) (1000) 28).toInt = (Ia48 (1000) 28 : Int32).toInt := (congrArg Int32.toInt (((show (u2 I91 (1000) 25 (v133)) (1000) 28 = I91 (1000) 28 from by simp [u2_v])).trans (hkI91.get (1000) 28 rfl))).trans pw86
                have hz1 : (v90).toNatClampNeg = (x1_48).toNatClampNeg + 1 := by have z1 := tn (i := v90) (by omega); have z2 := tn (i := x1_48) (by omega); omega
                have hLW1 := hLW
                rw [show (x2_48).toInt = 1 from by omega] at hLW1
                have z3 := tn (i := I91 1000 25) (by omega)
                have z4 := tn (i := (u2 I91 (1000) 25 (v133)) 1000 25) (by omega)
                exact ih48 (1) (v90) (u2 I91 (1000) 25 (v133)) L92 _ _ ls hI hK (by first | omega | decide) (by first | omega | decide) (by omega) (fun hz => by omega) (fun hz => by omega) (fun r hr => (hLo r hr).of (((show (u2 I91 (1000) 25 (v133)) 1035 = I91 1035 from by funext zz; simp [u2_v])).trans (hkI91.getA 1035 rfl)) (((show (u2 I91 (1000) 25 (v133)) 1036 = I91 1036 from by funext zz; simp [u2_v])).trans (hkI91.getA 1036 rfl)) (((show (u2 I91 (1000) 25 (v133)) 1037 = I91 1037 from by funext zz; simp [u2_v])).trans (hkI91.getA 1037 rfl)) (((show (u2 I91 (1000) 25 (v133)) 1039 = I91 1039 from by funext zz; simp [u2_v])).trans (hkI91.getA 1039 rfl)) (((show (u2 I91 (1000) 25 (v133)) 1040 = I91 1040 from by funext zz; simp [u2_v])).trans (hkI91.getA 1040 rfl)) (((show (u2 I91 (1000) 25 (v133)) 1041 = I91 1041 from by funext zz; simp [u2_v])).trans (hkI91.getA 1041 rfl))) (fun hz => by rw [hz1]; exact (hLn (by omega)).of (((show (u2 I91 (1000) 25 (v133)) 1035 = I91 1035 from by funext zz; simp [u2_v])).trans (hkI91.getA 1035 rfl)) (((show (u2 I91 (1000) 25 (v133)) 1036 = I91 1036 from by funext zz; simp [u2_v])).trans (hkI91.getA 1036 rfl)) (((show (u2 I91 (1000) 25 (v133)) 1039 = I91 1039 from by funext zz; simp [u2_v])).trans (hkI91.getA 1039 rfl)) (((show (u2 I91 (1000) 25 (v133)) 1040 = I91 1040 from by funext zz; simp [u2_v])).trans (hkI91.getA 1040 rfl)) (((show (u2 I91 (1000) 25 (v133)) 1041 = I91 1041 from by funext zz; simp [u2_v])).trans (hkI91.getA 1041 rfl)) (by omega) (by omega)) ((TM_of ((((show (u2 I91 (1000) 25 (v133)) 1034 = I91 1034 from by funext zz; simp [u2_v])).trans (hkI91.getA 1034 rfl)).trans (hkI82.getA 1034 rfl)) ((((show (u2 I91 (1000) 25 (v133)) (1000) 24 = I91 (1000) 24 from by simp [u2_v])).trans (hkI91.get (1000) 24 rfl)).trans (hkI82.get (1000) 24 rfl))).trans hTM) (hBT.of ((((show (u2 I91 (1000) 25 (v133)) 1034 = I91 1034 from by funext zz; simp [u2_v])).trans (hkI91.getA 1034 rfl)).trans (hkI82.getA 1034 rfl)) ((((show (u2 I91 (1000) 25 (v133)) (1000) 24 = I91 (1000) 24 from by simp [u2_v])).trans (hkI91.get (1000) 24 rfl)).trans (hkI82.get (1000) 24 rfl))) (by exfalso; omega) (hOL.of (((show (u2 I91 (1000) 25 (v133)) 1035 = I91 1035 from by funext zz; simp [u2_v])).trans (hkI91.getA 1035 rfl)) (((show (u2 I91 (1000) 25 (v133)) 1036 = I91 1036 from by funext zz; simp [u2_v])).trans (hkI91.getA 1036 rfl)) (((show (u2 I91 (1000) 25 (v133)) 1037 = I91 1037 from by funext zz; simp [u2_v])).trans (hkI91.getA 1037 rfl)) (((show (u2 I91 (1000) 25 (v133)) 1038 = I91 1038 from by funext zz; simp [u2_v])).trans (hkI91.getA 1038 rfl)) (((show (u2 I91 (1000) 25 (v133)) 1039 = I91 1039 from by funext zz; simp [u2_v])).trans (hkI91.getA 1039 rfl)) (((show (u2 I91 (1000) 25 (v133)) 1040 = I91 1040 from by funext zz; simp [u2_v])).trans (hkI91.getA 1040 rfl)) (((show (u2 I91 (1000) 25 (v133)) 1041 = I91 1041 from by funext zz; simp [u2_v])).trans (hkI91.getA 1041 rfl))) (by omega) hM hS (lv_sub hl [0, 1, 2] rfl)
          · have hc102 := c102
            have q102 := q_eq hc102
            have w144 := xI82.2.2.2.2.1 (by omega)
            refine lv_aload_n hx hb dX10_law_71 rfl (lv_at hl 2 rfl) ?_
            refine m_geti (1000) 25 hx hb hts hown hE oc10 hM hJ.1 rfl (by decide) rfl tb_1202 dX10_law_72 ?_
            have g145 := hI.get (1000) 25 (lo := 0) (hi := 100000) rfl
            refine lv_aload_n hx hb dX10_law_75 rfl (lv_at hl 2 rfl) ?_
            refine m_geti (1000) 24 hx hb hts hown hE oc10 hM hJ.1 rfl (by decide) rfl tb_1201 dX10_law_76 ?_
            have g146 := hI.get (1000) 24 (lo := 0) (hi := 400) rfl
            have z147 : I91 (1000) 24 = Ia48 (1000) 24 := ((hkI91.get (1000) 24 rfl)).trans (hkI82.get (1000) 24 rfl)
            rw [z147] at g146 ⊢
            refine lv_icmp_ge (tgt := 100) hx hb dX10_law_79 (by decide) (fun c148 => ?_) (fun c148 => ?_)
            · have hc148 := c148
              have q148 := q_le hc148
              refine lv_aload_n hx hb dX10_law_100 rfl (lv_at hl 2 rfl) ?_
              refine m_geti (1000) 26 hx hb hts hown hE oc10 hM hJ.1 rfl (by decide) rfl tb_1203 dX10_law_101 ?_
              have z149 : I91 (1000) 26 = I82 (1000) 26 := (hkI91.get (1000) 26 rfl)
              rw [z149]
              refine lv_if_ne (tgt := 122) hx hb dX10_law_104 (by decide) (fun c150 => ?_) (fun c150 => ?_)
              · have hc150 := c150
                have q150 := q_ne hc150
                refine lv_iconst (v := (0)) hx hb dX10_law_122 (by decide) ?_
                refine lv_istore_n (lv' := [(2, .int (0)), (1, .int (v90)), (0, .ref (ad (1000)))]) hx hb dX10_law_123 rfl hl (by decide) rfl (fun ls hl => ?_)
                refine lv_aload_n hx hb dX10_law_124 rfl (lv_at hl 2 rfl) ?_
                refine lv_dup hx hb dX10_law_125 rfl ?_
                refine m_geti (1000) 25 hx hb hts hown hE oc10 hM hJ.1 rfl (by decide) rfl tb_1202 dX10_law_126 ?_
                refine lv_iconst (v := (1)) hx hb dX10_law_129 (by decide) ?_
                refine lv_iadd hx hb dX10_law_130 ?_
                refine lv_topi (fun v151 ev151 => ?_)
                have tv151 := a_add ev151 (by omega) (by omega)
                refine m_puti (1000) 25 hx hb hts hown hE oc10 hM hS hJ.1 rfl (by decide) rfl rfl rfl rfl tb_1202 dX10_law_131 (fun H locs I152 eI152 hM hS => ?_)
                subst eI152
                have hI := hI.put (n := 1000) (k := 25) (v := v151) (lo := 0) (hi := 100000) rfl (by first | omega | decide)
                have hK := hK.put (n := 1000) (k := 25) (v := v151) (by first | rfl | simp [inR])
                refine lv_goto (tgt := 48) hx hb dX10_law_134 (by decide) ?_
                have pw153 : ((u2 I91 (1000) 25 (v151)) (1000) 24).toInt = (Ia48 (1000) 24 : Int32).toInt := (congrArg Int32.toInt ((show (u2 I91 (1000) 25 (v151)) (1000) 24 = I91 (1000) 24 from by simp [u2_v]))).trans pw93
                have pw154 : ((u2 I91 (1000) 25 (v151)) (1000) 25).toInt = (v151 : Int32).toInt := congrArg Int32.toInt ((show (u2 I91 (1000) 25 (v151)) (1000) 25 = v151 from by simp [u2_v]))
                have pw155 : ((u2 I91 (1000) 25 (v151)) (1000) 26).toInt = (I82 (1000) 26 : Int32).toInt := (congrArg Int32.toInt ((show (u2 I91 (1000) 25 (v151)) (1000) 26 = I91 (1000) 26 from by simp [u2_v]))).trans pw94
                have pw156 : ((u2 I91 (1000) 25 (v151)) (1000) 27).toInt = (Ia48 (1000) 27 : Int32).toInt := (congrArg Int32.toInt ((show (u2 I91 (1000) 25 (v151)) (1000) 27 = I91 (1000) 27 from by simp [u2_v]))).trans pw95
                have pw157 : ((u2 I91 (1000) 25 (v151)) (1000) 29).toInt = (I82 (1000) 29 : Int32).toInt := (congrArg Int32.toInt ((show (u2 I91 (1000) 25 (v151)) (1000) 29 = I91 (1000) 29 from by simp [u2_v]))).trans pw96
                have pw158 : ((u2 I91 (1000) 25 (v151)) (1000) 30).toInt = (I82 (1000) 30 : Int32).toInt := (congrArg Int32.toInt ((show (u2 I91 (1000) 25 (v151)) (1000) 30 = I91 (1000) 30 from by simp [u2_v]))).trans pw97
                have pw159 : ((u2 I91 (1000) 25 (v151)) (1000) 31).toInt = (I82 (1000) 31 : Int32).toInt := (congrArg Int32.toInt ((show (u2 I91 (1000) 25 (v151)) (1000) 31 = I91 (1000) 31 from by simp [u2_v]))).trans pw98
                have pw160 : ((u2 I91 (1000) 25 (v151)) (1000) 32).toInt = (I82 (1000) 32 : Int32).toInt := (congrArg Int32.toInt ((show (u2 I91 (1000) 25 (v151)) (1000) 32 = I91 (1000) 32 from by simp [u2_v]))).trans pw99
                have pw161 : ((u2 I91 (1000) 25 (v151)) (1000) 28).toInt = (Ia48 (1000) 28 : Int32).toInt := (congrArg Int32.toInt (((show (u2 I91 (1000) 25 (v151)) (1000) 28 = I91 (1000) 28 from by simp [u2_v])).trans (hkI91.get (1000) 28 rfl))).trans pw86
                have hz1 : (v90).toNatClampNeg = (x1_48).toNatClampNeg + 1 := by have z1 := tn (i := v90) (by omega); have z2 := tn (i := x1_48) (by omega); omega
                have hLW1 := hLW
                rw [show (x2_48).toInt = 1 from by omega] at hLW1
                have z3 := tn (i := I91 1000 25) (by omega)
                have z4 := tn (i := (u2 I91 (1000) 25 (v151)) 1000 25) (by omega)
                have hq0 : (I91 1000 25).toNatClampNeg = skp (TM I) (I82 1000 25).toNatClampNeg := nw100
                have hne : TM I (I91 1000 25).toNatClampNeg = -45 := by have w1 : TM I91 (I91 1000 25).toNatClampNeg = -45 := TXT_n (by omega); rw [show TM I91 = TM I from (TM_of (((hkI91.getA 1034 rfl)).trans (hkI82.getA 1034 rfl)) (((hkI91.get (1000) 24 rfl)).trans (hkI82.get (1000) 24 rfl))).trans hTM] at w1; exact w1
                exact ih48 (0) (v90) (u2 I91 (1000) 25 (v151)) L92 _ _ ls hI hK (by first | omega | decide) (by first | omega | decide) (by omega) (fun hz => by omega) (fun hz => by omega) (fun r hr => (hLo r hr).of (((show (u2 I91 (1000) 25 (v151)) 1035 = I91 1035 from by funext zz; simp [u2_v])).trans (hkI91.getA 1035 rfl)) (((show (u2 I91 (1000) 25 (v151)) 1036 = I91 1036 from by funext zz; simp [u2_v])).trans (hkI91.getA 1036 rfl)) (((show (u2 I91 (1000) 25 (v151)) 1037 = I91 1037 from by funext zz; simp [u2_v])).trans (hkI91.getA 1037 rfl)) (((show (u2 I91 (1000) 25 (v151)) 1039 = I91 1039 from by funext zz; simp [u2_v])).trans (hkI91.getA 1039 rfl)) (((show (u2 I91 (1000) 25 (v151)) 1040 = I91 1040 from by funext zz; simp [u2_v])).trans (hkI91.getA 1040 rfl)) (((show (u2 I91 (1000) 25 (v151)) 1041 = I91 1041 from by funext zz; simp [u2_v])).trans (hkI91.getA 1041 rfl))) (fun hz => by rw [hz1]; exact (hLn (by omega)).of (((show (u2 I91 (1000) 25 (v151)) 1035 = I91 1035 from by funext zz; simp [u2_v])).trans (hkI91.getA 1035 rfl)) (((show (u2 I91 (1000) 25 (v151)) 1036 = I91 1036 from by funext zz; simp [u2_v])).trans (hkI91.getA 1036 rfl)) (((show (u2 I91 (1000) 25 (v151)) 1039 = I91 1039 from by funext zz; simp [u2_v])).trans (hkI91.getA 1039 rfl)) (((show (u2 I91 (1000) 25 (v151)) 1040 = I91 1040 from by funext zz; simp [u2_v])).trans (hkI91.getA 1040 rfl)) (((show (u2 I91 (1000) 25 (v151)) 1041 = I91 1041 from by funext zz; simp [u2_v])).trans (hkI91.getA 1041 rfl)) (by omega) (by omega)) ((TM_of ((((show (u2 I91 (1000) 25 (v151)) 1034 = I91 1034 from by funext zz; simp [u2_v])).trans (hkI91.getA 1034 rfl)).trans (hkI82.getA 1034 rfl)) ((((show (u2 I91 (1000) 25 (v151)) (1000) 24 = I91 (1000) 24 from by simp [u2_v])).trans (hkI91.get (1000) 24 rfl)).trans (hkI82.get (1000) 24 rfl))).trans hTM) (hBT.of ((((show (u2 I91 (1000) 25 (v151)) 1034 = I91 1034 from by funext zz; simp [u2_v])).trans (hkI91.getA 1034 rfl)).trans (hkI82.getA 1034 rfl)) ((((show (u2 I91 (1000) 25 (v151)) (1000) 24 = I91 (1000) 24 from by simp [u2_v])).trans (hkI91.get (1000) 24 rfl)).trans (hkI82.get (1000) 24 rfl))) (by exfalso; omega) (hOL.of (((show (u2 I91 (1000) 25 (v151)) 1035 = I91 1035 from by funext zz; simp [u2_v])).trans (hkI91.getA 1035 rfl)) (((show (u2 I91 (1000) 25 (v151)) 1036 = I91 1036 from by funext zz; simp [u2_v])).trans (hkI91.getA 1036 rfl)) (((show (u2 I91 (1000) 25 (v151)) 1037 = I91 1037 from by funext zz; simp [u2_v])).trans (hkI91.getA 1037 rfl)) (((show (u2 I91 (1000) 25 (v151)) 1038 = I91 1038 from by funext zz; simp [u2_v])).trans (hkI91.getA 1038 rfl)) (((show (u2 I91 (1000) 25 (v151)) 1039 = I91 1039 from by funext zz; simp [u2_v])).trans (hkI91.getA 1039 rfl)) (((show (u2 I91 (1000) 25 (v151)) 1040 = I91 1040 from by funext zz; simp [u2_v])).trans (hkI91.getA 1040 rfl)) (((show (u2 I91 (1000) 25 (v151)) 1041 = I91 1041 from by funext zz; simp [u2_v])).trans (hkI91.getA 1041 rfl))) (by omega) hM hS (lv_sub hl [0, 1, 2] rfl)
              · have hc150 := c150
                have q150 := q_eq hc150
                refine lv_aload_n hx hb dX10_law_107 rfl (lv_at hl 2 rfl) ?_
                refine m_geti (1000) 25 hx hb hts hown hE oc10 hM hJ.1 rfl (by decide) rfl tb_1202 dX10_law_108 ?_
                refine lv_aload_n hx hb dX10_law_111 rfl (lv_at hl 2 rfl) ?_
                refine m_geti (1000) 24 hx hb hts hown hE oc10 hM hJ.1 rfl (by decide) rfl tb_1201 dX10_law_112 ?_
                have z162 : I91 (1000) 24 = Ia48 (1000) 24 := ((hkI91.get (1000) 24 rfl)).trans (hkI82.get (1000) 24 rfl)
                rw [z162]
                refine lv_icmp_ge (tgt := 122) hx hb dX10_law_115 (by decide) (fun c163 => ?_) (fun c163 => ?_)
                · have hc163 := c163
                  have q163 := q_le hc163
                  refine lv_iconst (v := (0)) hx hb dX10_law_122 (by decide) ?_
                  refine lv_istore_n (lv' := [(2, .int (0)), (1, .int (v90)), (0, .ref (ad (1000)))]) hx hb dX10_law_123 rfl hl (by decide) rfl (fun ls hl => ?_)
                  refine lv_aload_n hx hb dX10_law_124 rfl (lv_at hl 2 rfl) ?_
                  refine lv_dup hx hb dX10_law_125 rfl ?_
                  refine m_geti (1000) 25 hx hb hts hown hE oc10 hM hJ.1 rfl (by decide) rfl tb_1202 dX10_law_126 ?_
                  refine lv_iconst (v := (1)) hx hb dX10_law_129 (by decide) ?_
                  refine lv_iadd hx hb dX10_law_130 ?_
                  refine lv_topi (fun v164 ev164 => ?_)
                  have tv164 := a_add ev164 (by omega) (by omega)
                  refine m_puti (1000) 25 hx hb hts hown hE oc10 hM hS hJ.1 rfl (by decide) rfl rfl rfl rfl tb_1202 dX10_law_131 (fun H locs I165 eI165 hM hS => ?_)
                  subst eI165
                  have hI := hI.put (n := 1000) (k := 25) (v := v164) (lo := 0) (hi := 100000) rfl (by first | omega | decide)
                  have hK := hK.put (n := 1000) (k := 25) (v := v164) (by first | rfl | simp [inR])
                  refine lv_goto (tgt := 48) hx hb dX10_law_134 (by decide) ?_
                  have pw166 : ((u2 I91 (1000) 25 (v164)) (1000) 24).toInt = (Ia48 (1000) 24 : Int32).toInt := (congrArg Int32.toInt ((show (u2 I91 (1000) 25 (v164)) (1000) 24 = I91 (1000) 24 from by simp [u2_v]))).trans pw93
                  have pw167 : ((u2 I91 (1000) 25 (v164)) (1000) 25).toInt = (v164 : Int32).toInt := congrArg Int32.toInt ((show (u2 I91 (1000) 25 (v164)) (1000) 25 = v164 from by simp [u2_v]))
                  have pw168 : ((u2 I91 (1000) 25 (v164)) (1000) 26).toInt = (I82 (1000) 26 : Int32).toInt := (congrArg Int32.toInt ((show (u2 I91 (1000) 25 (v164)) (1000) 26 = I91 (1000) 26 from by simp [u2_v]))).trans pw94
                  have pw169 : ((u2 I91 (1000) 25 (v164)) (1000) 27).toInt = (Ia48 (1000) 27 : Int32).toInt := (congrArg Int32.toInt ((show (u2 I91 (1000) 25 (v164)) (1000) 27 = I91 (1000) 27 from by simp [u2_v]))).trans pw95
                  have pw170 : ((u2 I91 (1000) 25 (v164)) (1000) 29).toInt = (I82 (1000) 29 : Int32).toInt := (congrArg Int32.toInt ((show (u2 I91 (1000) 25 (v164)) (1000) 29 = I91 (1000) 29 from by simp [u2_v]))).trans pw96
                  have pw171 : ((u2 I91 (1000) 25 (v164)) (1000) 30).toInt = (I82 (1000) 30 : Int32).toInt := (congrArg Int32.toInt ((show (u2 I91 (1000) 25 (v164)) (1000) 30 = I91 (1000) 30 from by simp [u2_v]))).trans pw97
                  have pw172 : ((u2 I91 (1000) 25 (v164)) (1000) 31).toInt = (I82 (1000) 31 : Int32).toInt := (congrArg Int32.toInt ((show (u2 I91 (1000) 25 (v164)) (1000) 31 = I91 (1000) 31 from by simp [u2_v]))).trans pw98
                  have pw173 : ((u2 I91 (1000) 25 (v164)) (1000) 32).toInt = (I82 (1000) 32 : Int32).toInt := (congrArg Int32.toInt ((show (u2 I91 (1000) 25 (v164)) (1000) 32 = I91 (1000) 32 from by simp [u2_v]))).trans pw99
                  have pw174 : ((u2 I91 (1000) 25 (v164)) (1000) 28).toInt = (Ia48 (1000) 28 : Int32).toInt := (congrArg Int32.toInt (((show (u2 I91 (1000) 25 (v164)) (1000) 28 = I91 (1000) 28 from by simp [u2_v])).trans (hkI91.get (1000) 28 rfl))).trans pw86
                  have hz1 : (v90).toNatClampNeg = (x1_48).toNatClampNeg + 1 := by have z1 := tn (i := v90) (by omega); have z2 := tn (i := x1_48) (by omega); omega
                  have hLW1 := hLW
                  rw [show (x2_48).toInt = 1 from by omega] at hLW1
                  have z3 := tn (i := I91 1000 25) (by omega)
                  have z4 := tn (i := (u2 I91 (1000) 25 (v164)) 1000 25) (by omega)
                  have hq0 : (I91 1000 25).toNatClampNeg = skp (TM I) (I82 1000 25).toNatClampNeg := nw100
                  have hne : TM I (I91 1000 25).toNatClampNeg = -45 := by have w1 : TM I91 (I91 1000 25).toNatClampNeg = -45 := TXT_n (by omega); rw [show TM I91 = TM I from (TM_of (((hkI91.getA 1034 rfl)).trans (hkI82.getA 1034 rfl)) (((hkI91.get (1000) 24 rfl)).trans (hkI82.get (1000) 24 rfl))).trans hTM] at w1; exact w1
                  exact ih48 (0) (v90) (u2 I91 (1000) 25 (v164)) L92 _ _ ls hI hK (by first | omega | decide) (by first | omega | decide) (by omega) (fun hz => by omega) (fun hz => by omega) (fun r hr => (hLo r hr).of (((show (u2 I91 (1000) 25 (v164)) 1035 = I91 1035 from by funext zz; simp [u2_v])).trans (hkI91.getA 1035 rfl)) (((show (u2 I91 (1000) 25 (v164)) 1036 = I91 1036 from by funext zz; simp [u2_v])).trans (hkI91.getA 1036 rfl)) (((show (u2 I91 (1000) 25 (v164)) 1037 = I91 1037 from by funext zz; simp [u2_v])).trans (hkI91.getA 1037 rfl)) (((show (u2 I91 (1000) 25 (v164)) 1039 = I91 1039 from by funext zz; simp [u2_v])).trans (hkI91.getA 1039 rfl)) (((show (u2 I91 (1000) 25 (v164)) 1040 = I91 1040 from by funext zz; simp [u2_v])).trans (hkI91.getA 1040 rfl)) (((show (u2 I91 (1000) 25 (v164)) 1041 = I91 1041 from by funext zz; simp [u2_v])).trans (hkI91.getA 1041 rfl))) (fun hz => by rw [hz1]; exact (hLn (by omega)).of (((show (u2 I91 (1000) 25 (v164)) 1035 = I91 1035 from by funext zz; simp [u2_v])).trans (hkI91.getA 1035 rfl)) (((show (u2 I91 (1000) 25 (v164)) 1036 = I91 1036 from by funext zz; simp [u2_v])).trans (hkI91.getA 1036 rfl)) (((show (u2 I91 (1000) 25 (v164)) 1039 = I91 1039 from by funext zz; simp [u2_v])).trans (hkI91.getA 1039 rfl)) (((show (u2 I91 (1000) 25 (v164)) 1040 = I91 1040 from by funext zz; simp [u2_v])).trans (hkI91.getA 1040 rfl)) (((show (u2 I91 (1000) 25 (v164)) 1041 = I91 1041 from by funext zz; simp [u2_v])).trans (hkI91.getA 1041 rfl)) (by omega) (by omega)) ((TM_of ((((show (u2 I91 (1000) 25 (v164)) 1034 = I91 1034 from by funext zz; simp [u2_v])).trans (hkI91.getA 1034 rfl)).trans (hkI82.getA 1034 rfl)) ((((show (u2 I91 (1000) 25 (v164)) (1000) 24 = I91 (1000) 24 from by simp [u2_v])).trans (hkI91.get (1000) 24 rfl)).trans (hkI82.get (1000) 24 rfl))).trans hTM) (hBT.of ((((show (u2 I91 (1000) 25 (v164)) 1034 = I91 1034 from by funext zz; simp [u2_v])).trans (hkI91.getA 1034 rfl)).trans (hkI82.getA 1034 rfl)) ((((show (u2 I91 (1000) 25 (v164)) (1000) 24 = I91 (1000) 24 from by simp [u2_v])).trans (hkI91.get (1000) 24 rfl)).trans (hkI82.get (1000) 24 rfl))) (by rw [k0]; exact lwi_done (q := (I91 1000 25).toNatClampNeg) hLW1 (by omega) nw89.1 (by omega) hq0 hne hz1 (by omega) (RC_of (J := I82) (J2 := (u2 I91 (1000) 25 (v164))) (((show (u2 I91 (1000) 25 (v164)) 1035 = I91 1035 from by funext zz; simp [u2_v])).trans (hkI91.getA 1035 rfl)) (((show (u2 I91 (1000) 25 (v164)) 1036 = I91 1036 from by funext zz; simp [u2_v])).trans (hkI91.getA 1036 rfl)) (by omega) (by omega)) (((show (u2 I91 (1000) 25 (v164)) 1038 = I91 1038 from by funext zz; simp [u2_v])).trans (hkI91.getA 1038 rfl)) (((show (u2 I91 (1000) 25 (v164)) 1039 = I91 1039 from by funext zz; simp [u2_v])).trans (hkI91.getA 1039 rfl)) (((show (u2 I91 (1000) 25 (v164)) 1040 = I91 1040 from by funext zz; simp [u2_v])).trans (hkI91.getA 1040 rfl)) (((show (u2 I91 (1000) 25 (v164)) 1041 = I91 1041 from by funext zz; simp [u2_v])).trans (hkI91.getA 1041 rfl)) (by omega)) (hOL.of (((show (u2 I91 (1000) 25 (v164)) 1035 = I91 1035 from by funext zz; simp [u2_v])).trans (hkI91.getA 1035 rfl)) (((show (u2 I91 (1000) 25 (v164)) 1036 = I91 1036 from by funext zz; simp [u2_v])).trans (hkI91.getA 1036 rfl)) (((show (u2 I91 (1000) 25 (v164)) 1037 = I91 1037 from by funext zz; simp [u2_v])).trans (hkI91.getA 1037 rfl)) (((show (u2 I91 (1000) 25 (v164)) 1038 = I91 1038 from by funext zz; simp [u2_v])).trans (hkI91.getA 1038 rfl)) (((show (u2 I91 (1000) 25 (v164)) 1039 = I91 1039 from by funext zz; simp [u2_v])).trans (hkI91.getA 1039 rfl)) (((show (u2 I91 (1000) 25 (v164)) 1040 = I91 1040 from by funext zz; simp [u2_v])).trans (hkI91.getA 1040 rfl)) (((show (u2 I91 (1000) 25 (v164)) 1041 = I91 1041 from by funext zz; simp [u2_v])).trans (hkI91.getA 1041 rfl))) (by omega) hM hS (lv_sub hl [0, 1, 2] rfl)
                · have hc163 := c163
                  have q163 := q_nle hc163
                  refine lv_iconst (v := (1)) hx hb dX10_law_118 (by decide) ?_
                  refine lv_goto (tgt := 123) hx hb dX10_law_119 (by decide) ?_
                  refine lv_istore_n (lv' := [(2, .int (1)), (1, .int (v90)), (0, .ref (ad (1000)))]) hx hb dX10_law_123 rfl hl (by decide) rfl (fun ls hl => ?_)
                  refine lv_aload_n hx hb dX10_law_124 rfl (lv_at hl 2 rfl) ?_
                  refine lv_dup hx hb dX10_law_125 rfl ?_
                  refine m_geti (1000) 25 hx hb hts hown hE oc10 hM hJ.1 rfl (by decide) rfl tb_1202 dX10_law_126 ?_
                  refine lv_iconst (v := (1)) hx hb dX10_law_129 (by decide) ?_
                  refine lv_iadd hx hb dX10_law_130 ?_
                  refine lv_topi (fun v175 ev175 => ?_)
                  have tv175 := a_add ev175 (by omega) (by omega)
                  refine m_puti (1000) 25 hx hb hts hown hE oc10 hM hS hJ.1 rfl (by decide) rfl rfl rfl rfl tb_1202 dX10_law_131 (fun H locs I176 eI176 hM hS => ?_)
                  subst eI176
                  have hI := hI.put (n := 1000) (k := 25) (v := v175) (lo := 0) (hi := 100000) rfl (by first | omega | decide)
                  have hK := hK.put (n := 1000) (k := 25) (v := v175) (by first | rfl | simp [inR])
                  refine lv_goto (tgt := 48) hx hb dX10_law_134 (by decide) ?_
                  have pw177 : ((u2 I91 (1000) 25 (v175)) (1000) 24).toInt = (Ia48 (1000) 24 : Int32).toInt := (congrArg Int32.toInt ((show (u2 I91 (1000) 25 (v175)) (1000) 24 = I91 (1000) 24 from by simp [u2_v]))).trans pw93
                  have pw178 : ((u2 I91 (1000) 25 (v175)) (1000) 25).toInt = (v175 : Int32).toInt := congrArg Int32.toInt ((show (u2 I91 (1000) 25 (v175)) (1000) 25 = v175 from by simp [u2_v]))
                  have pw179 : ((u2 I91 (1000) 25 (v175)) (1000) 26).toInt = (I82 (1000) 26 : Int32).toInt := (congrArg Int32.toInt ((show (u2 I91 (1000) 25 (v175)) (1000) 26 = I91 (1000) 26 from by simp [u2_v]))).trans pw94
                  have pw180 : ((u2 I91 (1000) 25 (v175)) (1000) 27).toInt = (Ia48 (1000) 27 : Int32).toInt := (congrArg Int32.toInt ((show (u2 I91 (1000) 25 (v175)) (1000) 27 = I91 (1000) 27 from by simp [u2_v]))).trans pw95
                  have pw181 : ((u2 I91 (1000) 25 (v175)) (1000) 29).toInt = (I82 (1000) 29 : Int32).toInt := (congrArg Int32.toInt ((show (u2 I91 (1000) 25 (v175)) (1000) 29 = I91 (1000) 29 from by simp [u2_v]))).trans pw96
                  have pw182 : ((u2 I91 (1000) 25 (v175)) (1000) 30).toInt = (I82 (1000) 30 : Int32).toInt := (congrArg Int32.toInt ((show (u2 I91 (1000) 25 (v175)) (1000) 30 = I91 (1000) 30 from by simp [u2_v]))).trans pw97
                  have pw183 : ((u2 I91 (1000) 25 (v175)) (1000) 31).toInt = (I82 (1000) 31 : Int32).toInt := (congrArg Int32.toInt ((show (u2 I91 (1000) 25 (v175)) (1000) 31 = I91 (1000) 31 from by simp [u2_v]))).trans pw98
                  have pw184 : ((u2 I91 (1000) 25 (v175)) (1000) 32).toInt = (I82 (1000) 32 : Int32).toInt := (congrArg Int32.toInt ((show (u2 I91 (1000) 25 (v175)) (1000) 32 = I91 (1000) 32 from by simp [u2_v]))).trans pw99
                  have pw185 : ((u2 I91 (1000) 25 (v175)) (1000) 28).toInt = (Ia48 (1000) 28 : Int32).toInt := (congrArg Int32.toInt (((show (u2 I91 (1000) 25 (v175)) (1000) 28 = I91 (1000) 28 from by simp [u2_v])).trans (hkI91.get (1000) 28 rfl))).trans pw86
                  have hz1 : (v90).toNatClampNeg = (x1_48).toNatClampNeg + 1 := by have z1 := tn (i := v90) (by omega); have z2 := tn (i := x1_48) (by omega); omega
                  have hLW1 := hLW
                  rw [show (x2_48).toInt = 1 from by omega] at hLW1
                  have z3 := tn (i := I91 1000 25) (by omega)
                  have z4 := tn (i := (u2 I91 (1000) 25 (v175)) 1000 25) (by omega)
                  have hq0 : (I91 1000 25).toNatClampNeg = skp (TM I) (I82 1000 25).toNatClampNeg := nw100
                  have hne : TM I (I91 1000 25).toNatClampNeg = -45 := by have w1 : TM I91 (I91 1000 25).toNatClampNeg = -45 := TXT_n (by omega); rw [show TM I91 = TM I from (TM_of (((hkI91.getA 1034 rfl)).trans (hkI82.getA 1034 rfl)) (((hkI91.get (1000) 24 rfl)).trans (hkI82.get (1000) 24 rfl))).trans hTM] at w1; exact w1
                  exact ih48 (1) (v90) (u2 I91 (1000) 25 (v175)) L92 _ _ ls hI hK (by first | omega | decide) (by first | omega | decide) (by omega) (fun hz => by omega) (fun hz => by omega) (fun r hr => (hLo r hr).of (((show (u2 I91 (1000) 25 (v175)) 1035 = I91 1035 from by funext zz; simp [u2_v])).trans (hkI91.getA 1035 rfl)) (((show (u2 I91 (1000) 25 (v175)) 1036 = I91 1036 from by funext zz; simp [u2_v])).trans (hkI91.getA 1036 rfl)) (((show (u2 I91 (1000) 25 (v175)) 1037 = I91 1037 from by funext zz; simp [u2_v])).trans (hkI91.getA 1037 rfl)) (((show (u2 I91 (1000) 25 (v175)) 1039 = I91 1039 from by funext zz; simp [u2_v])).trans (hkI91.getA 1039 rfl)) (((show (u2 I91 (1000) 25 (v175)) 1040 = I91 1040 from by funext zz; simp [u2_v])).trans (hkI91.getA 1040 rfl)) (((show (u2 I91 (1000) 25 (v175)) 1041 = I91 1041 from by funext zz; simp [u2_v])).trans (hkI91.getA 1041 rfl))) (fun hz => by rw [hz1]; exact (hLn (by omega)).of (((show (u2 I91 (1000) 25 (v175)) 1035 = I91 1035 from by funext zz; simp [u2_v])).trans (hkI91.getA 1035 rfl)) (((show (u2 I91 (1000) 25 (v175)) 1036 = I91 1036 from by funext zz; simp [u2_v])).trans (hkI91.getA 1036 rfl)) (((show (u2 I91 (1000) 25 (v175)) 1039 = I91 1039 from by funext zz; simp [u2_v])).trans (hkI91.getA 1039 rfl)) (((show (u2 I91 (1000) 25 (v175)) 1040 = I91 1040 from by funext zz; simp [u2_v])).trans (hkI91.getA 1040 rfl)) (((show (u2 I91 (1000) 25 (v175)) 1041 = I91 1041 from by funext zz; simp [u2_v])).trans (hkI91.getA 1041 rfl)) (by omega) (by omega)) ((TM_of ((((show (u2 I91 (1000) 25 (v175)) 1034 = I91 1034 from by funext zz; simp [u2_v])).trans (hkI91.getA 1034 rfl)).trans (hkI82.getA 1034 rfl)) ((((show (u2 I91 (1000) 25 (v175)) (1000) 24 = I91 (1000) 24 from by simp [u2_v])).trans (hkI91.get (1000) 24 rfl)).trans (hkI82.get (1000) 24 rfl))).trans hTM) (hBT.of ((((show (u2 I91 (1000) 25 (v175)) 1034 = I91 1034 from by funext zz; simp [u2_v])).trans (hkI91.getA 1034 rfl)).trans (hkI82.getA 1034 rfl)) ((((show (u2 I91 (1000) 25 (v175)) (1000) 24 = I91 (1000) 24 from by simp [u2_v])).trans (hkI91.get (1000) 24 rfl)).trans (hkI82.get (1000) 24 rfl))) (by exfalso; omega) (hOL.of (((show (u2 I91 (1000) 25 (v175)) 1035 = I91 1035 from by funext zz; simp [u2_v])).trans (hkI91.getA 1035 rfl)) (((show (u2 I91 (1000) 25 (v175)) 1036 = I91 1036 from by funext zz; simp [u2_v])).trans (hkI91.getA 1036 rfl)) (((show (u2 I91 (1000) 25 (v175)) 1037 = I91 1037 from by funext zz; simp [u2_v])).trans (hkI91.getA 1037 rfl)) (((show (u2 I91 (1000) 25 (v175)) 1038 = I91 1038 from by funext zz; simp [u2_v])).trans (hkI91.getA 1038 rfl)) (((show (u2 I91 (1000) 25 (v175)) 1039 = I91 1039 from by funext zz; simp [u2_v])).trans (hkI91.getA 1039 rfl)) (((show (u2 I91 (1000) 25 (v175)) 1040 = I91 1040 from by funext zz; simp [u2_v])).trans (hkI91.getA 1040 rfl)) (((show (u2 I91 (1000) 25 (v175)) 1041 = I91 1041 from by funext zz; simp [u2_v])).trans (hkI91.getA 1041 rfl))) (by omega) hM hS (lv_sub hl [0, 1, 2] rfl)
            · have hc148 := c148
              have q148 := q_nle hc148
              refine lv_aload_n hx hb dX10_law_82 rfl (lv_at hl 2 rfl) ?_
              have pw186 : (I91 (1000) 28).toInt = (Ia48 (1000) 28 : Int32).toInt := (congrArg Int32.toInt ((hkI91.get (1000) 28 rfl))).trans pw86
              refine m_calli (m_runV (1000) (As := []) (rest := []) hx hb hml hown hts hE hM hS hA ce_X10_sign tb_1510 (V_X10_sign_h l D A ad ns I91 L92 G hJ hI) rfl rfl ⟨Nat.le_of_ble_eq_true rfl, Nat.le_of_ble_eq_true rfl⟩ hJ.1 rfl rfl (by decide) rfl hl.1 rfl (Nat.le_of_ble_eq_true rfl) dX10_law_83 ⟨Nat.le_of_ble_eq_true rfl, Nat.le_of_ble_eq_true rfl⟩) hS (fun r187 u H locs hw hM hS => ?_)
              obtain ⟨rfl, xr187⟩ := hw
              have hM : Mem D A ad ns I91 L92 G H := hM
              have g188 := hI.get 1000 24 (lo := 0) (hi := 400) rfl
              have g189 := hI.get 1000 25 (lo := 0) (hi := 100000) rfl
              have sx190 := xr187.1
              rw [show TM I91 = TM I from ((TM_of (((hkI91.getA 1034 rfl)).trans (hkI82.getA 1034 rfl)) (((hkI91.get (1000) 24 rfl)).trans (hkI82.get (1000) 24 rfl))).trans hTM)] at sx190
              refine lv_bipush (v := (59)) hx hb dX10_law_86 (by decide) ?_
              refine lv_icmp_eq (tgt := 100) hx hb dX10_law_88 (by decide) (fun c191 => ?_) (fun c191 => ?_)
              · have hc191 := c191
                have q191 := q_eq hc191
                have sg192 := xr187.2.2.2 (by omega)
                have sc193 := sx190.y (k := 59) (by omega) (by decide)
                refine lv_aload_n hx hb dX10_law_100 rfl (lv_at hl 2 rfl) ?_
                refine m_geti (1000) 26 hx hb hts hown hE oc10 hM hJ.1 rfl (by decide) rfl tb_1203 dX10_law_101 ?_
                have z194 : I91 (1000) 26 = I82 (1000) 26 := (hkI91.get (1000) 26 rfl)
                rw [z194]
                refine lv_if_ne (tgt := 122) hx hb dX10_law_104 (by decide) (fun c195 => ?_) (fun c195 => ?_)
                · have hc195 := c195
                  have q195 := q_ne hc195
                  refine lv_iconst (v := (0)) hx hb dX10_law_122 (by decide) ?_
                  refine lv_istore_n (lv' := [(2, .int (0)), (1, .int (v90)), (0, .ref (ad (1000)))]) hx hb dX10_law_123 rfl hl (by decide) rfl (fun ls hl => ?_)
                  refine lv_aload_n hx hb dX10_law_124 rfl (lv_at hl 2 rfl) ?_
                  refine lv_dup hx hb dX10_law_125 rfl ?_
                  refine m_geti (1000) 25 hx hb hts hown hE oc10 hM hJ.1 rfl (by decide) rfl tb_1202 dX10_law_126 ?_
                  refine lv_iconst (v := (1)) hx hb dX10_law_129 (by decide) ?_
                  refine lv_iadd hx hb dX10_law_130 ?_
                  refine lv_topi (fun v196 ev196 => ?_)
                  have tv196 := a_add ev196 (by omega) (by omega)
                  refine m_puti (1000) 25 hx hb hts hown hE oc10 hM hS hJ.1 rfl (by decide) rfl rfl rfl rfl tb_1202 dX10_law_131 (fun H locs I197 eI197 hM hS => ?_)
                  subst eI197
                  have hI := hI.put (n := 1000) (k := 25) (v := v196) (lo := 0) (hi := 100000) rfl (by first | omega | decide)
                  have hK := hK.put (n := 1000) (k := 25) (v := v196) (by first | rfl | simp [inR])
                  refine lv_goto (tgt := 48) hx hb dX10_law_134 (by decide) ?_
                  have pw198 : ((u2 I91 (1000) 25 (v196)) (1000) 24).toInt = (Ia48 (1000) 24 : Int32).toInt := (congrArg Int32.toInt ((show (u2 I91 (1000) 25 (v196)) (1000) 24 = I91 (1000) 24 from by simp [u2_v]))).trans pw93
                  have pw199 : ((u2 I91 (1000) 25 (v196)) (1000) 25).toInt = (v196 : Int32).toInt := congrArg Int32.toInt ((show (u2 I91 (1000) 25 (v196)) (1000) 25 = v196 from by simp [u2_v]))
                  have pw200 : ((u2 I91 (1000) 25 (v196)) (1000) 26).toInt = (I82 (1000) 26 : Int32).toInt := (congrArg Int32.toInt ((show (u2 I91 (1000) 25 (v196)) (1000) 26 = I91 (1000) 26 from by simp [u2_v]))).trans pw94
                  have pw201 : ((u2 I91 (1000) 25 (v196)) (1000) 27).toInt = (Ia48 (1000) 27 : Int32).toInt := (congrArg Int32.toInt ((show (u2 I91 (1000) 25 (v196)) (1000) 27 = I91 (1000) 27 from by simp [u2_v]))).trans pw95
                  have pw202 : ((u2 I91 (1000) 25 (v196)) (1000) 29).toInt = (I82 (1000) 29 : Int32).toInt := (congrArg Int32.toInt ((show (u2 I91 (1000) 25 (v196)) (1000) 29 = I91 (1000) 29 from by simp [u2_v]))).trans pw96
                  have pw203 : ((u2 I91 (1000) 25 (v196)) (1000) 30).toInt = (I82 (1000) 30 : Int32).toInt := (congrArg Int32.toInt ((show (u2 I91 (1000) 25 (v196)) (1000) 30 = I91 (1000) 30 from by simp [u2_v]))).trans pw97
                  have pw204 : ((u2 I91 (1000) 25 (v196)) (1000) 31).toInt = (I82 (1000) 31 : Int32).toInt := (congrArg Int32.toInt ((show (u2 I91 (1000) 25 (v196)) (1000) 31 = I91 (1000) 31 from by simp [u2_v]))).trans pw98
                  have pw205 : ((u2 I91 (1000) 25 (v196)) (1000) 32).toInt = (I82 (1000) 32 : Int32).toInt := (congrArg Int32.toInt ((show (u2 I91 (1000) 25 (v196)) (1000) 32 = I91 (1000) 32 from by simp [u2_v]))).trans pw99
                  have pw206 : ((u2 I91 (1000) 25 (v196)) (1000) 28).toInt = (Ia48 (1000) 28 : Int32).toInt := (congrArg Int32.toInt ((show (u2 I91 (1000) 25 (v196)) (1000) 28 = I91 (1000) 28 from by simp [u2_v]))).trans pw186
                  have hz1 : (v90).toNatClampNeg = (x1_48).toNatClampNeg + 1 := by have z1 := tn (i := v90) (by omega); have z2 := tn (i := x1_48) (by omega); omega
                  have hLW1 := hLW
                  rw [show (x2_48).toInt = 1 from by omega] at hLW1
                  have z3 := tn (i := I91 1000 25) (by omega)
                  have z4 := tn (i := (u2 I91 (1000) 25 (v196)) 1000 25) (by omega)
                  have hq0 : (I91 1000 25).toNatClampNeg = skp (TM I) (I82 1000 25).toNatClampNeg := nw100
                  exact ih48 (0) (v90) (u2 I91 (1000) 25 (v196)) L92 _ _ ls hI hK (by first | omega | decide) (by first | omega | decide) (by omega) (fun hz => by omega) (fun hz => by omega) (fun r hr => (hLo r hr).of (((show (u2 I91 (1000) 25 (v196)) 1035 = I91 1035 from by funext zz; simp [u2_v])).trans (hkI91.getA 1035 rfl)) (((show (u2 I91 (1000) 25 (v196)) 1036 = I91 1036 from by funext zz; simp [u2_v])).trans (hkI91.getA 1036 rfl)) (((show (u2 I91 (1000) 25 (v196)) 1037 = I91 1037 from by funext zz; simp [u2_v])).trans (hkI91.getA 1037 rfl)) (((show (u2 I91 (1000) 25 (v196)) 1039 = I91 1039 from by funext zz; simp [u2_v])).trans (hkI91.getA 1039 rfl)) (((show (u2 I91 (1000) 25 (v196)) 1040 = I91 1040 from by funext zz; simp [u2_v])).trans (hkI91.getA 1040 rfl)) (((show (u2 I91 (1000) 25 (v196)) 1041 = I91 1041 from by funext zz; simp [u2_v])).trans (hkI91.getA 1041 rfl))) (fun hz => by rw [hz1]; exact (hLn (by omega)).of (((show (u2 I91 (1000) 25 (v196)) 1035 = I91 1035 from by funext zz; simp [u2_v])).trans (hkI91.getA 1035 rfl)) (((show (u2 I91 (1000) 25 (v196)) 1036 = I91 1036 from by funext zz; simp [u2_v])).trans (hkI91.getA 1036 rfl)) (((show (u2 I91 (1000) 25 (v196)) 1039 = I91 1039 from by funext zz; simp [u2_v])).trans (hkI91.getA 1039 rfl)) (((show (u2 I91 (1000) 25 (v196)) 1040 = I91 1040 from by funext zz; simp [u2_v])).trans (hkI91.getA 1040 rfl)) (((show (u2 I91 (1000) 25 (v196)) 1041 = I91 1041 from by funext zz; simp [u2_v])).trans (hkI91.getA 1041 rfl)) (by omega) (by omega)) ((TM_of ((((show (u2 I91 (1000) 25 (v196)) 1034 = I91 1034 from by funext zz; simp [u2_v])).trans (hkI91.getA 1034 rfl)).trans (hkI82.getA 1034 rfl)) ((((show (u2 I91 (1000) 25 (v196)) (1000) 24 = I91 (1000) 24 from by simp [u2_v])).trans (hkI91.get (1000) 24 rfl)).trans (hkI82.get (1000) 24 rfl))).trans hTM) (hBT.of ((((show (u2 I91 (1000) 25 (v196)) 1034 = I91 1034 from by funext zz; simp [u2_v])).trans (hkI91.getA 1034 rfl)).trans (hkI82.getA 1034 rfl)) ((((show (u2 I91 (1000) 25 (v196)) (1000) 24 = I91 (1000) 24 from by simp [u2_v])).trans (hkI91.get (1000) 24 rfl)).trans (hkI82.get (1000) 24 rfl))) (by exfalso; omega) (hOL.of (((show (u2 I91 (1000) 25 (v196)) 1035 = I91 1035 from by funext zz; simp [u2_v])).trans (hkI91.getA 1035 rfl)) (((show (u2 I91 (1000) 25 (v196)) 1036 = I91 1036 from by funext zz; simp [u2_v])).trans (hkI91.getA 1036 rfl)) (((show (u2 I91 (1000) 25 (v196)) 1037 = I91 1037 from by funext zz; simp [u2_v])).trans (hkI91.getA 1037 rfl)) (((show (u2 I91 (1000) 25 (v196)) 1038 = I91 1038 from by funext zz; simp [u2_v])).trans (hkI91.getA 1038 rfl)) (((show (u2 I91 (1000) 25 (v196)) 1039 = I91 1039 from by funext zz; simp [u2_v])).trans (hkI91.getA 1039 rfl)) (((show (u2 I91 (1000) 25 (v196)) 1040 = I91 1040 from by funext zz; simp [u2_v])).trans (hkI91.getA 1040 rfl)) (((show (u2 I91 (1000) 25 (v196)) 1041 = I91 1041 from by funext zz; simp [u2_v])).trans (hkI91.getA 1041 rfl))) (by omega) hM hS (lv_sub hl [0, 1, 2] rfl)
                · have hc195 := c195
                  have q195 := q_eq hc195
                  refine lv_aload_n hx hb dX10_law_107 rfl (lv_at hl 2 rfl) ?_
                  refine m_geti (1000) 25 hx hb hts hown hE oc10 hM hJ.1 rfl (by decide) rfl tb_1202 dX10_law_108 ?_
                  refine lv_aload_n hx hb dX10_law_111 rfl (lv_at hl 2 rfl) ?_
                  refine m_geti (1000) 24 hx hb hts hown hE oc10 hM hJ.1 rfl (by decide) rfl tb_1201 dX10_law_112 ?_
                  have z207 : I91 (1000) 24 = Ia48 (1000) 24 := ((hkI91.get (1000) 24 rfl)).trans (hkI82.get (1000) 24 rfl)
                  rw [z207]
                  refine lv_icmp_ge (tgt := 122) hx hb dX10_law_115 (by decide) (fun c208 => ?_) (fun c208 => ?_)
                  · have hc208 := c208
                    have q208 := q_le hc208
                    refine lv_iconst (v := (0)) hx hb dX10_law_122 (by decide) ?_
                    refine lv_istore_n (lv' := [(2, .int (0)), (1, .int (v90)), (0, .ref (ad (1000)))]) hx hb dX10_law_123 rfl hl (by decide) rfl (fun ls hl => ?_)
                    refine lv_aload_n hx hb dX10_law_124 rfl (lv_at hl 2 rfl) ?_
                    refine lv_dup hx hb dX10_law_125 rfl ?_
                    refine m_geti (1000) 25 hx hb hts hown hE oc10 hM hJ.1 rfl (by decide) rfl tb_1202 dX10_law_126 ?_
                    refine lv_iconst (v := (1)) hx hb dX10_law_129 (by decide) ?_
                    refine lv_iadd hx hb dX10_law_130 ?_
                    refine lv_topi (fun v209 ev209 => ?_)
                    have tv209 := a_add ev209 (by omega) (by omega)
                    refine m_puti (1000) 25 hx hb hts hown hE oc10 hM hS hJ.1 rfl (by decide) rfl rfl rfl rfl tb_1202 dX10_law_131 (fun H locs I210 eI210 hM hS => ?_)
                    subst eI210
                    have hI := hI.put (n := 1000) (k := 25) (v := v209) (lo := 0) (hi := 100000) rfl (by first | omega | decide)
                    have hK := hK.put (n := 1000) (k := 25) (v := v209) (by first | rfl | simp [inR])
                    refine lv_goto (tgt := 48) hx hb dX10_law_134 (by decide) ?_
                    have pw211 : ((u2 I91 (1000) 25 (v209)) (1000) 24).toInt = (Ia48 (1000) 24 : Int32).toInt := (congrArg Int32.toInt ((show (u2 I91 (1000) 25 (v209)) (1000) 24 = I91 (1000) 24 from by simp [u2_v]))).trans pw93
                    have pw212 : ((u2 I91 (1000) 25 (v209)) (1000) 25).toInt = (v209 : Int32).toInt := congrArg Int32.toInt ((show (u2 I91 (1000) 25 (v209)) (1000) 25 = v209 from by simp [u2_v]))
                    have pw213 : ((u2 I91 (1000) 25 (v209)) (1000) 26).toInt = (I82 (1000) 26 : Int32).toInt := (congrArg Int32.toInt ((show (u2 I91 (1000) 25 (v209)) (1000) 26 = I91 (1000) 26 from by simp [u2_v]))).trans pw94
                    have pw214 : ((u2 I91 (1000) 25 (v209)) (1000) 27).toInt = (Ia48 (1000) 27 : Int32).toInt := (congrArg Int32.toInt ((show (u2 I91 (1000) 25 (v209)) (1000) 27 = I91 (1000) 27 from by simp [u2_v]))).trans pw95
                    have pw215 : ((u2 I91 (1000) 25 (v209)) (1000) 29).toInt = (I82 (1000) 29 : Int32).toInt := (congrArg Int32.toInt ((show (u2 I91 (1000) 25 (v209)) (1000) 29 = I91 (1000) 29 from by simp [u2_v]))).trans pw96
                    have pw216 : ((u2 I91 (1000) 25 (v209)) (1000) 30).toInt = (I82 (1000) 30 : Int32).toInt := (congrArg Int32.toInt ((show (u2 I91 (1000) 25 (v209)) (1000) 30 = I91 (1000) 30 from by simp [u2_v]))).trans pw97
                    have pw217 : ((u2 I91 (1000) 25 (v209)) (1000) 31).toInt = (I82 (1000) 31 : Int32).toInt := (congrArg Int32.toInt ((show (u2 I91 (1000) 25 (v209)) (1000) 31 = I91 (1000) 31 from by simp [u2_v]))).trans pw98
                    have pw218 : ((u2 I91 (1000) 25 (v209)) (1000) 32).toInt = (I82 (1000) 32 : Int32).toInt := (congrArg Int32.toInt ((show (u2 I91 (1000) 25 (v209)) (1000) 32 = I91 (1000) 32 from by simp [u2_v]))).trans pw99
                    have pw219 : ((u2 I91 (1000) 25 (v209)) (1000) 28).toInt = (Ia48 (1000) 28 : Int32).toInt := (congrArg Int32.toInt ((show (u2 I91 (1000) 25 (v209)) (1000) 28 = I91 (1000) 28 from by simp [u2_v]))).trans pw186
                    have hz1 : (v90).toNatClampNeg = (x1_48).toNatClampNeg + 1 := by have z1 := tn (i := v90) (by omega); have z2 := tn (i := x1_48) (by omega); omega
                    have hLW1 := hLW
                    rw [show (x2_48).toInt = 1 from by omega] at hLW1
                    have z3 := tn (i := I91 1000 25) (by omega)
                    have z4 := tn (i := (u2 I91 (1000) 25 (v209)) 1000 25) (by omega)
                    have hq0 : (I91 1000 25).toNatClampNeg = skp (TM I) (I82 1000 25).toNatClampNeg := nw100
                    exact ih48 (0) (v90) (u2 I91 (1000) 25 (v209)) L92 _ _ ls hI hK (by first | omega | decide) (by first | omega | decide) (by omega) (fun hz => by omega) (fun hz => by omega) (fun r hr => (hLo r hr).of (((show (u2 I91 (1000) 25 (v209)) 1035 = I91 1035 from by funext zz; simp [u2_v])).trans (hkI91.getA 1035 rfl)) (((show (u2 I91 (1000) 25 (v209)) 1036 = I91 1036 from by funext zz; simp [u2_v])).trans (hkI91.getA 1036 rfl)) (((show (u2 I91 (1000) 25 (v209)) 1037 = I91 1037 from by funext zz; simp [u2_v])).trans (hkI91.getA 1037 rfl)) (((show (u2 I91 (1000) 25 (v209)) 1039 = I91 1039 from by funext zz; simp [u2_v])).trans (hkI91.getA 1039 rfl)) (((show (u2 I91 (1000) 25 (v209)) 1040 = I91 1040 from by funext zz; simp [u2_v])).trans (hkI91.getA 1040 rfl)) (((show (u2 I91 (1000) 25 (v209)) 1041 = I91 1041 from by funext zz; simp [u2_v])).trans (hkI91.getA 1041 rfl))) (fun hz => by rw [hz1]; exact (hLn (by omega)).of (((show (u2 I91 (1000) 25 (v209)) 1035 = I91 1035 from by funext zz; simp [u2_v])).trans (hkI91.getA 1035 rfl)) (((show (u2 I91 (1000) 25 (v209)) 1036 = I91 1036 from by funext zz; simp [u2_v])).trans (hkI91.getA 1036 rfl)) (((show (u2 I91 (1000) 25 (v209)) 1039 = I91 1039 from by funext zz; simp [u2_v])).trans (hkI91.getA 1039 rfl)) (((show (u2 I91 (1000) 25 (v209)) 1040 = I91 1040 from by funext zz; simp [u2_v])).trans (hkI91.getA 1040 rfl)) (((show (u2 I91 (1000) 25 (v209)) 1041 = I91 1041 from by funext zz; simp [u2_v])).trans (hkI91.getA 1041 rfl)) (by omega) (by omega)) ((TM_of ((((show (u2 I91 (1000) 25 (v209)) 1034 = I91 1034 from by funext zz; simp [u2_v])).trans (hkI91.getA 1034 rfl)).trans (hkI82.getA 1034 rfl)) ((((show (u2 I91 (1000) 25 (v209)) (1000) 24 = I91 (1000) 24 from by simp [u2_v])).trans (hkI91.get (1000) 24 rfl)).trans (hkI82.get (1000) 24 rfl))).trans hTM) (hBT.of ((((show (u2 I91 (1000) 25 (v209)) 1034 = I91 1034 from by funext zz; simp [u2_v])).trans (hkI91.getA 1034 rfl)).trans (hkI82.getA 1034 rfl)) ((((show (u2 I91 (1000) 25 (v209)) (1000) 24 = I91 (1000) 24 from by simp [u2_v])).trans (hkI91.get (1000) 24 rfl)).trans (hkI82.get (1000) 24 rfl))) (by exfalso; omega) (hOL.of (((show (u2 I91 (1000) 25 (v209)) 1035 = I91 1035 from by funext zz; simp [u2_v])).trans (hkI91.getA 1035 rfl)) (((show (u2 I91 (1000) 25 (v209)) 1036 = I91 1036 from by funext zz; simp [u2_v])).trans (hkI91.getA 1036 rfl)) (((show (u2 I91 (1000) 25 (v209)) 1037 = I91 1037 from by funext zz; simp [u2_v])).trans (hkI91.getA 1037 rfl)) (((show (u2 I91 (1000) 25 (v209)) 1038 = I91 1038 from by funext zz; simp [u2_v])).trans (hkI91.getA 1038 rfl)) (((show (u2 I91 (1000) 25 (v209)) 1039 = I91 1039 from by funext zz; simp [u2_v])).trans (hkI91.getA 1039 rfl)) (((show (u2 I91 (1000) 25 (v209)) 1040 = I91 1040 from by funext zz; simp [u2_v])).trans (hkI91.getA 1040 rfl)) (((show (u2 I91 (1000) 25 (v209)) 1041 = I91 1041 from by funext zz; simp [u2_v])).trans (hkI91.getA 1041 rfl))) (by omega) hM hS (lv_sub hl [0, 1, 2] rfl)
                  · have hc208 := c208
                    have q208 := q_nle hc208
                    refine lv_iconst (v := (1)) hx hb dX10_law_118 (by decide) ?_
                    refine lv_goto (tgt := 123) hx hb dX10_law_119 (by decide) ?_
                    refine lv_istore_n (lv' := [(2, .int (1)), (1, .int (v90)), (0, .ref (ad (1000)))]) hx hb dX10_law_123 rfl hl (by decide) rfl (fun ls hl => ?_)
                    refine lv_aload_n hx hb dX10_law_124 rfl (lv_at hl 2 rfl) ?_
                    refine lv_dup hx hb dX10_law_125 rfl ?_
                    refine m_geti (1000) 25 hx hb hts hown hE oc10 hM hJ.1 rfl (by decide) rfl tb_1202 dX10_law_126 ?_
                    refine lv_iconst (v := (1)) hx hb dX10_law_129 (by decide) ?_
                    refine lv_iadd hx hb dX10_law_130 ?_
                    refine lv_topi (fun v220 ev220 => ?_)
                    have tv220 := a_add ev220 (by omega) (by omega)
                    refine m_puti (1000) 25 hx hb hts hown hE oc10 hM hS hJ.1 rfl (by decide) rfl rfl rfl rfl tb_1202 dX10_law_131 (fun H locs I221 eI221 hM hS => ?_)
                    subst eI221
                    have hI := hI.put (n := 1000) (k := 25) (v := v220) (lo := 0) (hi := 100000) rfl (by first | omega | decide)
                    have hK := hK.put (n := 1000) (k := 25) (v := v220) (by first | rfl | simp [inR])
                    refine lv_goto (tgt := 48) hx hb dX10_law_134 (by decide) ?_
                    have pw222 : ((u2 I91 (1000) 25 (v220)) (1000) 24).toInt = (Ia48 (1000) 24 : Int32).toInt := (congrArg Int32.toInt ((show (u2 I91 (1000) 25 (v220)) (1000) 24 = I91 (1000) 24 from by simp [u2_v]))).trans pw93
                    have pw223 : ((u2 I91 (1000) 25 (v220)) (1000) 25).toInt = (v220 : Int32).toInt := congrArg Int32.toInt ((show (u2 I91 (1000) 25 (v220)) (1000) 25 = v220 from by simp [u2_v]))
                    have pw224 : ((u2 I91 (1000) 25 (v220)) (1000) 26).toInt = (I82 (1000) 26 : Int32).toInt := (congrArg Int32.toInt ((show (u2 I91 (1000) 25 (v220)) (1000) 26 = I91 (1000) 26 from by simp [u2_v]))).trans pw94
                    have pw225 : ((u2 I91 (1000) 25 (v220)) (1000) 27).toInt = (Ia48 (1000) 27 : Int32).toInt := (congrArg Int32.toInt ((show (u2 I91 (1000) 25 (v220)) (1000) 27 = I91 (1000) 27 from by simp [u2_v]))).trans pw95
                    have pw226 : ((u2 I91 (1000) 25 (v220)) (1000) 29).toInt = (I82 (1000) 29 : Int32).toInt := (congrArg Int32.toInt ((show (u2 I91 (1000) 25 (v220)) (1000) 29 = I91 (1000) 29 from by simp [u2_v]))).trans pw96
                    have pw227 : ((u2 I91 (1000) 25 (v220)) (1000) 30).toInt = (I82 (1000) 30 : Int32).toInt := (congrArg Int32.toInt ((show (u2 I91 (1000) 25 (v220)) (1000) 30 = I91 (1000) 30 from by simp [u2_v]))).trans pw97
                    have pw228 : ((u2 I91 (1000) 25 (v220)) (1000) 31).toInt = (I82 (1000) 31 : Int32).toInt := (congrArg Int32.toInt ((show (u2 I91 (1000) 25 (v220)) (1000) 31 = I91 (1000) 31 from by simp [u2_v]))).trans pw98
                    have pw229 : ((u2 I91 (1000) 25 (v220)) (1000) 32).toInt = (I82 (1000) 32 : Int32).toInt := (congrArg Int32.toInt ((show (u2 I91 (1000) 25 (v220)) (1000) 32 = I91 (1000) 32 from by simp [u2_v]))).trans pw99
                    have pw230 : ((u2 I91 (1000) 25 (v220)) (1000) 28).toInt = (Ia48 (1000) 28 : Int32).toInt := (congrArg Int32.toInt ((show (u2 I91 (1000) 25 (v220)) (1000) 28 = I91 (1000) 28 from by simp [u2_v]))).trans pw186
                    have hz1 : (v90).toNatClampNeg = (x1_48).toNatClampNeg + 1 := by have z1 := tn (i := v90) (by omega); have z2 := tn (i := x1_48) (by omega); omega
                    have hLW1 := hLW
                    rw [show (x2_48).toInt = 1 from by omega] at hLW1
                    have z3 := tn (i := I91 1000 25) (by omega)
                    have z4 := tn (i := (u2 I91 (1000) 25 (v220)) 1000 25) (by omega)
                    have hq0 : (I91 1000 25).toNatClampNeg = skp (TM I) (I82 1000 25).toNatClampNeg := nw100
                    exact ih48 (1) (v90) (u2 I91 (1000) 25 (v220)) L92 _ _ ls hI hK (by first | omega | decide) (by first | omega | decide) (by omega) (fun hz => by omega) (fun hz => by omega) (fun r hr => (hLo r hr).of (((show (u2 I91 (1000) 25 (v220)) 1035 = I91 1035 from by funext zz; simp [u2_v])).trans (hkI91.getA 1035 rfl)) (((show (u2 I91 (1000) 25 (v220)) 1036 = I91 1036 from by funext zz; simp [u2_v])).trans (hkI91.getA 1036 rfl)) (((show (u2 I91 (1000) 25 (v220)) 1037 = I91 1037 from by funext zz; simp [u2_v])).trans (hkI91.getA 1037 rfl)) (((show (u2 I91 (1000) 25 (v220)) 1039 = I91 1039 from by funext zz; simp [u2_v])).trans (hkI91.getA 1039 rfl)) (((show (u2 I91 (1000) 25 (v220)) 1040 = I91 1040 from by funext zz; simp [u2_v])).trans (hkI91.getA 1040 rfl)) (((show (u2 I91 (1000) 25 (v220)) 1041 = I91 1041 from by funext zz; simp [u2_v])).trans (hkI91.getA 1041 rfl))) (fun hz => by rw [hz1]; exact (hLn (by omega)).of (((show (u2 I91 (1000) 25 (v220)) 1035 = I91 1035 from by funext zz; simp [u2_v])).trans (hkI91.getA 1035 rfl)) (((show (u2 I91 (1000) 25 (v220)) 1036 = I91 1036 from by funext zz; simp [u2_v])).trans (hkI91.getA 1036 rfl)) (((show (u2 I91 (1000) 25 (v220)) 1039 = I91 1039 from by funext zz; simp [u2_v])).trans (hkI91.getA 1039 rfl)) (((show (u2 I91 (1000) 25 (v220)) 1040 = I91 1040 from by funext zz; simp [u2_v])).trans (hkI91.getA 1040 rfl)) (((show (u2 I91 (1000) 25 (v220)) 1041 = I91 1041 from by funext zz; simp [u2_v])).trans (hkI91.getA 1041 rfl)) (by omega) (by omega)) ((TM_of ((((show (u2 I91 (1000) 25 (v220)) 1034 = I91 1034 from by funext zz; simp [u2_v])).trans (hkI91.getA 1034 rfl)).trans (hkI82.getA 1034 rfl)) ((((show (u2 I91 (1000) 25 (v220)) (1000) 24 = I91 (1000) 24 from by simp [u2_v])).trans (hkI91.get (1000) 24 rfl)).trans (hkI82.get (1000) 24 rfl))).trans hTM) (hBT.of ((((show (u2 I91 (1000) 25 (v220)) 1034 = I91 1034 from by funext zz; simp [u2_v])).trans (hkI91.getA 1034 rfl)).trans (hkI82.getA 1034 rfl)) ((((show (u2 I91 (1000) 25 (v220)) (1000) 24 = I91 (1000) 24 from by simp [u2_v])).trans (hkI91.get (1000) 24 rfl)).trans (hkI82.get (1000) 24 rfl))) (by rw [k1]; exact lwi_next hT (q := (I91 1000 25).toNatClampNeg) hLW1 (by omega) nw89.1 (by omega) hq0 sc193 hz1 (by omega) (by omega) (by omega) (RC_of (J := I82) (J2 := (u2 I91 (1000) 25 (v220))) (((show (u2 I91 (1000) 25 (v220)) 1035 = I91 1035 from by funext zz; simp [u2_v])).trans (hkI91.getA 1035 rfl)) (((show (u2 I91 (1000) 25 (v220)) 1036 = I91 1036 from by funext zz; simp [u2_v])).trans (hkI91.getA 1036 rfl)) (by omega) (by omega)) (Int32.toInt_inj.mp (by omega)) (((show (u2 I91 (1000) 25 (v220)) 1038 = I91 1038 from by funext zz; simp [u2_v])).trans (hkI91.getA 1038 rfl)) (((show (u2 I91 (1000) 25 (v220)) 1039 = I91 1039 from by funext zz; simp [u2_v])).trans (hkI91.getA 1039 rfl)) (((show (u2 I91 (1000) 25 (v220)) 1040 = I91 1040 from by funext zz; simp [u2_v])).trans (hkI91.getA 1040 rfl)) (((show (u2 I91 (1000) 25 (v220)) 1041 = I91 1041 from by funext zz; simp [u2_v])).trans (hkI91.getA 1041 rfl)) (by omega)) (hOL.of (((show (u2 I91 (1000) 25 (v220)) 1035 = I91 1035 from by funext zz; simp [u2_v])).trans (hkI91.getA 1035 rfl)) (((show (u2 I91 (1000) 25 (v220)) 1036 = I91 1036 from by funext zz; simp [u2_v])).trans (hkI91.getA 1036 rfl)) (((show (u2 I91 (1000) 25 (v220)) 1037 = I91 1037 from by funext zz; simp [u2_v])).trans (hkI91.getA 1037 rfl)) (((show (u2 I91 (1000) 25 (v220)) 1038 = I91 1038 from by funext zz; simp [u2_v])).trans (hkI91.getA 1038 rfl)) (((show (u2 I91 (1000) 25 (v220)) 1039 = I91 1039 from by funext zz; simp [u2_v])).trans (hkI91.getA 1039 rfl)) (((show (u2 I91 (1000) 25 (v220)) 1040 = I91 1040 from by funext zz; simp [u2_v])).trans (hkI91.getA 1040 rfl)) (((show (u2 I91 (1000) 25 (v220)) 1041 = I91 1041 from by funext zz; simp [u2_v])).trans (hkI91.getA 1041 rfl))) (by omega) hM hS (lv_sub hl [0, 1, 2] rfl)
              · have hc191 := c191
                have q191 := q_ne hc191
                have sc231 := sx190.n (k := 59) (by omega) (by decide)
                refine lv_aload_n hx hb dX10_law_91 rfl (lv_at hl 2 rfl) ?_
                refine lv_iconst (v := (0)) hx hb dX10_law_92 (by decide) ?_
                refine lv_aload_n hx hb dX10_law_93 rfl (lv_at hl 2 rfl) ?_
                refine m_geti (1000) 25 hx hb hts hown hE oc10 hM hJ.1 rfl (by decide) rfl tb_1202 dX10_law_94 ?_
                refine m_callv (m_runV (1000) (As := [.int (0), .int (I91 (1000) 25)]) (rest := []) hx hb hml hown hts hE hM hS hA ce_X10_fails tb_1521 (V_X10_fails_h l D A ad ns I91 L92 G (0) (I91 (1000) 25) hJ hI (by first | omega | decide) (by first | omega | decide)) rfl rfl ⟨Nat.le_of_ble_eq_true rfl, Nat.le_of_ble_eq_true rfl⟩ hJ.1 rfl rfl (by decide) rfl hl.1 rfl (Nat.le_of_ble_eq_true rfl) dX10_law_97 ⟨Nat.le_of_ble_eq_true rfl, Nat.le_of_ble_eq_true rfl⟩) hS (fun u H locs hw hM hS => ?_)
                obtain ⟨I232, L233, rfl, hI, hkI232, xI232⟩ := hw
                have hM : Mem D A ad ns I232 L233 G H := hM
                have hK := hK.trans hkI232 rfl
                have pw234 : (I232 (1000) 24).toInt = (Ia48 (1000) 24 : Int32).toInt := (congrArg Int32.toInt ((hkI232.get (1000) 24 rfl))).trans pw93
                have pw235 : (I232 (1000) 25).toInt = (I91 (1000) 25 : Int32).toInt := congrArg Int32.toInt ((hkI232.get (1000) 25 rfl))
                have pw236 : (I232 (1000) 27).toInt = (Ia48 (1000) 27 : Int32).toInt := (congrArg Int32.toInt ((hkI232.get (1000) 27 rfl))).trans pw95
                have pw237 : (I232 (1000) 29).toInt = (I82 (1000) 29 : Int32).toInt := (congrArg Int32.toInt ((hkI232.get (1000) 29 rfl))).trans pw96
                have pw238 : (I232 (1000) 30).toInt = (I82 (1000) 30 : Int32).toInt := (congrArg Int32.toInt ((hkI232.get (1000) 30 rfl))).trans pw97
                have pw239 : (I232 (1000) 31).toInt = (I82 (1000) 31 : Int32).toInt := (congrArg Int32.toInt ((hkI232.get (1000) 31 rfl))).trans pw98
                have pw240 : (I232 (1000) 32).toInt = (I82 (1000) 32 : Int32).toInt := (congrArg Int32.toInt ((hkI232.get (1000) 32 rfl))).trans pw99
                refine lv_aload_n hx hb dX10_law_100 rfl (lv_at hl 2 rfl) ?_
                refine m_geti (1000) 26 hx hb hts hown hE oc10 hM hJ.1 rfl (by decide) rfl tb_1203 dX10_law_101 ?_
                refine lv_if_ne (tgt := 122) hx hb dX10_law_104 (by decide) (fun c241 => ?_) (fun c241 => ?_)
                · have hc241 := c241
                  have q241 := q_ne hc241
                  refine lv_iconst (v := (0)) hx hb dX10_law_122 (by decide) ?_
                  refine lv_istore_n (lv' := [(2, .int (0)), (1, .int (v90)), (0, .ref (ad (1000)))]) hx hb dX10_law_123 rfl hl (by decide) rfl (fun ls hl => ?_)
                  refine lv_aload_n hx hb dX10_law_124 rfl (lv_at hl 2 rfl) ?_
                  refine lv_dup hx hb dX10_law_125 rfl ?_
                  refine m_geti (1000) 25 hx hb hts hown hE oc10 hM hJ.1 rfl (by decide) rfl tb_1202 dX10_law_126 ?_
                  have g242 := hI.get (1000) 25 (lo := 0) (hi := 100000) rfl
                  have z243 : I232 (1000) 25 = I91 (1000) 25 := (hkI232.get (1000) 25 rfl)
                  rw [z243] at g242 ⊢
                  refine lv_iconst (v := (1)) hx hb dX10_law_129 (by decide) ?_
                  refine lv_iadd hx hb dX10_law_130 ?_
                  refine lv_topi (fun v244 ev244 => ?_)
                  have tv244 := a_add ev244 (by omega) (by omega)
                  refine m_puti (1000) 25 hx hb hts hown hE oc10 hM hS hJ.1 rfl (by decide) rfl rfl rfl rfl tb_1202 dX10_law_131 (fun H locs I245 eI245 hM hS => ?_)
                  subst eI245
                  have hI := hI.put (n := 1000) (k := 25) (v := v244) (lo := 0) (hi := 100000) rfl (by first | omega | decide)
                  have hK := hK.put (n := 1000) (k := 25) (v := v244) (by first | rfl | simp [inR])
                  refine lv_goto (tgt := 48) hx hb dX10_law_134 (by decide) ?_
                  have pw246 : ((u2 I232 (1000) 25 (v244)) (1000) 24).toInt = (Ia48 (1000) 24 : Int32).toInt := (congrArg Int32.toInt ((show (u2 I232 (1000) 25 (v244)) (1000) 24 = I232 (1000) 24 from by simp [u2_v]))).trans pw234
                  have pw247 : ((u2 I232 (1000) 25 (v244)) (1000) 25).toInt = (v244 : Int32).toInt := congrArg Int32.toInt ((show (u2 I232 (1000) 25 (v244)) (1000) 25 = v244 from by simp [u2_v]))
                  have pw248 : ((u2 I232 (1000) 25 (v244)) (1000) 26).toInt = (I232 (1000) 26 : Int32).toInt := congrArg Int32.toInt ((show (u2 I232 (1000) 25 (v244)) (1000) 26 = I232 (1000) 26 from by simp [u2_v]))
                  have pw249 : ((u2 I232 (1000) 25 (v244)) (1000) 27).toInt = (Ia48 (1000) 27 : Int32).toInt := (congrArg Int32.toInt ((show (u2 I232 (1000) 25 (v244)) (1000) 27 = I232 (1000) 27 from by simp [u2_v]))).trans pw236
                  have pw250 : ((u2 I232 (1000) 25 (v244)) (1000) 29).toInt = (I82 (1000) 29 : Int32).toInt := (congrArg Int32.toInt ((show (u2 I232 (1000) 25 (v244)) (1000) 29 = I232 (1000) 29 from by simp [u2_v]))).trans pw237
                  have pw251 : ((u2 I232 (1000) 25 (v244)) (1000) 30).toInt = (I82 (1000) 30 : Int32).toInt := (congrArg Int32.toInt ((show (u2 I232 (1000) 25 (v244)) (1000) 30 = I232 (1000) 30 from by simp [u2_v]))).trans pw238
                  have pw252 : ((u2 I232 (1000) 25 (v244)) (1000) 31).toInt = (I82 (1000) 31 : Int32).toInt := (congrArg Int32.toInt ((show (u2 I232 (1000) 25 (v244)) (1000) 31 = I232 (1000) 31 from by simp [u2_v]))).trans pw239
                  have pw253 : ((u2 I232 (1000) 25 (v244)) (1000) 32).toInt = (I82 (1000) 32 : Int32).toInt := (congrArg Int32.toInt ((show (u2 I232 (1000) 25 (v244)) (1000) 32 = I232 (1000) 32 from by simp [u2_v]))).trans pw240
                  have pw254 : ((u2 I232 (1000) 25 (v244)) (1000) 28).toInt = (Ia48 (1000) 28 : Int32).toInt := (congrArg Int32.toInt (((show (u2 I232 (1000) 25 (v244)) (1000) 28 = I232 (1000) 28 from by simp [u2_v])).trans (hkI232.get (1000) 28 rfl))).trans pw186
                  have hz1 : (v90).toNatClampNeg = (x1_48).toNatClampNeg + 1 := by have z1 := tn (i := v90) (by omega); have z2 := tn (i := x1_48) (by omega); omega
                  have hLW1 := hLW
                  rw [show (x2_48).toInt = 1 from by omega] at hLW1
                  have z3 := tn (i := I91 1000 25) (by omega)
                  have z4 := tn (i := (u2 I232 (1000) 25 (v244)) 1000 25) (by omega)
                  have hq0 : (I91 1000 25).toNatClampNeg = skp (TM I) (I82 1000 25).toNatClampNeg := nw100
                  have hne : TM I (I91 1000 25).toNatClampNeg ≠ -45 := by have w1 : TM I91 (I91 1000 25).toNatClampNeg = b8 (I91 1034 (I91 1000 25).toNatClampNeg) := TXT_y (by omega); rw [show TM I91 = TM I from (TM_of (((hkI91.getA 1034 rfl)).trans (hkI82.getA 1034 rfl)) (((hkI91.get (1000) 24 rfl)).trans (hkI82.get (1000) 24 rfl))).trans hTM] at w1; have w2 := b8_r (I91 1034 (I91 1000 25).toNatClampNeg); omega
                  exact ih48 (0) (v90) (u2 I232 (1000) 25 (v244)) L233 _ _ ls hI hK (by first | omega | decide) (by first | omega | decide) (by omega) (fun hz => by omega) (fun hz => by have w0 := xI232.2.1 (by omega); exact w0.elim) (fun r hr => (hLo r hr).of ((((show (u2 I232 (1000) 25 (v244)) 1035 = I232 1035 from by funext zz; simp [u2_v])).trans (hkI232.getA 1035 rfl)).trans (hkI91.getA 1035 rfl)) ((((show (u2 I232 (1000) 25 (v244)) 1036 = I232 1036 from by funext zz; simp [u2_v])).trans (hkI232.getA 1036 rfl)).trans (hkI91.getA 1036 rfl)) ((((show (u2 I232 (1000) 25 (v244)) 1037 = I232 1037 from by funext zz; simp [u2_v])).trans (hkI232.getA 1037 rfl)).trans (hkI91.getA 1037 rfl)) ((((show (u2 I232 (1000) 25 (v244)) 1039 = I232 1039 from by funext zz; simp [u2_v])).trans (hkI232.getA 1039 rfl)).trans (hkI91.getA 1039 rfl)) ((((show (u2 I232 (1000) 25 (v244)) 1040 = I232 1040 from by funext zz; simp [u2_v])).trans (hkI232.getA 1040 rfl)).trans (hkI91.getA 1040 rfl)) ((((show (u2 I232 (1000) 25 (v244)) 1041 = I232 1041 from by funext zz; simp [u2_v])).trans (hkI232.getA 1041 rfl)).trans (hkI91.getA 1041 rfl))) (fun hz => by rw [hz1]; have w0 := xI232.2.1 (by omega); exact w0.elim) ((TM_of (((((show (u2 I232 (1000) 25 (v244)) 1034 = I232 1034 from by funext zz; simp [u2_v])).trans (hkI232.getA 1034 rfl)).trans (hkI91.getA 1034 rfl)).trans (hkI82.getA 1034 rfl)) (((((show (u2 I232 (1000) 25 (v244)) (1000) 24 = I232 (1000) 24 from by simp [u2_v])).trans (hkI232.get (1000) 24 rfl)).trans (hkI91.get (1000) 24 rfl)).trans (hkI82.get (1000) 24 rfl))).trans hTM) (hBT.of (((((show (u2 I232 (1000) 25 (v244)) 1034 = I232 1034 from by funext zz; simp [u2_v])).trans (hkI232.getA 1034 rfl)).trans (hkI91.getA 1034 rfl)).trans (hkI82.getA 1034 rfl)) (((((show (u2 I232 (1000) 25 (v244)) (1000) 24 = I232 (1000) 24 from by simp [u2_v])).trans (hkI232.get (1000) 24 rfl)).trans (hkI91.get (1000) 24 rfl)).trans (hkI82.get (1000) 24 rfl))) (by rw [k0]; have w1 := xI232.2.2.1 (by omega); exact lwi_wrong hT (q := (I91 1000 25).toNatClampNeg) hLW1 (by omega) nw89.1 (by omega) hq0 ⟨sc231, hne⟩ (by omega)) (hOL.of ((((show (u2 I232 (1000) 25 (v244)) 1035 = I232 1035 from by funext zz; simp [u2_v])).trans (hkI232.getA 1035 rfl)).trans (hkI91.getA 1035 rfl)) ((((show (u2 I232 (1000) 25 (v244)) 1036 = I232 1036 from by funext zz; simp [u2_v])).trans (hkI232.getA 1036 rfl)).trans (hkI91.getA 1036 rfl)) ((((show (u2 I232 (1000) 25 (v244)) 1037 = I232 1037 from by funext zz; simp [u2_v])).trans (hkI232.getA 1037 rfl)).trans (hkI91.getA 1037 rfl)) ((((show (u2 I232 (1000) 25 (v244)) 1038 = I232 1038 from by funext zz; simp [u2_v])).trans (hkI232.getA 1038 rfl)).trans (hkI91.getA 1038 rfl)) ((((show (u2 I232 (1000) 25 (v244)) 1039 = I232 1039 from by funext zz; simp [u2_v])).trans (hkI232.getA 1039 rfl)).trans (hkI91.getA 1039 rfl)) ((((show (u2 I232 (1000) 25 (v244)) 1040 = I232 1040 from by funext zz; simp [u2_v])).trans (hkI232.getA 1040 rfl)).trans (hkI91.getA 1040 rfl)) ((((show (u2 I232 (1000) 25 (v244)) 1041 = I232 1041 from by funext zz; simp [u2_v])).trans (hkI232.getA 1041 rfl)).trans (hkI91.getA 1041 rfl))) (by omega) hM hS (lv_sub hl [0, 1, 2] rfl)
                · have hc241 := c241
                  have q241 := q_eq hc241
                  have w255 := xI232.2.1 (by omega)
                  exact w255.elim
    exact loop48 (_ + 1) (1) (0) (u2 (u2 (u2 (u2 (u2 (u2 I (1000) 27 (I (1000) 28)) (1000) 25 (0)) (1000) 26 (0)) (1000) 29 (0)) (1000) 30 (0)) (1000) 31 (0)) L _ _ ls hI hK (by first | omega | decide) (by first | omega | decide) (by omega) (fun hz => by omega) (fun hz => by omega) hfr (fun _ i hi => absurd hi (Nat.not_lt_zero i)) (TM_of ((show (u2 (u2 (u2 (u2 (u2 (u2 I (1000) 27 (I (1000) 28)) (1000) 25 (0)) (1000) 26 (0)) (1000) 29 (0)) (1000) 30 (0)) (1000) 31 (0)) 1034 = I 1034 from by funext zz; simp [u2_v])) ((show (u2 (u2 (u2 (u2 (u2 (u2 I (1000) 27 (I (1000) 28)) (1000) 25 (0)) (1000) 26 (0)) (1000) 29 (0)) (1000) 30 (0)) (1000) 31 (0)) (1000) 24 = I (1000) 24 from by simp [u2_v]))) (hbt.of ((show (u2 (u2 (u2 (u2 (u2 (u2 I (1000) 27 (I (1000) 28)) (1000) 25 (0)) (1000) 26 (0)) (1000) 29 (0)) (1000) 30 (0)) (1000) 31 (0)) 1034 = I 1034 from by funext zz; simp [u2_v])) ((show (u2 (u2 (u2 (u2 (u2 (u2 I (1000) 27 (I (1000) 28)) (1000) 25 (0)) (1000) 26 (0)) (1000) 29 (0)) (1000) 30 (0)) (1000) 31 (0)) (1000) 24 = I (1000) 24 from by simp [u2_v]))) (by rw [k1]; exact lwi_0) (OLD.rf.of ((show (u2 (u2 (u2 (u2 (u2 (u2 I (1000) 27 (I (1000) 28)) (1000) 25 (0)) (1000) 26 (0)) (1000) 29 (0)) (1000) 30 (0)) (1000) 31 (0)) 1035 = I 1035 from by funext zz; simp [u2_v])) ((show (u2 (u2 (u2 (u2 (u2 (u2 I (1000) 27 (I (1000) 28)) (1000) 25 (0)) (1000) 26 (0)) (1000) 29 (0)) (1000) 30 (0)) (1000) 31 (0)) 1036 = I 1036 from by funext zz; simp [u2_v])) ((show (u2 (u2 (u2 (u2 (u2 (u2 I (1000) 27 (I (1000) 28)) (1000) 25 (0)) (1000) 26 (0)) (1000) 29 (0)) (1000) 30 (0)) (1000) 31 (0)) 1037 = I 1037 from by funext zz; simp [u2_v])) ((show (u2 (u2 (u2 (u2 (u2 (u2 I (1000) 27 (I (1000) 28)) (1000) 25 (0)) (1000) 26 (0)) (1000) 29 (0)) (1000) 30 (0)) (1000) 31 (0)) 1038 = I 1038 from by funext zz; simp [u2_v])) ((show (u2 (u2 (u2 (u2 (u2 (u2 I (1000) 27 (I (1000) 28)) (1000) 25 (0)) (1000) 26 (0)) (1000) 29 (0)) (1000) 30 (0)) (1000) 31 (0)) 1039 = I 1039 from by funext zz; simp [u2_v])) ((show (u2 (u2 (u2 (u2 (u2 (u2 I (1000) 27 (I (1000) 28)) (1000) 25 (0)) (1000) 26 (0)) (1000) 29 (0)) (1000) 30 (0)) (1000) 31 (0)) 1040 = I 1040 from by funext zz; simp [u2_v])) ((show (u2 (u2 (u2 (u2 (u2 (u2 I (1000) 27 (I (1000) 28)) (1000) 25 (0)) (1000) 26 (0)) (1000) 29 (0)) (1000) 30 (0)) (1000) 31 (0)) 1041 = I 1041 from by funext zz; simp [u2_v]))) (Nat.lt_succ_self _) hM hS (lv_sub hl [0, 1, 2] rfl)
  · have hc2 := c2
    have q2 := q_eq hc2
    refine lv_iconst (v := (-1)) hx hb dX10_law_9 (by decide) ?_
    exact m_iret hx hb hr hlocks hM hS (Nat.le_of_ble_eq_true rfl) (Nat.le_of_ble_eq_true rfl) ⟨_, _, rfl, hI, hK, ⟨Or.inl ⟨by omega, km1, rfl⟩, hLM⟩⟩ dX10_law_10
