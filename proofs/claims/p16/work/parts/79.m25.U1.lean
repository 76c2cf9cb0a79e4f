set_option maxHeartbeats 4000000 in
set_option maxRecDepth 20000 in
theorem V_X10_copy_1050_1066_t (l : Launch) (D : va_G) (A : Nat → Prop) (ad : Nat → Nat) (ns : List Nat) (I : MI) (L : ML) (G : MG) (hJ : SGM ns G) (hI : INV I) : Met l yX10_copy (wd yX10_copy cX10_copy 3 none) ({ frames := 0, cells := 0, slots := 0, locals := 0 }) (va_Pc [.ref (ad (1050)), .ref (ad (1066))] (PM D A ad ns I L G)) (va_Qv (fun u => ∃ I2 L2, u = (ad, ns, I2, L2, G) ∧ INV I2 ∧ Kp [(1066, 1067)] [] I I2 ∧ (CPX 1050 1066 8 I I2)) (BM D A) A) 0 0 A := by
  refine m_ofW (by decide) (Nat.le_of_ble_eq_true rfl) ?_
  intro p e s m below meth c ls args hC hE hM hA hS hl
  obtain ⟨hx, hb, hml, hown, hts, hr, hlocks, hin⟩ := hC
  have k0 : (0 : Int32).toInt = 0 := by decide
  have k8 : (8 : Int32).toInt = 8 := by decide
  have hK : Kp [(1066, 1067)] [] I I := Kp.rf
  have hl : lv_has ls 3 [(0, .ref (ad (1050))), (1, .ref (ad (1066)))] := hl
  refine lv_iconst (v := (0)) hx hb dX10_copy_0 (by decide) ?_
  refine lv_istore_n (lv' := [(2, .int (0)), (0, .ref (ad (1050))), (1, .ref (ad (1066)))]) hx hb dX10_copy_1 rfl hl (by decide) rfl (fun ls hl => ?_)
  have loop2 : ∀ (n : Nat) (x2_2 : Int32) (Ia2 : MI) (La2 : ML) (H : Heap) (locs : List Loc) (ls : Array Slot), INV Ia2 → Kp [(1066, 1067)] [] I Ia2 → (0 ≤ x2_2.toInt ∧ x2_2.toInt ≤ 8) → (Ia2 1050 = I 1050) → (∀ j : Nat, j < (x2_2).toNatClampNeg → Ia2 1066 j = I 1050 j) → (8 - x2_2.toInt).toNat < n → Mem D A ad ns Ia2 La2 G H → va_S A s.heap H locs → lv_has ls 3 [(2, .int (x2_2)), (0, .ref (ad (1050))), (1, .ref (ad (1066)))] → W p l e ({ frames := 0, cells := 0, slots := 0, locals := 0 } : Room) s m args below meth c H locs 0 0 (MQ below (va_Qv (fun u => ∃ I2 L2, u = (ad, ns, I2, L2, G) ∧ INV I2 ∧ Kp [(1066, 1067)] [] I I2 ∧ (CPX 1050 1066 8 I I2)) (BM D A) A) args s 0 0 A) (F0 m 2 ls []) := by
    intro n
    induction n with
    | zero =>
      intro x2_2 Ia2 La2 H locs ls hI hK hr2_2 hca2 hcp2 hmu
      exact absurd hmu (Nat.not_lt_zero _)
    | succ n ih2 =>
      intro x2_2 Ia2 La2 H locs ls hI hK hr2_2 hca2 hcp2 hmu2 hM hS hl
      refine lv_iload_n hx hb dX10_copy_2 rfl (lv_at hl 0 rfl) ?_
      refine lv_aload_n hx hb dX10_copy_3 rfl (lv_at hl 2 rfl) ?_
      refine m_alen 1066 (t0 := 0) (v := 8) hx hb hE hM (hJ.2 66 (by decide)).1 rfl (by decide) rfl rfl dX10_copy_4 ?_
      refine lv_icmp_ge (tgt := 20) hx hb dX10_copy_5 (by decide) (fun c1 => ?_) (fun c1 => ?_)
      · have hc1 := c1
        have q1 := q_le hc1
        exact m_vret hx hb hr hlocks hM hS (Nat.le_of_ble_eq_true rfl) (Nat.le_of_ble_eq_true rfl) ⟨_, _, rfl, hI, hK, (fun j hj => hcp2 j (by have zz := tn (i := x2_2) (by omega); omega))⟩ dX10_copy_20
      · have hc1 := c1
        have q1 := q_nle hc1
        refine lv_aload_n hx hb dX10_copy_8 rfl (lv_at hl 2 rfl) ?_
        refine lv_iload_n hx hb dX10_copy_9 rfl (lv_at hl 0 rfl) ?_
        refine lv_aload_n hx hb dX10_copy_10 rfl (lv_at hl 1 rfl) ?_
        refine lv_iload_n hx hb dX10_copy_11 rfl (lv_at hl 0 rfl) ?_
        refine m_iald (1050) hx hb hE hM (hJ.2 50 (by decide)).1 rfl (vp_in_iff.mpr (by omega)) dX10_copy_12 ?_
        refine m_iast (1066) hx hb hE hM hS (hJ.2 66 (by decide)).1 rfl (vp_in_iff.mpr (by omega)) dX10_copy_13 (fun H locs I2 eI2 hM hS => ?_)
        subst eI2
        have hI := hI.putF (n := 1066) (k := ((x2_2).toNatClampNeg)) (v := Ia2 (1050) (x2_2).toNatClampNeg) rfl
        have hK := hK.put (n := 1066) (k := ((x2_2).toNatClampNeg)) (v := Ia2 (1050) (x2_2).toNatClampNeg) (by first | rfl | simp [inR])
        obtain ⟨v3, ev3⟩ : ∃ z : Int32, z = x2_2 + Int32.ofInt (1) := ⟨_, rfl⟩
        have tv3 := a_inc ev3 (by decide) (by omega) (by omega)
        refine lv_iinc (v := v3) (lv' := [(2, .int (v3)), (0, .ref (ad (1050))), (1, .ref (ad (1066)))]) hx hb dX10_copy_14 hl (k := 0) rfl ev3.symm (by decide) rfl (fun ls hl => ?_)
        refine lv_goto (tgt := 2) hx hb dX10_copy_17 (by decide) ?_
        exact ih2 (v3) (u2 Ia2 (1066) ((x2_2).toNatClampNeg) (Ia2 (1050) (x2_2).toNatClampNeg)) La2 _ _ ls hI hK (by first | omega | decide) (by rw [u2_ne _ _ _ (by decide)]; exact hca2) (cp_step hcp2 (by decide) hca2 (by omega) (by omega)) (by omega) hM hS (lv_sub hl [0, 1, 2] rfl)
  exact loop2 (_ + 1) (0) I L _ _ ls hI hK (by first | omega | decide) rfl (fun j hj => absurd hj (Nat.not_lt_zero j)) (Nat.lt_succ_self _) hM hS (lv_sub hl [0, 1, 2] rfl)
set_option maxHeartbeats 4000000 in
set_option maxRecDepth 20000 in
theorem V_X10_copy_1009_1067_t (l : Launch) (D : va_G) (A : Nat → Prop) (ad : Nat → Nat) (ns : List Nat) (I : MI) (L : ML) (G : MG) (hJ : SGM ns G) (hI : INV I) : Met l yX10_copy (wd yX10_copy cX10_copy 3 none) ({ frames := 0, cells := 0, slots := 0, locals := 0 }) (va_Pc [.ref (ad (1009)), .ref (ad (1067))] (PM D A ad ns I L G)) (va_Qv (fun u => ∃ I2 L2, u = (ad, ns, I2, L2, G) ∧ INV I2 ∧ Kp [(1067, 1068)] [] I I2 ∧ (CPX 1009 1067 24 I I2)) (BM D A) A) 0 0 A := by
  refine m_ofW (by decide) (Nat.le_of_ble_eq_true rfl) ?_
  intro p e s m below meth c ls args hC hE hM hA hS hl
  obtain ⟨hx, hb, hml, hown, hts, hr, hlocks, hin⟩ := hC
  have k0 : (0 : Int32).toInt = 0 := by decide
  have k24 : (24 : Int32).toInt = 24 := by decide
  have hK : Kp [(1067, 1068)] [] I I := Kp.rf
  have hl : lv_has ls 3 [(0, .ref (ad (1009))), (1, .ref (ad (1067)))] := hl
  refine lv_iconst (v := (0)) hx hb dX10_copy_0 (by decide) ?_
  refine lv_istore_n (lv' := [(2, .int (0)), (0, .ref (ad (1009))), (1, .ref (ad (1067)))]) hx hb dX10_copy_1 rfl hl (by decide) rfl (fun ls hl => ?_)
  have loop2 : ∀ (n : Nat) (x2_2 : Int32) (Ia2 : MI) (La2 : ML) (H : Heap) (locs : List Loc) (ls : Array Slot), INV Ia2 → Kp [(1067, 1068)] [] I Ia2 → (0 ≤ x2_2.toInt ∧ x2_2.toInt ≤ 24) → (Ia2 1009 = I 1009) → (∀ j : Nat, j < (x2_2).toNatClampNeg → Ia2 1067 j = I 1009 j) → (24 - x2_2.toInt).toNat < n → Mem D A ad ns Ia2 La2 G H → va_S A s.heap H locs → lv_has ls 3 [(2, .int (x2_2)), (0, .ref (ad (1009))), (1, .ref (ad (1067)))] → W p l e ({ frames := 0, cells := 0, slots := 0, locals := 0 } : Room) s m args below meth c H locs 0 0 (MQ below (va_Qv (fun u => ∃ I2 L2, u = (ad, ns, I2, L2, G) ∧ INV I2 ∧ Kp [(1067, 1068)] [] I I2 ∧ (CPX 1009 1067 24 I I2)) (BM D A) A) args s 0 0 A) (F0 m 2 ls []) := by
    intro n
    induction n with
    | zero =>
      intro x2_2 Ia2 La2 H locs ls hI hK hr2_2 hca2 hcp2 hmu
      exact absurd hmu (Nat.not_lt_zero _)
    | succ n ih2 =>
      intro x2_2 Ia2 La2 H locs ls hI hK hr2_2 hca2 hcp2 hmu2 hM hS hl
      refine lv_iload_n hx hb dX10_copy_2 rfl (lv_at hl 0 rfl) ?_
      refine lv_aload_n hx hb dX10_copy_3 rfl (lv_at hl 2 rfl) ?_
      refine m_alen 1067 (t0 := 0) (v := 24) hx hb hE hM (hJ.2 67 (by decide)).1 rfl (by decide) rfl rfl dX10_copy_4 ?_
      refine lv_icmp_ge (tgt := 20) hx hb dX10_copy_5 (by decide) (fun c1 => ?_) (fun c1 => ?_)
      · have hc1 := c1
        have q1 := q_le hc1
        exact m_vret hx hb hr hlocks hM hS (Nat.le_of_ble_eq_true rfl) (Nat.le_of_ble_eq_true rfl) ⟨_, _, rfl, hI, hK, (fun j hj => hcp2 j (by have zz := tn (i := x2_2) (by omega); omega))⟩ dX10_copy_20
      · have hc1 := c1
        have q1 := q_nle hc1
        refine lv_aload_n hx hb dX10_copy_8 rfl (lv_at hl 2 rfl) ?_
        refine lv_iload_n hx hb dX10_copy_9 rfl (lv_at hl 0 rfl) ?_
        refine lv_aload_n hx hb dX10_copy_10 rfl (lv_at hl 1 rfl) ?_
        refine lv_iload_n hx hb dX10_copy_11 rfl (lv_at hl 0 rfl) ?_
        refine m_iald (1009) hx hb hE hM (hJ.2 9 (by decide)).1 rfl (vp_in_iff.mpr (by omega)) dX10_copy_12 ?_
        refine m_iast (1067) hx hb hE hM hS (hJ.2 67 (by decide)).1 rfl (vp_in_iff.mpr (by omega)) dX10_copy_13 (fun H locs I2 eI2 hM hS => ?_)
        subst eI2
        have hI := hI.putF (n := 1067) (k := ((x2_2).toNatClampNeg)) (v := Ia2 (1009) (x2_2).toNatClampNeg) rfl
        have hK := hK.put (n := 1067) (k := ((x2_2).toNatClampNeg)) (v := Ia2 (1009) (x2_2).toNatClampNeg) (by first | rfl | simp [inR])
        obtain ⟨v3, ev3⟩ : ∃ z : Int32, z = x2_2 + Int32.ofInt (1) := ⟨_, rfl⟩
        have tv3 := a_inc ev3 (by decide) (by omega) (by omega)
        refine lv_iinc (v := v3) (lv' := [(2, .int (v3)), (0, .ref (ad (1009))), (1, .ref (ad (1067)))]) hx hb dX10_copy_14 hl (k := 0) rfl ev3.symm (by decide) rfl (fun ls hl => ?_)
        refine lv_goto (tgt := 2) hx hb dX10_copy_17 (by decide) ?_
        exact ih2 (v3) (u2 Ia2 (1067) ((x2_2).toNatClampNeg) (Ia2 (1009) (x2_2).toNatClampNeg)) La2 _ _ ls hI hK (by first | omega | decide) (by rw [u2_ne _ _ _ (by decide)]; exact hca2) (cp_step hcp2 (by decide) hca2 (by omega) (by omega)) (by omega) hM hS (lv_sub hl [0, 1, 2] rfl)
  exact loop2 (_ + 1) (0) I L _ _ ls hI hK (by first | omega | decide) rfl (fun j hj => absurd hj (Nat.not_lt_zero j)) (Nat.lt_succ_self _) hM hS (lv_sub hl [0, 1, 2] rfl)
set_option maxHeartbeats 4000000 in
set_option maxRecDepth 20000 in
theorem V_X10_copy_1067_1009_t (l : Launch) (D : va_G) (A : Nat → Prop) (ad : Nat → Nat) (ns : List Nat) (I : MI) (L : ML) (G : MG) (hJ : SGM ns G) (hI : INV I) : Met l yX10_copy (wd yX10_copy cX10_copy 3 none) ({ frames := 0, cells := 0, slots := 0, locals := 0 }) (va_Pc [.ref (ad (1067)), .ref (ad (1009))] (PM D A ad ns I L G)) (va_Qv (fun u => ∃ I2 L2, u = (ad, ns, I2, L2, G) ∧ INV I2 ∧ Kp [(1009, 1010)] [] I I2 ∧ (CPX 1067 1009 24 I I2)) (BM D A) A) 0 0 A := by
  refine m_ofW (by decide) (Nat.le_of_ble_eq_true rfl) ?_
  intro p e s m below meth c ls args hC hE hM hA hS hl
  obtain ⟨hx, hb, hml, hown, hts, hr, hlocks, hin⟩ := hC
  have k0 : (0 : Int32).toInt = 0 := by decide
  have k24 : (24 : Int32).toInt = 24 := by decide
  have hK : Kp [(1009, 1010)] [] I I := Kp.rf
  have hl : lv_has ls 3 [(0, .ref (ad (1067))), (1, .ref (ad (1009)))] := hl
  refine lv_iconst (v := (0)) hx hb dX10_copy_0 (by decide) ?_
  refine lv_istore_n (lv' := [(2, .int (0)), (0, .ref (ad (1067))), (1, .ref (ad (1009)))]) hx hb dX10_copy_1 rfl hl (by decide) rfl (fun ls hl => ?_)
  have loop2 : ∀ (n : Nat) (x2_2 : Int32) (Ia2 : MI) (La2 : ML) (H : Heap) (locs : List Loc) (ls : Array Slot), INV Ia2 → Kp [(1009, 1010)] [] I Ia2 → (0 ≤ x2_2.toInt ∧ x2_2.toInt ≤ 24) → (Ia2 1067 = I 1067) → (∀ j : Nat, j < (x2_2).toNatClampNeg → Ia2 1009 j = I 1067 j) → (24 - x2_2.toInt).toNat < n → Mem D A ad ns Ia2 La2 G H → va_S A s.heap H locs → lv_has ls 3 [(2, .int (x2_2)), (0, .ref (ad (1067))), (1, .ref (ad (1009)))] → W p l e ({ frames := 0, cells := 0, slots := 0, locals := 0 } : Room) s m args below meth c H locs 0 0 (MQ below (va_Qv (fun u => ∃ I2 L2, u = (ad, ns, I2, L2, G) ∧ INV I2 ∧ Kp [(1009, 1010)] [] I I2 ∧ (CPX 1067 1009 24 I I2)) (BM D A) A) args s 0 0 A) (F0 m 2 ls []) := by
    intro n
    induction n with
    | zero =>
      intro x2_2 Ia2 La2 H locs ls hI hK hr2_2 hca2 hcp2 hmu
      exact absurd hmu (Nat.not_lt_zero _)
    | succ n ih2 =>
      intro x2_2 Ia2 La2 H locs ls hI hK hr2_2 hca2 hcp2 hmu2 hM hS hl
      refine lv_iload_n hx hb dX10_copy_2 rfl (lv_at hl 0 rfl) ?_
      refine lv_aload_n hx hb dX10_copy_3 rfl (lv_at hl 2 rfl) ?_
      refine m_alen 1009 (t0 := 0) (v := 24) hx hb hE hM (hJ.2 9 (by decide)).1 rfl (by decide) rfl rfl dX10_copy_4 ?_
      refine lv_icmp_ge (tgt := 20) hx hb dX10_copy_5 (by decide) (fun c1 => ?_) (fun c1 => ?_)
      · have hc1 := c1
        have q1 := q_le hc1
        exact m_vret hx hb hr hlocks hM hS (Nat.le_of_ble_eq_true rfl) (Nat.le_of_ble_eq_true rfl) ⟨_, _, rfl, hI, hK, (fun j hj => hcp2 j (by have zz := tn (i := x2_2) (by omega); omega))⟩ dX10_copy_20
      · have hc1 := c1
        have q1 := q_nle hc1
        refine lv_aload_n hx hb dX10_copy_8 rfl (lv_at hl 2 rfl) ?_
        refine lv_iload_n hx hb dX10_copy_9 rfl (lv_at hl 0 rfl) ?_
        refine lv_aload_n hx hb dX10_copy_10 rfl (lv_at hl 1 rfl) ?_
        refine lv_iload_n hx hb dX10_copy_11 rfl (lv_at hl 0 rfl) ?_
        refine m_iald (1067) hx hb hE hM (hJ.2 67 (by decide)).1 rfl (vp_in_iff.mpr (by omega)) dX10_copy_12 ?_
        refine m_iast (1009) hx hb hE hM hS (hJ.2 9 (by decide)).1 rfl (vp_in_iff.mpr (by omega)) dX10_copy_13 (fun H locs I2 eI2 hM hS => ?_)
        subst eI2
        have hI := hI.putF (n := 1009) (k := ((x2_2).toNatClampNeg)) (v := Ia2 (1067) (x2_2).toNatClampNeg) rfl
        have hK := hK.put (n := 1009) (k := ((x2_2).toNatClampNeg)) (v := Ia2 (1067) (x2_2).toNatClampNeg) (by first | rfl | simp [inR])
        obtain ⟨v3, ev3⟩ : ∃ z : Int32, z = x2_2 + Int32.ofInt (1) := ⟨_, rfl⟩
        have tv3 := a_inc ev3 (by decide) (by omega) (by omega)
        refine lv_iinc (v := v3) (lv' := [(2, .int (v3)), (0, .ref (ad (1067))), (1, .ref (ad (1009)))]) hx hb dX10_copy_14 hl (k := 0) rfl ev3.symm (by decide) rfl (fun ls hl => ?_)
        refine lv_goto (tgt := 2) hx hb dX10_copy_17 (by decide) ?_
        exact ih2 (v3) (u2 Ia2 (1009) ((x2_2).toNatClampNeg) (Ia2 (1067) (x2_2).toNatClampNeg)) La2 _ _ ls hI hK (by first | omega | decide) (by rw [u2_ne _ _ _ (by decide)]; exact hca2) (cp_step hcp2 (by decide) hca2 (by omega) (by omega)) (by omega) hM hS (lv_sub hl [0, 1, 2] rfl)
  exact loop2 (_ + 1) (0) I L _ _ ls hI hK (by first | omega | decide) rfl (fun j hj => absurd hj (Nat.not_lt_zero j)) (Nat.lt_succ_self _) hM hS (lv_sub hl [0, 1, 2] rfl)
set_option maxHeartbeats 4000000 in
set_option maxRecDepth 20000 in
theorem V_X10_copy_1015_1068_t (l : Launch) (D : va_G) (A : Nat → Prop) (ad : Nat → Nat) (ns : List Nat) (I : MI) (L : ML) (G : MG) (hJ : SGM ns G) (hI : INV I) : Met l yX10_copy (wd yX10_copy cX10_copy 3 none) ({ frames := 0, cells := 0, slots := 0, locals := 0 }) (va_Pc [.ref (ad (1015)), .ref (ad (1068))] (PM D A ad ns I L G)) (va_Qv (fun u => ∃ I2 L2, u = (ad, ns, I2, L2, G) ∧ INV I2 ∧ Kp [(1068, 1069)] [] I I2 ∧ (CPX 1015 1068 24 I I2)) (BM D A) A) 0 0 A := by
  refine m_ofW (by decide) (Nat.le_of_ble_eq_true rfl) ?_
  intro p e s m below meth c ls args hC hE hM hA hS hl
  obtain ⟨hx, hb, hml, hown, hts, hr, hlocks, hin⟩ := hC
  have k0 : (0 : Int32).toInt = 0 := by decide
  have k24 : (24 : Int32).toInt = 24 := by decide
  have hK : Kp [(1068, 1069)] [] I I := Kp.rf
  have hl : lv_has ls 3 [(0, .ref (ad (1015))), (1, .ref (ad (1068)))] := hl
  refine lv_iconst (v := (0)) hx hb dX10_copy_0 (by decide) ?_
  refine lv_istore_n (lv' := [(2, .int (0)), (0, .ref (ad (1015))), (1, .ref (ad (1068)))]) hx hb dX10_copy_1 rfl hl (by decide) rfl (fun ls hl => ?_)
  have loop2 : ∀ (n : Nat) (x2_2 : Int32) (Ia2 : MI) (La2 : ML) (H : Heap) (locs : List Loc) (ls : Array Slot), INV Ia2 → Kp [(1068, 1069)] [] I Ia2 → (0 ≤ x2_2.toInt ∧ x2_2.toInt ≤ 24) → (Ia2 1015 = I 1015) → (∀ j : Nat, j < (x2_2).toNatClampNeg → Ia2 1068 j = I 1015 j) → (24 - x2_2.toInt).toNat < n → Mem D A ad ns Ia2 La2 G H → va_S A s.heap H locs → lv_has ls 3 [(2, .int (x2_2)), (0, .ref (ad (1015))), (1, .ref (ad (1068)))] → W p l e ({ frames := 0, cells := 0, slots := 0, locals := 0 } : Room) s m args below meth c H locs 0 0 (MQ below (va_Qv (fun u => ∃ I2 L2, u = (ad, ns, I2, L2, G) ∧ INV I2 ∧ Kp [(1068, 1069)] [] I I2 ∧ (CPX 1015 1068 24 I I2)) (BM D A) A) args s 0 0 A) (F0 m 2 ls []) := by
    intro n
    induction n with
    | zero =>
      intro x2_2 Ia2 La2 H locs ls hI hK hr2_2 hca2 hcp2 hmu
      exact absurd hmu (Nat.not_lt_zero _)
    | succ n ih2 =>
      intro x2_2 Ia2 La2 H locs ls hI hK hr2_2 hca2 hcp2 hmu2 hM hS hl
      refine lv_iload_n hx hb dX10_copy_2 rfl (lv_at hl 0 rfl) ?_
      refine lv_aload_n hx hb dX10_copy_3 rfl (lv_at hl 2 rfl) ?_
      refine m_alen 1068 (t0 := 0) (v := 24) hx hb hE hM (hJ.2 68 (by decide)).1 rfl (by decide) rfl rfl dX10_copy_4 ?_
      refine lv_icmp_ge (tgt := 20) hx hb dX10_copy_5 (by decide) (fun c1 => ?_) (fun c1 => ?_)
      · have hc1 := c1
        have q1 := q_le hc1
        exact m_vret hx hb hr hlocks hM hS (Nat.le_of_ble_eq_true rfl) (Nat.le_of_ble_eq_true rfl) ⟨_, _, rfl, hI, hK, (fun j hj => hcp2 j (by have zz := tn (i := x2_2) (by omega); omega))⟩ dX10_copy_20
      · have hc1 := c1
        have q1 := q_nle hc1
        refine lv_aload_n hx hb dX10_copy_8 rfl (lv_at hl 2 rfl) ?_
        refine lv_iload_n hx hb dX10_copy_9 rfl (lv_at hl 0 rfl) ?_
        refine lv_aload_n hx hb dX10_copy_10 rfl (lv_at hl 1 rfl) ?_
        refine lv_iload_n hx hb dX10_copy_11 rfl (lv_at hl 0 rfl) ?_
        refine m_iald (1015) hx hb hE hM (hJ.2 15 (by decide)).1 rfl (vp_in_iff.mpr (by omega)) dX10_copy_12 ?_
        refine m_iast (1068) hx hb hE hM hS (hJ.2 68 (by decide)).1 rfl (vp_in_iff.mpr (by omega)) dX10_copy_13 (fun H locs I2 eI2 hM hS => ?_)
        subst eI2
        have hI := hI.putF (n := 1068) (k := ((x2_2).toNatClampNeg)) (v := Ia2 (1015) (x2_2).toNatClampNeg) rfl
        have hK := hK.put (n := 1068) (k := ((x2_2).toNatClampNeg)) (v := Ia2 (1015) (x2_2).toNatClampNeg) (by first | rfl | simp [inR])
        obtain ⟨v3, ev3⟩ : ∃ z : Int32, z = x2_2 + Int32.ofInt (1) := ⟨_, rfl⟩
        have tv3 := a_inc ev3 (by decide) (by omega) (by omega)
        refine lv_iinc (v := v3) (lv' := [(2, .int (v3)), (0, .ref (ad (1015))), (1, .ref (ad (1068)))]) hx hb dX10_copy_14 hl (k := 0) rfl ev3.symm (by decide) rfl (fun ls hl => ?_)
        refine lv_goto (tgt := 2) hx hb dX10_copy_17 (by decide) ?_
        exact ih2 (v3) (u2 Ia2 (1068) ((x2_2).toNatClampNeg) (Ia2 (1015) (x2_2).toNatClampNeg)) La2 _ _ ls hI hK (by first | omega | decide) (by rw [u2_ne _ _ _ (by decide)]; exact hca2) (cp_step hcp2 (by decide) hca2 (by omega) (by omega)) (by omega) hM hS (lv_sub hl [0, 1, 2] rfl)
  exact loop2 (_ + 1) (0) I L _ _ ls hI hK (by first | omega | decide) rfl (fun j hj => absurd hj (Nat.not_lt_zero j)) (Nat.lt_succ_self _) hM hS (lv_sub hl [0, 1, 2] rfl)
set_option maxHeartbeats 4000000 in
set_option maxRecDepth 20000 in
theorem V_X10_copy_1068_1015_t (l : Launch) (D : va_G) (A : Nat → Prop) (ad : Nat → Nat) (ns : List Nat) (I : MI) (L : ML) (G : MG) (hJ : SGM ns G) (hI : INV I) : Met l yX10_copy (wd yX10_copy cX10_copy 3 none) ({ frames := 0, cells := 0, slots := 0, locals := 0 }) (va_Pc [.ref (ad (1068)), .ref (ad (1015))] (PM D A ad ns I L G)) (va_Qv (fun u => ∃ I2 L2, u = (ad, ns, I2, L2, G) ∧ INV I2 ∧ Kp [(1015, 1016)] [] I I2 ∧ (CPX 1068 1015 24 I I2)) (BM D A) A) 0 0 A := by
  refine m_ofW (by decide) (Nat.le_of_ble_eq_true rfl) ?_
  intro p e s m below meth c ls args hC hE hM hA hS hl
  obtain ⟨hx, hb, hml, hown, hts, hr, hlocks, hin⟩ := hC
  have k0 : (0 : Int32).toInt = 0 := by decide
  have k24 : (24 : Int32).toInt = 24 := by decide
  have hK : Kp [(1015, 1016)] [] I I := Kp.rf
  have hl : lv_has ls 3 [(0, .ref (ad (1068))), (1, .ref (ad (1015)))] := hl
  refine lv_iconst (v := (0)) hx hb dX10_copy_0 (by decide) ?_
  refine lv_istore_n (lv' := [(2, .int (0)), (0, .ref (ad (1068))), (1, .ref (ad (1015)))]) hx hb dX10_copy_1 rfl hl (by decide) rfl (fun ls hl => ?_)
  have loop2 : ∀ (n : Nat) (x2_2 : Int32) (Ia2 : MI) (La2 : ML) (H : Heap) (locs : List Loc) (ls : Array Slot), INV Ia2 → Kp [(1015, 1016)] [] I Ia2 → (0 ≤ x2_2.toInt ∧ x2_2.toInt ≤ 24) → (Ia2 1068 = I 1068) → (∀ j : Nat, j < (x2_2).toNatClampNeg → Ia2 1015 j = I 1068 j) → (24 - x2_2.toInt).toNat < n → Mem D A ad ns Ia2 La2 G H → va_S A s.heap H locs → lv_has ls 3 [(2, .int (x2_2)), (0, .ref (ad (1068))), (1, .ref (ad (1015)))] → W p l e ({ frames := 0, cells := 0, slots := 0, locals := 0 } : Room) s m args below meth c H locs 0 0 (MQ below (va_Qv (fun u => ∃ I2 L2, u = (ad, ns, I2, L2, G) ∧ INV I2 ∧ Kp [(1015, 1016)] [] I I2 ∧ (CPX 1068 1015 24 I I2)) (BM D A) A) args s 0 0 A) (F0 m 2 ls []) := by
    intro n
    induction n with
    | zero =>
      intro x2_2 Ia2 La2 H locs ls hI hK hr2_2 hca2 hcp2 hmu
      exact absurd hmu (Nat.not_lt_zero _)
    | succ n ih2 =>
      intro x2_2 Ia2 La2 H locs ls hI hK hr2_2 hca2 hcp2 hmu2 hM hS hl
      refine lv_iload_n hx hb dX10_copy_2 rfl (lv_at hl 0 rfl) ?_
      refine lv_aload_n hx hb dX10_copy_3 rfl (lv_at hl 2 rfl) ?_
      refine m_alen 1015 (t0 := 0) (v := 24) hx hb hE hM (hJ.2 15 (by decide)).1 rfl (by decide) rfl rfl dX10_copy_4 ?_
      refine lv_icmp_ge (tgt := 20) hx hb dX10_copy_5 (by decide) (fun c1 => ?_) (fun c1 => ?_)
      · have hc1 := c1
        have q1 := q_le hc1
        exact m_vret hx hb hr hlocks hM hS (Nat.le_of_ble_eq_true rfl) (Nat.le_of_ble_eq_true rfl) ⟨_, _, rfl, hI, hK, (fun j hj => hcp2 j (by have zz := tn (i := x2_2) (by omega); omega))⟩ dX10_copy_20
      · have hc1 := c1
        have q1 := q_nle hc1
        refine lv_aload_n hx hb dX10_copy_8 rfl (lv_at hl 2 rfl) ?_
        refine lv_iload_n hx hb dX10_copy_9 rfl (lv_at hl 0 rfl) ?_
        refine lv_aload_n hx hb dX10_copy_10 rfl (lv_at hl 1 rfl) ?_
        refine lv_iload_n hx hb dX10_copy_11 rfl (lv_at hl 0 rfl) ?_
        refine m_iald (1068) hx hb hE hM (hJ.2 68 (by decide)).1 rfl (vp_in_iff.mpr (by omega)) dX10_copy_12 ?_
        refine m_iast (1015) hx hb hE hM hS (hJ.2 15 (by decide)).1 rfl (vp_in_iff.mpr (by omega)) dX10_copy_13 (fun H locs I2 eI2 hM hS => ?_)
        subst eI2
        have hI := hI.putF (n := 1015) (k := ((x2_2).toNatClampNeg)) (v := Ia2 (1068) (x2_2).toNatClampNeg) rfl
        have hK := hK.put (n := 1015) (k := ((x2_2).toNatClampNeg)) (v := Ia2 (1068) (x2_2).toNatClampNeg) (by first | rfl | simp [inR])
        obtain ⟨v3, ev3⟩ : ∃ z : Int32, z = x2_2 + Int32.ofInt (1) := ⟨_, rfl⟩
        have tv3 := a_inc ev3 (by decide) (by omega) (by omega)
        refine lv_iinc (v := v3) (lv' := [(2, .int (v3)), (0, .ref (ad (1068))), (1, .ref (ad (1015)))]) hx hb dX10_copy_14 hl (k := 0) rfl ev3.symm (by decide) rfl (fun ls hl => ?_)
        refine lv_goto (tgt := 2) hx hb dX10_copy_17 (by decide) ?_
        exact ih2 (v3) (u2 Ia2 (1015) ((x2_2).toNatClampNeg) (Ia2 (1068) (x2_2).toNatClampNeg)) La2 _ _ ls hI hK (by first | omega | decide) (by rw [u2_ne _ _ _ (by decide)]; exact hca2) (cp_step hcp2 (by decide) hca2 (by omega) (by omega)) (by omega) hM hS (lv_sub hl [0, 1, 2] rfl)
  exact loop2 (_ + 1) (0) I L _ _ ls hI hK (by first | omega | decide) rfl (fun j hj => absurd hj (Nat.not_lt_zero j)) (Nat.lt_succ_self _) hM hS (lv_sub hl [0, 1, 2] rfl)
set_option maxHeartbeats 4000000 in
set_option maxRecDepth 20000 in
theorem V_X10_copy_1014_1069_t (l : Launch) (D : va_G) (A : Nat → Prop) (ad : Nat → Nat) (ns : List Nat) (I : MI) (L : ML) (G : MG) (hJ : SGM ns G) (hI : INV I) : Met l yX10_copy (wd yX10_copy cX10_copy 3 none) ({ frames := 0, cells := 0, slots := 0, locals := 0 }) (va_Pc [.ref (ad (1014)), .ref (ad (1069))] (PM D A ad ns I L G)) (va_Qv (fun u => ∃ I2 L2, u = (ad, ns, I2, L2, G) ∧ INV I2 ∧ Kp [(1069, 1070)] [] I I2 ∧ (CPX 1014 1069 24 I I2)) (BM D A) A) 0 0 A := by
  refine m_ofW (by decide) (Nat.le_of_ble_eq_true rfl) ?_
  intro p e s m below meth c ls args hC hE hM hA hS hl
  obtain ⟨hx, hb, hml, hown, hts, hr, hlocks, hin⟩ := hC
  have k0 : (0 : Int32).toInt = 0 := by decide
  have k24 : (24 : Int32).toInt = 24 := by decide
  have hK : Kp [(1069, 1070)] [] I I := Kp.rf
  have hl : lv_has ls 3 [(0, .ref (ad (1014))), (1, .ref (ad (1069)))] := hl
  refine lv_iconst (v := (0)) hx hb dX10_copy_0 (by decide) ?_
  refine lv_istore_n (lv' := [(2, .int (0)), (0, .ref (ad (1014))), (1, .ref (ad (1069)))]) hx hb dX10_copy_1 rfl hl (by decide) rfl (fun ls hl => ?_)
  have loop2 : ∀ (n : Nat) (x2_2 : Int32) (Ia2 : MI) (La2 : ML) (H : Heap) (locs : List Loc) (ls : Array Slot), INV Ia2 → Kp [(1069, 1070)] [] I Ia2 → (0 ≤ x2_2.toInt ∧ x2_2.toInt ≤ 24) → (Ia2 1014 = I 1014) → (∀ j : Nat, j < (x2_2).toNatClampNeg → Ia2 1069 j = I 1014 j) → (24 - x2_2.toInt).toNat < n → Mem D A ad ns Ia2 La2 G H → va_S A s.heap H locs → lv_has ls 3 [(2, .int (x2_2)), (0, .ref (ad (1014))), (1, .ref (ad (1069)))] → W p l e ({ frames := 0, cells := 0, slots := 0, locals := 0 } : Room) s m args below meth c H locs 0 0 (MQ below (va_Qv (fun u => ∃ I2 L2, u = (ad, ns, I2, L2, G) ∧ INV I2 ∧ Kp [(1069, 1070)] [] I I2 ∧ (CPX 1014 1069 24 I I2)) (BM D A) A) args s 0 0 A) (F0 m 2 ls []) := by
    intro n
    induction n with
    | zero =>
      intro x2_2 Ia2 La2 H locs ls hI hK hr2_2 hca2 hcp2 hmu
      exact absurd hmu (Nat.not_lt_zero _)
    | succ n ih2 =>
      intro x2_2 Ia2 La2 H locs ls hI hK hr2_2 hca2 hcp2 hmu2 hM hS hl
      refine lv_iload_n hx hb dX10_copy_2 rfl (lv_at hl 0 rfl) ?_
      refine lv_aload_n hx hb dX10_copy_3 rfl (lv_at hl 2 rfl) ?_
      refine m_alen 1069 (t0 := 0) (v := 24) hx hb hE hM (hJ.2 69 (by decide)).1 rfl (by decide) rfl rfl dX10_copy_4 ?_
      refine lv_icmp_ge (tgt := 20) hx hb dX10_copy_5 (by decide) (fun c1 => ?_) (fun c1 => ?_)
      · have hc1 := c1
        have q1 := q_le hc1
        exact m_vret hx hb hr hlocks hM hS (Nat.le_of_ble_eq_true rfl) (Nat.le_of_ble_eq_true rfl) ⟨_, _, rfl, hI, hK, (fun j hj => hcp2 j (by have zz := tn (i := x2_2) (by omega); omega))⟩ dX10_copy_20
      · have hc1 := c1
        have q1 := q_nle hc1
        refine lv_aload_n hx hb dX10_copy_8 rfl (lv_at hl 2 rfl) ?_
        refine lv_iload_n hx hb dX10_copy_9 rfl (lv_at hl 0 rfl) ?_
        refine lv_aload_n hx hb dX10_copy_10 rfl (lv_at hl 1 rfl) ?_
        refine lv_iload_n hx hb dX10_copy_11 rfl (lv_at hl 0 rfl) ?_
        refine m_iald (1014) hx hb hE hM (hJ.2 14 (by decide)).1 rfl (vp_in_iff.mpr (by omega)) dX10_copy_12 ?_
        refine m_iast (1069) hx hb hE hM hS (hJ.2 69 (by decide)).1 rfl (vp_in_iff.mpr (by omega)) dX10_copy_13 (fun H locs I2 eI2 hM hS => ?_)
        subst eI2
        have hI := hI.putF (n := 1069) (k := ((x2_2).toNatClampNeg)) (v := Ia2 (1014) (x2_2).toNatClampNeg) rfl
        have hK := hK.put (n := 1069) (k := ((x2_2).toNatClampNeg)) (v := Ia2 (1014) (x2_2).toNatClampNeg) (by first | rfl | simp [inR])
        obtain ⟨v3, ev3⟩ : ∃ z : Int32, z = x2_2 + Int32.ofInt (1) := ⟨_, rfl⟩
        have tv3 := a_inc ev3 (by decide) (by omega) (by omega)
        refine lv_iinc (v := v3) (lv' := [(2, .int (v3)), (0, .ref (ad (1014))), (1, .ref (ad (1069)))]) hx hb dX10_copy_14 hl (k := 0) rfl ev3.symm (by decide) rfl (fun ls hl => ?_)
        refine lv_goto (tgt := 2) hx hb dX10_copy_17 (by decide) ?_
        exact ih2 (v3) (u2 Ia2 (1069) ((x2_2).toNatClampNeg) (Ia2 (1014) (x2_2).toNatClampNeg)) La2 _ _ ls hI hK (by first | omega | decide) (by rw [u2_ne _ _ _ (by decide)]; exact hca2) (cp_step hcp2 (by decide) hca2 (by omega) (by omega)) (by omega) hM hS (lv_sub hl [0, 1, 2] rfl)
  exact loop2 (_ + 1) (0) I L _ _ ls hI hK (by first | omega | decide) rfl (fun j hj => absurd hj (Nat.not_lt_zero j)) (Nat.lt_succ_self _) hM hS (lv_sub hl [0, 1, 2] rfl)
set_option maxHeartbeats 4000000 in
set_option maxRecDepth 20000 in
theorem V_X10_copy_1069_1014_t (l : Launch) (D : va_G) (A : Nat → Prop) (ad : Nat → Nat) (ns : List Nat) (I : MI) (L : ML) (G : MG) (hJ : SGM ns G) (hI : INV I) : Met l yX10_copy (wd yX10_copy cX10_copy 3 none) ({ frames := 0, cells := 0, slots := 0, locals := 0 }) (va_Pc [.ref (ad (1069)), .ref (ad (1014))] (PM D A ad ns I L G)) (va_Qv (fun u => ∃ I2 L2, u = (ad, ns, I2, L2, G) ∧ INV I2 ∧ Kp [(1014, 1015)] [] I I2 ∧ (CPX 1069 1014 24 I I2)) (BM D A) A) 0 0 A := by
  refine m_ofW (by decide) (Nat.le_of_ble_eq_true rfl) ?_
  intro p e s m below meth c ls args hC hE hM hA hS hl
  obtain ⟨hx, hb, hml, hown, hts, hr, hlocks, hin⟩ := hC
  have k0 : (0 : Int32).toInt = 0 := by decide
  have k24 : (24 : Int32).toInt = 24 := by decide
  have hK : Kp [(1014, 1015)] [] I I := Kp.rf
  have hl : lv_has ls 3 [(0, .ref (ad (1069))), (1, .ref (ad (1014)))] := hl
  refine lv_iconst (v := (0)) hx hb dX10_copy_0 (by decide) ?_
  refine lv_istore_n (lv' := [(2, .int (0)), (0, .ref (ad (1069))), (1, .ref (ad (1014)))]) hx hb dX10_copy_1 rfl hl (by decide) rfl (fun ls hl => ?_)
  have loop2 : ∀ (n : Nat) (x2_2 : Int32) (Ia2 : MI) (La2 : ML) (H : Heap) (locs : List Loc) (ls : Array Slot), INV Ia2 → Kp [(1014, 1015)] [] I Ia2 → (0 ≤ x2_2.toInt ∧ x2_2.toInt ≤ 24) → (Ia2 1069 = I 1069) → (∀ j : Nat, j < (x2_2).toNatClampNeg → Ia2 1014 j = I 1069 j) → (24 - x2_2.toInt).toNat < n → Mem D A ad ns Ia2 La2 G H → va_S A s.heap H locs → lv_has ls 3 [(2, .int (x2_2)), (0, .ref (ad (1069))), (1, .ref (ad (1014)))] → W p l e ({ frames := 0, cells := 0, slots := 0, locals := 0 } : Room) s m args below meth c H locs 0 0 (MQ below (va_Qv (fun u => ∃ I2 L2, u = (ad, ns, I2, L2, G) ∧ INV I2 ∧ Kp [(1014, 1015)] [] I I2 ∧ (CPX 1069 1014 24 I I2)) (BM D A) A) args s 0 0 A) (F0 m 2 ls []) := by
    intro n
    induction n with
    | zero =>
      intro x2_2 Ia2 La2 H locs ls hI hK hr2_2 hca2 hcp2 hmu
      exact absurd hmu (Nat.not_lt_zero _)
    | succ n ih2 =>
      intro x2_2 Ia2 La2 H locs ls hI hK hr2_2 hca2 hcp2 hmu2 hM hS hl
      refine lv_iload_n hx hb dX10_copy_2 rfl (lv_at hl 0 rfl) ?_
      refine lv_aload_n hx hb dX10_copy_3 rfl (lv_at hl 2 rfl) ?_
      refine m_alen 1014 (t0 := 0) (v := 24) hx hb hE hM (hJ.2 14 (by decide)).1 rfl (by decide) rfl rfl dX10_copy_4 ?_
      refine lv_icmp_ge (tgt := 20) hx hb dX10_copy_5 (by decide) (fun c1 => ?_) (fun c1 => ?_)
      · have hc1 := c1
        have q1 := q_le hc1
        exact m_vret hx hb hr hlocks hM hS (Nat.le_of_ble_eq_true rfl) (Nat.le_of_ble_eq_true rfl) ⟨_, _, rfl, hI, hK, (fun j hj => hcp2 j (by have zz := tn (i := x2_2) (by omega); omega))⟩ dX10_copy_20
      · have hc1 := c1
        have q1 := q_nle hc1
        refine lv_aload_n hx hb dX10_copy_8 rfl (lv_at hl 2 rfl) ?_
        refine lv_iload_n hx hb dX10_copy_9 rfl (lv_at hl 0 rfl) ?_
        refine lv_aload_n hx hb dX10_copy_10 rfl (lv_at hl 1 rfl) ?_
        refine lv_iload_n hx hb dX10_copy_11 rfl (lv_at hl 0 rfl) ?_
        refine m_iald (1069) hx hb hE hM (hJ.2 69 (by decide)).1 rfl (vp_in_iff.mpr (by omega)) dX10_copy_12 ?_
        refine m_iast (1014) hx hb hE hM hS (hJ.2 14 (by decide)).1 rfl (vp_in_iff.mpr (by omega)) dX10_copy_13 (fun H locs I2 eI2 hM hS => ?_)
        subst eI2
        have hI := hI.putF (n := 1014) (k := ((x2_2).toNatClampNeg)) (v := Ia2 (1069) (x2_2).toNatClampNeg) rfl
        have hK := hK.put (n := 1014) (k := ((x2_2).toNatClampNeg)) (v := Ia2 (1069) (x2_2).toNatClampNeg) (by first | rfl | simp [inR])
        obtain ⟨v3, ev3⟩ : ∃ z : Int32, z = x2_2 + Int32.ofInt (1) := ⟨_, rfl⟩
        have tv3 := a_inc ev3 (by decide) (by omega) (by omega)
        refine lv_iinc (v := v3) (lv' := [(2, .int (v3)), (0, .ref (ad (1069))), (1, .ref (ad (1014)))]) hx hb dX10_copy_14 hl (k := 0) rfl ev3.symm (by decide) rfl (fun ls hl => ?_)
        refine lv_goto (tgt := 2) hx hb dX10_copy_17 (by decide) ?_
        exact ih2 (v3) (u2 Ia2 (1014) ((x2_2).toNatClampNeg) (Ia2 (1069) (x2_2).toNatClampNeg)) La2 _ _ ls hI hK (by first | omega | decide) (by rw [u2_ne _ _ _ (by decide)]; exact hca2) (cp_step hcp2 (by decide) hca2 (by omega) (by omega)) (by omega) hM hS (lv_sub hl [0, 1, 2] rfl)
  exact loop2 (_ + 1) (0) I L _ _ ls hI hK (by first | omega | decide) rfl (fun j hj => absurd hj (Nat.not_lt_zero j)) (Nat.lt_succ_self _) hM hS (lv_sub hl [0, 1, 2] rfl)
set_option maxHeartbeats 4000000 in
set_option maxRecDepth 20000 in
theorem V_X10_copy_1023_1070_t (l : Launch) (D : va_G) (A : Nat → Prop) (ad : Nat → Nat) (ns : List Nat) (I : MI) (L : ML) (G : MG) (hJ : SGM ns G) (hI : INV I) : Met l yX10_copy (wd yX10_copy cX10_copy 3 none) ({ frames := 0, cells := 0, slots := 0, locals := 0 }) (va_Pc [.ref (ad (1023)), .ref (ad (1070))] (PM D A ad ns I L G)) (va_Qv (fun u => ∃ I2 L2, u = (ad, ns, I2, L2, G) ∧ INV I2 ∧ Kp [(1070, 1071)] [] I I2 ∧ (CPX 1023 1070 8 I I2)) (BM D A) A) 0 0 A := by
  refine m_ofW (by decide) (Nat.le_of_ble_eq_true rfl) ?_
  intro p e s m below meth c ls args hC hE hM hA hS hl
  obtain ⟨hx, hb, hml, hown, hts, hr, hlocks, hin⟩ := hC
  have k0 : (0 : Int32).toInt = 0 := by decide
  have k8 : (8 : Int32).toInt = 8 := by decide
  have hK : Kp [(1070, 1071)] [] I I := Kp.rf
  have hl : lv_has ls 3 [(0, .ref (ad (1023))), (1, .ref (ad (1070)))] := hl
  refine lv_iconst (v := (0)) hx hb dX10_copy_0 (by decide) ?_
  refine lv_istore_n (lv' := [(2, .int (0)), (0, .ref (ad (1023))), (1, .ref (ad (1070)))]) hx hb dX10_copy_1 rfl hl (by decide) rfl (fun ls hl => ?_)
  have loop2 : ∀ (n : Nat) (x2_2 : Int32) (Ia2 : MI) (La2 : ML) (H : Heap) (locs : List Loc) (ls : Array Slot), INV Ia2 → Kp [(1070, 1071)] [] I Ia2 → (0 ≤ x2_2.toInt ∧ x2_2.toInt ≤ 8) → (Ia2 1023 = I 1023) → (∀ j : Nat, j < (x2_2).toNatClampNeg → Ia2 1070 j = I 1023 j) → (8 - x2_2.toInt).toNat < n → Mem D A ad ns Ia2 La2 G H → va_S A s.heap H locs → lv_has ls 3 [(2, .int (x2_2)), (0, .ref (ad (1023))), (1, .ref (ad (1070)))] → W p l e ({ frames := 0, cells := 0, slots := 0, locals := 0 } : Room) s m args below meth c H locs 0 0 (MQ below (va_Qv (fun u => ∃ I2 L2, u = (ad, ns, I2, L2, G) ∧ INV I2 ∧ Kp [(1070, 1071)] [] I I2 ∧ (CPX 1023 1070 8 I I2)) (BM D A) A) args s 0 0 A) (F0 m 2 ls []) := by
    intro n
    induction n with
    | zero =>
      intro x2_2 Ia2 La2 H locs ls hI hK hr2_2 hca2 hcp2 hmu
      exact absurd hmu (Nat.not_lt_zero _)
    | succ n ih2 =>
      intro x2_2 Ia2 La2 H locs ls hI hK hr2_2 hca2 hcp2 hmu2 hM hS hl
      refine lv_iload_n hx hb dX10_copy_2 rfl (lv_at hl 0 rfl) ?_
      refine lv_aload_n hx hb dX10_copy_3 rfl (lv_at hl 2 rfl) ?_
      refine m_alen 1070 (t0 := 0) (v := 8) hx hb hE hM (hJ.2 70 (by decide)).1 rfl (by decide) rfl rfl dX10_copy_4 ?_
      refine lv_icmp_ge (tgt := 20) hx hb dX10_copy_5 (by decide) (fun c1 => ?_) (fun c1 => ?_)
      · have hc1 := c1
        have q1 := q_le hc1
        exact m_vret hx hb hr hlocks hM hS (Nat.le_of_ble_eq_true rfl) (Nat.le_of_ble_eq_true rfl) ⟨_, _, rfl, hI, hK, (fun j hj => hcp2 j (by have zz := tn (i := x2_2) (by omega); omega))⟩ dX10_copy_20
      · have hc1 := c1
        have q1 := q_nle hc1
        refine lv_aload_n hx hb dX10_copy_8 rfl (lv_at hl 2 rfl) ?_
        refine lv_iload_n hx hb dX10_copy_9 rfl (lv_at hl 0 rfl) ?_
        refine lv_aload_n hx hb dX10_copy_10 rfl (lv_at hl 1 rfl) ?_
        refine lv_iload_n hx hb dX10_copy_11 rfl (lv_at hl 0 rfl) ?_
        refine m_iald (1023) hx hb hE hM (hJ.2 23 (by decide)).1 rfl (vp_in_iff.mpr (by omega)) dX10_copy_12 ?_
        refine m_iast (1070) hx hb hE hM hS (hJ.2 70 (by decide)).1 rfl (vp_in_iff.mpr (by omega)) dX10_copy_13 (fun H locs I2 eI2 hM hS => ?_)
        subst eI2
        have hI := hI.putF (n := 1070) (k := ((x2_2).toNatClampNeg)) (v := Ia2 (1023) (x2_2).toNatClampNeg) rfl
        have hK := hK.put (n := 1070) (k := ((x2_2).toNatClampNeg)) (v := Ia2 (1023) (x2_2).toNatClampNeg) (by first | rfl | simp [inR])
        obtain ⟨v3, ev3⟩ : ∃ z : Int32, z = x2_2 + Int32.ofInt (1) := ⟨_, rfl⟩
        have tv3 := a_inc ev3 (by decide) (by omega) (by omega)
        refine lv_iinc (v := v3) (lv' := [(2, .int (v3)), (0, .ref (ad (1023))), (1, .ref (ad (1070)))]) hx hb dX10_copy_14 hl (k := 0) rfl ev3.symm (by decide) rfl (fun ls hl => ?_)
        refine lv_goto (tgt := 2) hx hb dX10_copy_17 (by decide) ?_
        exact ih2 (v3) (u2 Ia2 (1070) ((x2_2).toNatClampNeg) (Ia2 (1023) (x2_2).toNatClampNeg)) La2 _ _ ls hI hK (by first | omega | decide) (by rw [u2_ne _ _ _ (by decide)]; exact hca2) (cp_step hcp2 (by decide) hca2 (by omega) (by omega)) (by omega) hM hS (lv_sub hl [0, 1, 2] rfl)
  exact loop2 (_ + 1) (0) I L _ _ ls hI hK (by first | omega | decide) rfl (fun j hj => absurd hj (Nat.not_lt_zero j)) (Nat.lt_succ_self _) hM hS (lv_sub hl [0, 1, 2] rfl)
set_option maxHeartbeats 4000000 in
set_option maxRecDepth 20000 in
theorem V_X10_copy_1070_1023_t (l : Launch) (D : va_G) (A : Nat → Prop) (ad : Nat → Nat) (ns : List Nat) (I : MI) (L : ML) (G : MG) (hJ : SGM ns G) (hI : INV I) : Met l yX10_copy (wd yX10_copy cX10_copy 3 none) ({ frames := 0, cells := 0, slots := 0, locals := 0 }) (va_Pc [.ref (ad (1070)), .ref (ad (1023))] (PM D A ad ns I L G)) (va_Qv (fun u => ∃ I2 L2, u = (ad, ns, I2, L2, G) ∧ INV I2 ∧ Kp [(1023, 1024)] [] I I2 ∧ (CPX 1070 1023 8 I I2)) (BM D A) A) 0 0 A := by
  refine m_ofW (by decide) (Nat.le_of_ble_eq_true rfl) ?_
  intro p e s m below meth c ls args hC hE hM hA hS hl
  obtain ⟨hx, hb, hml, hown, hts, hr, hlocks, hin⟩ := hC
  have k0 : (0 : Int32).toInt = 0 := by decide
  have k8 : (8 : Int32).toInt = 8 := by decide
  have hK : Kp [(1023, 1024)] [] I I := Kp.rf
  have hl : lv_has ls 3 [(0, .ref (ad (1070))), (1, .ref (ad (1023)))] := hl
  refine lv_iconst (v := (0)) hx hb dX10_copy_0 (by decide) ?_
  refine lv_istore_n (lv' := [(2, .int (0)), (0, .ref (ad (1070))), (1, .ref (ad (1023)))]) hx hb dX10_copy_1 rfl hl (by decide) rfl (fun ls hl => ?_)
  have loop2 : ∀ (n : Nat) (x2_2 : Int32) (Ia2 : MI) (La2 : ML) (H : Heap) (locs : List Loc) (ls : Array Slot), INV Ia2 → Kp [(1023, 1024)] [] I Ia2 → (0 ≤ x2_2.toInt ∧ x2_2.toInt ≤ 8) → (Ia2 1070 = I 1070) → (∀ j : Nat, j < (x2_2).toNatClampNeg → Ia2 1023 j = I 1070 j) → (8 - x2_2.toInt).toNat < n → Mem D A ad ns Ia2 La2 G H → va_S A s.heap H locs → lv_has ls 3 [(2, .int (x2_2)), (0, .ref (ad (1070))), (1, .ref (ad (1023)))] → W p l e ({ frames := 0, cells := 0, slots := 0, locals := 0 } : Room) s m args below meth c H locs 0 0 (MQ below (va_Qv (fun u => ∃ I2 L2, u = (ad, ns, I2, L2, G) ∧ INV I2 ∧ Kp [(1023, 1024)] [] I I2 ∧ (CPX 1070 1023 8 I I2)) (BM D A) A) args s 0 0 A) (F0 m 2 ls []) := by
    intro n
    induction n with
    | zero =>
      intro x2_2 Ia2 La2 H locs ls hI hK hr2_2 hca2 hcp2 hmu
      exact absurd hmu (Nat.not_lt_zero _)
    | succ n ih2 =>
      intro x2_2 Ia2 La2 H locs ls hI hK hr2_2 hca2 hcp2 hmu2 hM hS hl
      refine lv_iload_n hx hb dX10_copy_2 rfl (lv_at hl 0 rfl) ?_
      refine lv_aload_n hx hb dX10_copy_3 rfl (lv_at hl 2 rfl) ?_
      refine m_alen 1023 (t0 := 0) (v := 8) hx hb hE hM (hJ.2 23 (by decide)).1 rfl (by decide) rfl rfl dX10_copy_4 ?_
      refine lv_icmp_ge (tgt := 20) hx hb dX10_copy_5 (by decide) (fun c1 => ?_) (fun c1 => ?_)
      · have hc1 := c1
        have q1 := q_le hc1
        exact m_vret hx hb hr hlocks hM hS (Nat.le_of_ble_eq_true rfl) (Nat.le_of_ble_eq_true rfl) ⟨_, _, rfl, hI, hK, (fun j hj => hcp2 j (by have zz := tn (i := x2_2) (by omega); omega))⟩ dX10_copy_20
      · have hc1 := c1
        have q1 := q_nle hc1
        refine lv_aload_n hx hb dX10_copy_8 rfl (lv_at hl 2 rfl) ?_
        refine lv_iload_n hx hb dX10_copy_9 rfl (lv_at hl 0 rfl) ?_
        refine lv_aload_n hx hb dX10_copy_10 rfl (lv_at hl 1 rfl) ?_
        refine lv_iload_n hx hb dX10_copy_11 rfl (lv_at hl 0 rfl) ?_
        refine m_iald (1070) hx hb hE hM (hJ.2 70 (by decide)).1 rfl (vp_in_iff.mpr (by omega)) dX10_copy_12 ?_
        refine m_iast (1023) hx hb hE hM hS (hJ.2 23 (by decide)).1 rfl (vp_in_iff.mpr (by omega)) dX10_copy_13 (fun H locs I2 eI2 hM hS => ?_)
        subst eI2
        have hI := hI.putF (n := 1023) (k := ((x2_2).toNatClampNeg)) (v := Ia2 (1070) (x2_2).toNatClampNeg) rfl
        have hK := hK.put (n := 1023) (k := ((x2_2).toNatClampNeg)) (v := Ia2 (1070) (x2_2).toNatClampNeg) (by first | rfl | simp [inR])
        obtain ⟨v3, ev3⟩ : ∃ z : Int32, z = x2_2 + Int32.ofInt (1) := ⟨_, rfl⟩
        have tv3 := a_inc ev3 (by decide) (by omega) (by omega)
        refine lv_iinc (v := v3) (lv' := [(2, .int (v3)), (0, .ref (ad (1070))), (1, .ref (ad (1023)))]) hx hb dX10_copy_14 hl (k := 0) rfl ev3.symm (by decide) rfl (fun ls hl => ?_)
        refine lv_goto (tgt := 2) hx hb dX10_copy_17 (by decide) ?_
        exact ih2 (v3) (u2 Ia2 (1023) ((x2_2).toNatClampNeg) (Ia2 (1070) (x2_2).toNatClampNeg)) La2 _ _ ls hI hK (by first | omega | decide) (by rw [u2_ne _ _ _ (by decide)]; exact hca2) (cp_step hcp2 (by decide) hca2 (by omega) (by omega)) (by omega) hM hS (lv_sub hl [0, 1, 2] rfl)
  exact loop2 (_ + 1) (0) I L _ _ ls hI hK (by first | omega | decide) rfl (fun j hj => absurd hj (Nat.not_lt_zero j)) (Nat.lt_succ_self _) hM hS (lv_sub hl [0, 1, 2] rfl)
set_option maxHeartbeats 4000000 in
set_option maxRecDepth 20000 in
theorem V_X10_copy_1071_1072_t (l : Launch) (D : va_G) (A : Nat → Prop) (ad : Nat → Nat) (ns : List Nat) (I : MI) (L : ML) (G : MG) (hJ : SGM ns G) (hI : INV I) : Met l yX10_copy (wd yX10_copy cX10_copy 3 none) ({ frames := 0, cells := 0, slots := 0, locals := 0 }) (va_Pc [.ref (ad (1071)), .ref (ad (1072))] (PM D A ad ns I L G)) (va_Qv (fun u => ∃ I2 L2, u = (ad, ns, I2, L2, G) ∧ INV I2 ∧ Kp [(1072, 1073)] [] I I2 ∧ (CPX 1071 1072 4 I I2)) (BM D A) A) 0 0 A := by
  refine m_ofW (by decide) (Nat.le_of_ble_eq_true rfl) ?_
  intro p e s m below meth c ls args hC hE hM hA hS hl
  obtain ⟨hx, hb, hml, hown, hts, hr, hlocks, hin⟩ := hC
  have k0 : (0 : Int32).toInt = 0 := by decide
  have k4 : (4 : Int32).toInt = 4 := by decide
  have hK : Kp [(1072, 1073)] [] I I := Kp.rf
  have hl : lv_has ls 3 [(0, .ref (ad (1071))), (1, .ref (ad (1072)))] := hl
  refine lv_iconst (v := (0)) hx hb dX10_copy_0 (by decide) ?_
  refine lv_istore_n (lv' := [(2, .int (0)), (0, .ref (ad (1071))), (1, .ref (ad (1072)))]) hx hb dX10_copy_1 rfl hl (by decide) rfl (fun ls hl => ?_)
  have loop2 : ∀ (n : Nat) (x2_2 : Int32) (Ia2 : MI) (La2 : ML) (H : Heap) (locs : List Loc) (ls : Array Slot), INV Ia2 → Kp [(1072, 1073)] [] I Ia2 → (0 ≤ x2_2.toInt ∧ x2_2.toInt ≤ 4) → (Ia2 1071 = I 1071) → (∀ j : Nat, j < (x2_2).toNatClampNeg → Ia2 1072 j = I 1071 j) → (4 - x2_2.toInt).toNat < n → Mem D A ad ns Ia2 La2 G H → va_S A s.heap H locs → lv_has ls 3 [(2, .int (x2_2)), (0, .ref (ad (1071))), (1, .ref (ad (1072)))] → W p l e ({ frames := 0, cells := 0, slots := 0, locals := 0 } : Room) s m args below meth c H locs 0 0 (MQ below (va_Qv (fun u => ∃ I2 L2, u = (ad, ns, I2, L2, G) ∧ INV I2 ∧ Kp [(1072, 1073)] [] I I2 ∧ (CPX 1071 1072 4 I I2)) (BM D A) A) args s 0 0 A) (F0 m 2 ls []) := by
    intro n
    induction n with
    | zero =>
      intro x2_2 Ia2 La2 H locs ls hI hK hr2_2 hca2 hcp2 hmu
      exact absurd hmu (Nat.not_lt_zero _)
    | succ n ih2 =>
      intro x2_2 Ia2 La2 H locs ls hI hK hr2_2 hca2 hcp2 hmu2 hM hS hl
      refine lv_iload_n hx hb dX10_copy_2 rfl (lv_at hl 0 rfl) ?_
      refine lv_aload_n hx hb dX10_copy_3 rfl (lv_at hl 2 rfl) ?_
      refine m_alen 1072 (t0 := 0) (v := 4) hx hb hE hM (hJ.2 72 (by decide)).1 rfl (by decide) rfl rfl dX10_copy_4 ?_
      refine lv_icmp_ge (tgt := 20) hx hb dX10_copy_5 (by decide) (fun c1 => ?_) (fun c1 => ?_)
      · have hc1 := c1
        have q1 := q_le hc1
        exact m_vret hx hb hr hlocks hM hS (Nat.le_of_ble_eq_true rfl) (Nat.le_of_ble_eq_true rfl) ⟨_, _, rfl, hI, hK, (fun j hj => hcp2 j (by have zz := tn (i := x2_2) (by omega); omega))⟩ dX10_copy_20
      · have hc1 := c1
        have q1 := q_nle hc1
        refine lv_aload_n hx hb dX10_copy_8 rfl (lv_at hl 2 rfl) ?_
        refine lv_iload_n hx hb dX10_copy_9 rfl (lv_at hl 0 rfl) ?_
        refine lv_aload_n hx hb dX10_copy_10 rfl (lv_at hl 1 rfl) ?_
        refine lv_iload_n hx hb dX10_copy_11 rfl (lv_at hl 0 rfl) ?_
        refine m_iald (1071) hx hb hE hM (hJ.2 71 (by decide)).1 rfl (vp_in_iff.mpr (by omega)) dX10_copy_12 ?_
        refine m_iast (1072) hx hb hE hM hS (hJ.2 72 (by decide)).1 rfl (vp_in_iff.mpr (by omega)) dX10_copy_13 (fun H locs I2 eI2 hM hS => ?_)
        subst eI2
        have hI := hI.putF (n := 1072) (k := ((x2_2).toNatClampNeg)) (v := Ia2 (1071) (x2_2).toNatClampNeg) rfl
        have hK := hK.put (n := 1072) (k := ((x2_2).toNatClampNeg)) (v := Ia2 (1071) (x2_2).toNatClampNeg) (by first | rfl | simp [inR])
        obtain ⟨v3, ev3⟩ : ∃ z : Int32, z = x2_2 + Int32.ofInt (1) := ⟨_, rfl⟩
        have tv3 := a_inc ev3 (by decide) (by omega) (by omega)
        refine lv_iinc (v := v3) (lv' := [(2, .int (v3)), (0, .ref (ad (1071))), (1, .ref (ad (1072)))]) hx hb dX10_copy_14 hl (k := 0) rfl ev3.symm (by decide) rfl (fun ls hl => ?_)
        refine lv_goto (tgt := 2) hx hb dX10_copy_17 (by decide) ?_
        exact ih2 (v3) (u2 Ia2 (1072) ((x2_2).toNatClampNeg) (Ia2 (1071) (x2_2).toNatClampNeg)) La2 _ _ ls hI hK (by first | omega | decide) (by rw [u2_ne _ _ _ (by decide)]; exact hca2) (cp_step hcp2 (by decide) hca2 (by omega) (by omega)) (by omega) hM hS (lv_sub hl [0, 1, 2] rfl)
  exact loop2 (_ + 1) (0) I L _ _ ls hI hK (by first | omega | decide) rfl (fun j hj => absurd hj (Nat.not_lt_zero j)) (Nat.lt_succ_self _) hM hS (lv_sub hl [0, 1, 2] rfl)
set_option maxHeartbeats 4000000 in
set_option maxRecDepth 20000 in
theorem V_X10_copy_1062_1060_t (l : Launch) (D : va_G) (A : Nat → Prop) (ad : Nat → Nat) (ns : List Nat) (I : MI) (L : ML) (G : MG) (hJ : SGM ns G) (hI : INV I) : Met l yX10_copy (wd yX10_copy cX10_copy 3 none) ({ frames := 0, cells := 0, slots := 0, locals := 0 }) (va_Pc [.ref (ad (1062)), .ref (ad (1060))] (PM D A ad ns I L G)) (va_Qv (fun u => ∃ I2 L2, u = (ad, ns, I2, L2, G) ∧ INV I2 ∧ Kp [(1060, 1061)] [] I I2 ∧ (CPX 1062 1060 24 I I2)) (BM D A) A) 0 0 A := by
  refine m_ofW (by decide) (Nat.le_of_ble_eq_true rfl) ?_
  intro p e s m below meth c ls args hC hE hM hA hS hl
  obtain ⟨hx, hb, hml, hown, hts, hr, hlocks, hin⟩ := hC
  have k0 : (0 : Int32).toInt = 0 := by decide
  have k24 : (24 : Int32).toInt = 24 := by decide
  have hK : Kp [(1060, 1061)] [] I I := Kp.rf
  have hl : lv_has ls 3 [(0, .ref (ad (1062))), (1, .ref (ad (1060)))] := hl
  refine lv_iconst (v := (0)) hx hb dX10_copy_0 (by decide) ?_
  refine lv_istore_n (lv' := [(2, .int (0)), (0, .ref (ad (1062))), (1, .ref (ad (1060)))]) hx hb dX10_copy_1 rfl hl (by decide) rfl (fun ls hl => ?_)
  have loop2 : ∀ (n : Nat) (x2_2 : Int32) (Ia2 : MI) (La2 : ML) (H : Heap) (locs : List Loc) (ls : Array Slot), INV Ia2 → Kp [(1060, 1061)] [] I Ia2 → (0 ≤ x2_2.toInt ∧ x2_2.toInt ≤ 24) → (Ia2 1062 = I 1062) → (∀ j : Nat, j < (x2_2).toNatClampNeg → Ia2 1060 j = I 1062 j) → (24 - x2_2.toInt).toNat < n → Mem D A ad ns Ia2 La2 G H → va_S A s.heap H locs → lv_has ls 3 [(2, .int (x2_2)), (0, .ref (ad (1062))), (1, .ref (ad (1060)))] → W p l e ({ frames := 0, cells := 0, slots := 0, locals := 0 } : Room) s m args below meth c H locs 0 0 (MQ below (va_Qv (fun u => ∃ I2 L2, u = (ad, ns, I2, L2, G) ∧ INV I2 ∧ Kp [(1060, 1061)] [] I I2 ∧ (CPX 1062 1060 24 I I2)) (BM D A) A) args s 0 0 A) (F0 m 2 ls []) := by
    intro n
    induction n with
    | zero =>
      intro x2_2 Ia2 La2 H locs ls hI hK hr2_2 hca2 hcp2 hmu
      exact absurd hmu (Nat.not_lt_zero _)
    | succ n ih2 =>
      intro x2_2 Ia2 La2 H locs ls hI hK hr2_2 hca2 hcp2 hmu2 hM hS hl
      refine lv_iload_n hx hb dX10_copy_2 rfl (lv_at hl 0 rfl) ?_
      refine lv_aload_n hx hb dX10_copy_3 rfl (lv_at hl 2 rfl) ?_
      refine m_alen 1060 (t0 := 0) (v := 24) hx hb hE hM (hJ.2 60 (by decide)).1 rfl (by decide) rfl rfl dX10_copy_4 ?_
      refine lv_icmp_ge (tgt := 20) hx hb dX10_copy_5 (by decide) (fun c1 => ?_) (fun c1 => ?_)
      · have hc1 := c1
        have q1 := q_le hc1
        exact m_vret hx hb hr hlocks hM hS (Nat.le_of_ble_eq_true rfl) (Nat.le_of_ble_eq_true rfl) ⟨_, _, rfl, hI, hK, (fun j hj => hcp2 j (by have zz := tn (i := x2_2) (by omega); omega))⟩ dX10_copy_20
      · have hc1 := c1
        have q1 := q_nle hc1
        refine lv_aload_n hx hb dX10_copy_8 rfl (lv_at hl 2 rfl) ?_
        refine lv_iload_n hx hb dX10_copy_9 rfl (lv_at hl 0 rfl) ?_
        refine lv_aload_n hx hb dX10_copy_10 rfl (lv_at hl 1 rfl) ?_
        refine lv_iload_n hx hb dX10_copy_11 rfl (lv_at hl 0 rfl) ?_
        refine m_iald (1062) hx hb hE hM (hJ.2 62 (by decide)).1 rfl (vp_in_iff.mpr (by omega)) dX10_copy_12 ?_
        refine m_iast (1060) hx hb hE hM hS (hJ.2 60 (by decide)).1 rfl (vp_in_iff.mpr (by omega)) dX10_copy_13 (fun H locs I2 eI2 hM hS => ?_)
        subst eI2
        have hI := hI.putF (n := 1060) (k := ((x2_2).toNatClampNeg)) (v := Ia2 (1062) (x2_2).toNatClampNeg) rfl
        have hK := hK.put (n := 1060) (k := ((x2_2).toNatClampNeg)) (v := Ia2 (1062) (x2_2).toNatClampNeg) (by first | rfl | simp [inR])
        obtain ⟨v3, ev3⟩ : ∃ z : Int32, z = x2_2 + Int32.ofInt (1) := ⟨_, rfl⟩
        have tv3 := a_inc ev3 (by decide) (by omega) (by omega)
        refine lv_iinc (v := v3) (lv' := [(2, .int (v3)), (0, .ref (ad (1062))), (1, .ref (ad (1060)))]) hx hb dX10_copy_14 hl (k := 0) rfl ev3.symm (by decide) rfl (fun ls hl => ?_)
        refine lv_goto (tgt := 2) hx hb dX10_copy_17 (by decide) ?_
        exact ih2 (v3) (u2 Ia2 (1060) ((x2_2).toNatClampNeg) (Ia2 (1062) (x2_2).toNatClampNeg)) La2 _ _ ls hI hK (by first | omega | decide) (by rw [u2_ne _ _ _ (by decide)]; exact hca2) (cp_step hcp2 (by decide) hca2 (by omega) (by omega)) (by omega) hM hS (lv_sub hl [0, 1, 2] rfl)
  exact loop2 (_ + 1) (0) I L _ _ ls hI hK (by first | omega | decide) rfl (fun j hj => absurd hj (Nat.not_lt_zero j)) (Nat.lt_succ_self _) hM hS (lv_sub hl [0, 1, 2] rfl)
set_option maxHeartbeats 4000000 in
set_option maxRecDepth 20000 in
theorem V_X10_sees_t (l : Launch) (D : va_G) (A : Nat → Prop) (ad : Nat → Nat) (ns : List Nat) (I : MI) (L : ML) (G : MG) (a0 : Int32) (a1 : Int32) (hJ : SGM ns G) (hI : INV I) : Met l yX10_sees (wd yX10_sees cX10_sees 6 (some .int)) ({ frames := 5, cells := 0, slots := 0, locals := 128 }) (va_Pc [.ref (ad (1000)), .int a0, .int a1] (PM D A ad ns I L G)) (va_Qi (fun r u => ∃ I2 L2, u = (ad, ns, I2, L2, G) ∧ INV I2 ∧ Kp [(1009, 1010), (1045, 1051), (1058, 1059), (1061, 1063), (1066, 1067)] [(1000, 51), (1000, 52), (1000, 53), (1000, 54), (1000, 55), (1000, 56), (1000, 59), (1000, 63)] I I2 ∧ (KM I I2)) (BM D A) A) 0 0 A := by
  refine m_ofW (by decide) (Nat.le_of_ble_eq_true rfl) ?_
  intro p e s m below meth c ls args hC hE hM hA hS hl
  obtain ⟨hx, hb, hml, hown, hts, hr, hlocks, hin⟩ := hC
  have km1 : (-1 : Int32).toInt = -1 := by decide
  have k0 : (0 : Int32).toInt = 0 := by decide
  have k1 : (1 : Int32).toInt = 1 := by decide
  have k8 : (8 : Int32).toInt = 8 := by decide
  have k9 : (9 : Int32).toInt = 9 := by decide
  have hK : Kp [(1009, 1010), (1045, 1051), (1058, 1059), (1061, 1063), (1066, 1067)] [(1000, 51), (1000, 52), (1000, 53), (1000, 54), (1000, 55), (1000, 56), (1000, 59), (1000, 63)] I I := Kp.rf
  have hl : lv_has ls 6 [(0, .ref (ad (1000))), (1, .int (a0)), (2, .int (a1))] := hl
  refine lv_aload_n hx hb dX10_sees_0 rfl (lv_at hl 0 rfl) ?_
  refine lv_iload_n hx hb dX10_sees_1 rfl (lv_at hl 1 rfl) ?_
  refine m_calli (m_runV (1000) (As := [.int (a0)]) (rest := []) hx hb hml hown hts hE hM hS hA ce_X10_isBright tb_1698 (V_X10_isBright l D A ad ns I L G (a0) hJ hI) rfl rfl ⟨Nat.le_of_ble_eq_true rfl, Nat.le_of_ble_eq_true rfl⟩ hJ.1 rfl rfl (by decide) rfl hl.1 rfl (Nat.le_of_ble_eq_true rfl) dX10_sees_2 ⟨Nat.le_of_ble_eq_true rfl, Nat.le_of_ble_eq_true rfl⟩) hS (fun r1 u H locs hw hM hS => ?_)
  obtain ⟨rfl, xr1⟩ := hw
  have hM : Mem D A ad ns I L G H := hM
  refine lv_if_eq (tgt := 16) hx hb dX10_sees_5 (by decide) (fun c2 => ?_) (fun c2 => ?_)
  · have hc2 := c2
    have q2 := q_eq hc2
    refine lv_iconst (v := (-1)) hx hb dX10_sees_16 (by decide) ?_
    exact m_iret hx hb hr hlocks hM hS (Nat.le_of_ble_eq_true rfl) (Nat.le_of_ble_eq_true rfl) ⟨_, _, rfl, hI, hK, EqV.rf⟩ dX10_sees_17
  · have hc2 := c2
    have q2 := q_ne hc2
    refine lv_aload_n hx hb dX10_sees_8 rfl (lv_at hl 0 rfl) ?_
    refine lv_iload_n hx hb dX10_sees_9 rfl (lv_at hl 2 rfl) ?_
    refine m_calli (m_runV (1000) (As := [.int (a1)]) (rest := []) hx hb hml hown hts hE hM hS hA ce_X10_isMirror tb_1462 (V_X10_isMirror l D A ad ns I L G (a1) hJ hI) rfl rfl ⟨Nat.le_of_ble_eq_true rfl, Nat.le_of_ble_eq_true rfl⟩ hJ.1 rfl rfl (by decide) rfl hl.1 rfl (Nat.le_of_ble_eq_true rfl) dX10_sees_10 ⟨Nat.le_of_ble_eq_true rfl, Nat.le_of_ble_eq_true rfl⟩) hS (fun r3 u H locs hw hM hS => ?_)
    obtain ⟨rfl, xr3⟩ := hw
    have hM : Mem D A ad ns I L G H := hM
    have yr3 := bo01 xr3
    have g4 := hI.get 1001 8 (lo := 0) (hi := 24) rfl
    refine lv_if_ne (tgt := 18) hx hb dX10_sees_13 (by decide) (fun c5 => ?_) (fun c5 => ?_)
    · have hc5 := c5
      have q5 := xr3.t hc5
      refine lv_aload_n hx hb dX10_sees_18 rfl (lv_at hl 0 rfl) ?_
      refine lv_iload_n hx hb dX10_sees_19 rfl (lv_at hl 1 rfl) ?_
      refine m_callv (m_runV (1000) (As := [.int (a0)]) (rest := []) hx hb hml hown hts hE hM hS hA ce_X10_shines tb_1640 (V_X10_shines l D A ad ns I L G (a0) hJ hI (by first | omega | decide)) rfl rfl ⟨Nat.le_of_ble_eq_true rfl, Nat.le_of_ble_eq_true rfl⟩ hJ.1 rfl rfl (by decide) rfl hl.1 rfl (Nat.le_of_ble_eq_true rfl) dX10_sees_20 ⟨Nat.le_of_ble_eq_true rfl, Nat.le_of_ble_eq_true rfl⟩) hS (fun u H locs hw hM hS => ?_)
      obtain ⟨I6, L7, rfl, hI, hkI6⟩ := hw
      have hM : Mem D A ad ns I6 L7 G H := hM
      have hK := hK.trans hkI6 rfl
      refine lv_aload_n hx hb dX10_sees_23 rfl (lv_at hl 0 rfl) ?_
      refine m_getr (1000) 50 (1050) hx hb hts hown hE oc10 hM hJ.1 rfl (by decide) rfl (hJ.2 50 (by decide)).2 (by decide) tb_1227 dX10_sees_24 ?_
      refine lv_aload_n hx hb dX10_sees_27 rfl (lv_at hl 0 rfl) ?_
      refine m_getr (1000) 66 (1066) hx hb hts hown hE oc10 hM hJ.1 rfl (by decide) rfl (hJ.2 66 (by decide)).2 (by decide) tb_1243 dX10_sees_28 ?_
      refine m_callv (m_runS (As := [.ref (ad (1050)), .ref (ad (1066))]) (rest := []) hx hb hml hown hts hE hM hS hA ce_X10_copy tb_1723 (V_X10_copy_1050_1066_t l D A ad ns I6 L7 G hJ hI) rfl rfl ⟨Nat.le_of_ble_eq_true rfl, Nat.le_of_ble_eq_true rfl⟩  rfl hl.1 rfl (Nat.le_of_ble_eq_true rfl) dX10_sees_31 ⟨Nat.le_of_ble_eq_true rfl, Nat.le_of_ble_eq_true rfl⟩) hS (fun u H locs hw hM hS => ?_)
      obtain ⟨I8, L9, rfl, hI, hkI8, xI8⟩ := hw
      have hM : Mem D A ad ns I8 L9 G H := hM
      have hK := hK.trans hkI8 rfl
      refine lv_aload_n hx hb dX10_sees_34 rfl (lv_at hl 0 rfl) ?_
      refine m_getr (1000) 9 (1009) hx hb hts hown hE oc10 hM hJ.1 rfl (by decide) rfl (hJ.2 9 (by decide)).2 (by decide) tb_1186 dX10_sees_35 ?_
      refine lv_iload_n hx hb dX10_sees_38 rfl (lv_at hl 2 rfl) ?_
      refine m_iald (1009) hx hb hE hM (hJ.2 9 (by decide)).1 rfl (vp_in_iff.mpr (by omega)) dX10_sees_39 ?_
      have z10 : I8 (1009) (a1).toNatClampNeg = I (1009) ((a1).toNatClampNeg) := ((congrFun (hkI8.getA (1009) rfl) ((a1).toNatClampNeg))).trans (congrFun (hkI6.getA (1009) rfl) ((a1).toNatClampNeg))
      rw [z10]
      have hwas : I (1009) ((a1).toNatClampNeg) = live I 9 (a1).toNatClampNeg := rfl
      refine lv_istore_n (lv' := [(3, .int (I (1009) ((a1).toNatClampNeg))), (0, .ref (ad (1000))), (1, .int (a0)), (2, .int (a1))]) hx hb dX10_sees_40 rfl hl (by decide) rfl (fun ls hl => ?_)
      refine lv_aload_n hx hb dX10_sees_41 rfl (lv_at hl 1 rfl) ?_
      refine m_getr (1000) 9 (1009) hx hb hts hown hE oc10 hM hJ.1 rfl (by decide) rfl (hJ.2 9 (by decide)).2 (by decide) tb_1186 dX10_sees_42 ?_
      refine lv_iload_n hx hb dX10_sees_45 rfl (lv_at hl 3 rfl) ?_
      refine lv_iload_n hx hb dX10_sees_46 rfl (lv_at hl 0 rfl) ?_
      refine lv_iconst (v := (1)) hx hb dX10_sees_47 (by decide) ?_
      refine lv_iadd hx hb dX10_sees_48 ?_
      refine lv_topi (fun v11 ev11 => ?_)
      refine lv_bipush (v := (8)) hx hb dX10_sees_49 (by decide) ?_
      refine lv_irem hx hb dX10_sees_51 (by decide) ?_
      refine lv_topi (fun v12 ev12 => ?_)
      refine m_iast (1009) hx hb hE hM hS (hJ.2 9 (by decide)).1 rfl (vp_in_iff.mpr (by omega)) dX10_sees_52 (fun H locs I13 eI13 hM hS => ?_)
      subst eI13
      have hI := hI.putF (n := 1009) (k := ((a1).toNatClampNeg)) (v := v12) rfl
      have hK := hK.put (n := 1009) (k := ((a1).toNatClampNeg)) (v := v12) (by first | rfl | simp [inR])
      refine lv_aload_n hx hb dX10_sees_53 rfl (lv_at hl 1 rfl) ?_
      refine lv_iload_n hx hb dX10_sees_54 rfl (lv_at hl 2 rfl) ?_
      refine m_callv (m_runV (1000) (As := [.int (a0)]) (rest := []) hx hb hml hown hts hE hM hS hA ce_X10_shines tb_1640 (V_X10_shines l D A ad ns (u2 I8 (1009) ((a1).toNatClampNeg) (v12)) L9 G (a0) hJ hI (by first | omega | decide)) rfl rfl ⟨Nat.le_of_ble_eq_true rfl, Nat.le_of_ble_eq_true rfl⟩ hJ.1 rfl rfl (by decide) rfl hl.1 rfl (Nat.le_of_ble_eq_true rfl) dX10_sees_55 ⟨Nat.le_of_ble_eq_true rfl, Nat.le_of_ble_eq_true rfl⟩) hS (fun u H locs hw hM hS => ?_)
      obtain ⟨I14, L15, rfl, hI, hkI14⟩ := hw
      have hM : Mem D A ad ns I14 L15 G H := hM
      have hK := hK.trans hkI14 rfl
      refine lv_aload_n hx hb dX10_sees_58 rfl (lv_at hl 1 rfl) ?_
      refine m_getr (1000) 9 (1009) hx hb hts hown hE oc10 hM hJ.1 rfl (by decide) rfl (hJ.2 9 (by decide)).2 (by decide) tb_1186 dX10_sees_59 ?_
      refine lv_iload_n hx hb dX10_sees_62 rfl (lv_at hl 3 rfl) ?_
      refine lv_iload_n hx hb dX10_sees_63 rfl (lv_at hl 0 rfl) ?_
      refine m_iast (1009) hx hb hE hM hS (hJ.2 9 (by decide)).1 rfl (vp_in_iff.mpr (by omega)) dX10_sees_64 (fun H locs I16 eI16 hM hS => ?_)
      subst eI16
      have hI := hI.putF (n := 1009) (k := ((a1).toNatClampNeg)) (v := I (1009) ((a1).toNatClampNeg)) rfl
      have hK := hK.put (n := 1009) (k := ((a1).toNatClampNeg)) (v := I (1009) ((a1).toNatClampNeg)) (by first | rfl | simp [inR])
      refine lv_iconst (v := (0)) hx hb dX10_sees_65 (by decide) ?_
      refine lv_istore (lv' := [(4, .int (0)), (3, .int (I (1009) ((a1).toNatClampNeg))), (0, .ref (ad (1000))), (1, .int (a0)), (2, .int (a1))]) hx hb dX10_sees_66 hl (by decide) rfl (fun ls hl => ?_)
      refine lv_iconst (v := (0)) hx hb dX10_sees_68 (by decide) ?_
      refine lv_istore (lv' := [(5, .int (0)), (4, .int (0)), (3, .int (I (1009) ((a1).toNatClampNeg))), (0, .ref (ad (1000))), (1, .int (a0)), (2, .int (a1))]) hx hb dX10_sees_69 hl (by decide) rfl (fun ls hl => ?_)
      have loop71 : ∀ (n : Nat) (x5_71 : Int32) (x4_71 : Int32) (Ia71 : MI) (La71 : ML) (H : Heap) (locs : List Loc) (ls : Array Slot), INV Ia71 → Kp [(1009, 1010), (1045, 1051), (1058, 1059), (1061, 1063), (1066, 1067)] [(1000, 51), (1000, 52), (1000, 53), (1000, 54), (1000, 55), (1000, 56), (1000, 59), (1000, 63)] I Ia71 → (0 ≤ x5_71.toInt ∧ x5_71.toInt ≤ 8) → (EqV (live I) (live Ia71)) → (8 - x5_71.toInt).toNat < n → Mem D A ad ns Ia71 La71 G H → va_S A s.heap H locs → lv_has ls 6 [(5, .int (x5_71)), (4, .int (x4_71)), (3, .int (I (1009) ((a1).toNatClampNeg))), (0, .ref (ad (1000))), (1, .int (a0)), (2, .int (a1))] → W p l e ({ frames := 5, cells := 0, slots := 0, locals := 128 } : Room) s m args below meth c H locs 0 0 (MQ below (va_Qi (fun r u => ∃ I2 L2, u = (ad, ns, I2, L2, G) ∧ INV I2 ∧ Kp [(1009, 1010), (1045, 1051), (1058, 1059), (1061, 1063), (1066, 1067)] [(1000, 51), (1000, 52), (1000, 53), (1000, 54), (1000, 55), (1000, 56), (1000, 59), (1000, 63)] I I2 ∧ (KM I I2)) (BM D A) A) args s 0 0 A) (F0 m 71 ls []) := by
        intro n
        induction n with
        | zero =>
          intro x5_71 x4_71 Ia71 La71 H locs ls hI hK hr5_71 hv71 hmu
          exact absurd hmu (Nat.not_lt_zero _)
        | succ n ih71 =>
          intro x5_71 x4_71 Ia71 La71 H locs ls hI hK hr5_71 hv71 hmu71 hM hS hl
          refine lv_iload hx hb dX10_sees_71 (lv_at hl 0 rfl) ?_
          refine lv_aload_n hx hb dX10_sees_73 rfl (lv_at hl 3 rfl) ?_
          refine m_getr (1000) 1 (1001) hx hb hts hown hE oc10 hM hJ.1 rfl (by decide) rfl (hJ.2 1 (by decide)).2 (by decide) tb_1178 dX10_sees_74 ?_
          refine lv_bipush (v := (9)) hx hb dX10_sees_77 (by decide) ?_
          refine m_iald (1001) hx hb hE hM (hJ.2 1 (by decide)).1 rfl (vp_in_iff.mpr (by decide)) dX10_sees_79 ?_
          rw [show (9 : Int32).toNatClampNeg = 9 from rfl]
          have g17 := hI.get (1001) 9 (lo := 0) (hi := 8) rfl
          refine lv_icmp_ge (tgt := 119) hx hb dX10_sees_80 (by decide) (fun c18 => ?_) (fun c18 => ?_)
          · have hc18 := c18
            have q18 := q_le hc18
            refine lv_iload hx hb dX10_sees_119 (lv_at hl 1 rfl) ?_
            exact m_iret hx hb hr hlocks hM hS (Nat.le_of_ble_eq_true rfl) (Nat.le_of_ble_eq_true rfl) ⟨_, _, rfl, hI, hK, hv71⟩ dX10_sees_121
          · have hc18 := c18
            have q18 := q_nle hc18
            refine lv_iload hx hb dX10_sees_83 (lv_at hl 1 rfl) ?_
            refine lv_aload_n hx hb dX10_sees_85 rfl (lv_at hl 3 rfl) ?_
            refine m_getr (1000) 50 (1050) hx hb hts hown hE oc10 hM hJ.1 rfl (by decide) rfl (hJ.2 50 (by decide)).2 (by decide) tb_1227 dX10_sees_86 ?_
            refine lv_iload hx hb dX10_sees_89 (lv_at hl 0 rfl) ?_
            refine m_iald (1050) hx hb hE hM (hJ.2 50 (by decide)).1 rfl (vp_in_iff.mpr (by omega)) dX10_sees_91 ?_
            refine lv_aload_n hx hb dX10_sees_92 rfl (lv_at hl 3 rfl) ?_
            refine m_getr (1000) 66 (1066) hx hb hts hown hE oc10 hM hJ.1 rfl (by decide) rfl (hJ.2 66 (by decide)).2 (by decide) tb_1243 dX10_sees_93 ?_
            refine lv_iload hx hb dX10_sees_96 (lv_at hl 0 rfl) ?_
            refine m_iald (1066) hx hb hE hM (hJ.2 66 (by decide)).1 rfl (vp_in_iff.mpr (by omega)) dX10_sees_98 ?_
            refine lv_icmp_eq (tgt := 109) hx hb dX10_sees_99 (by decide) (fun c19 => ?_) (fun c19 => ?_)
            · have hc19 := c19
              have q19 := q_eq hc19
              refine lv_iconst (v := (0)) hx hb dX10_sees_109 (by decide) ?_
              refine lv_ior hx hb dX10_sees_110 ?_
              refine lv_topi (fun v20 ev20 => ?_)
              refine lv_istore (lv' := [(4, .int (v20)), (5, .int (x5_71)), (3, .int (I (1009) ((a1).toNatClampNeg))), (0, .ref (ad (1000))), (1, .int (a0)), (2, .int (a1))]) hx hb dX10_sees_111 hl (by decide) rfl (fun ls hl => ?_)
              obtain ⟨v21, ev21⟩ : ∃ z : Int32, z = x5_71 + Int32.ofInt (1) := ⟨_, rfl⟩
              have tv21 := a_inc ev21 (by decide) (by omega) (by omega)
              refine lv_iinc (v := v21) (lv' := [(5, .int (v21)), (4, .int (v20)), (3, .int (I (1009) ((a1).toNatClampNeg))), (0, .ref (ad (1000))), (1, .int (a0)), (2, .int (a1))]) hx hb dX10_sees_113 hl (k := 1) rfl ev21.symm (by decide) rfl (fun ls hl => ?_)
              refine lv_goto (tgt := 71) hx hb dX10_sees_116 (by decide) ?_
              exact ih71 (v21) (v20) Ia71 La71 _ _ ls hI hK (by first | omega | decide) hv71 (by omega) hM hS (lv_sub hl [0, 1, 2, 3, 4, 5] rfl)
            · have hc19 := c19
              have q19 := q_ne hc19
              refine lv_iconst (v := (1)) hx hb dX10_sees_102 (by decide) ?_
              refine lv_iload hx hb dX10_sees_103 (lv_at hl 0 rfl) ?_
              refine lv_ishl hx hb dX10_sees_105 ?_
              refine lv_topi (fun v22 ev22 => ?_)
              refine lv_goto (tgt := 110) hx hb dX10_sees_106 (by decide) ?_
              refine lv_ior hx hb dX10_sees_110 ?_
              refine lv_topi (fun v23 ev23 => ?_)
              refine lv_istore (lv' := [(4, .int (v23)), (5, .int (x5_71)), (3, .int (I (1009) ((a1).toNatClampNeg))), (0, .ref (ad (1000))), (1, .int (a0)), (2, .int (a1))]) hx hb dX10_sees_111 hl (by decide) rfl (fun ls hl => ?_)
              obtain ⟨v24, ev24⟩ : ∃ z : Int32, z = x5_71 + Int32.ofInt (1) := ⟨_, rfl⟩
              have tv24 := a_inc ev24 (by decide) (by omega) (by omega)
              refine lv_iinc (v := v24) (lv' := [(5, .int (v24)), (4, .int (v23)), (3, .int (I (1009) ((a1).toNatClampNeg))), (0, .ref (ad (1000))), (1, .int (a0)), (2, .int (a1))]) hx hb dX10_sees_113 hl (k := 1) rfl ev24.symm (by decide) rfl (fun ls hl => ?_)
              refine lv_goto (tgt := 71) hx hb dX10_sees_116 (by decide) ?_
              exact ih71 (v24) (v23) Ia71 La71 _ _ ls hI hK (by first | omega | decide) hv71 (by omega) hM hS (lv_sub hl [0, 1, 2, 3, 4, 5] rfl)
      exact loop71 (_ + 1) (0) (0) (u2 I14 (1009) ((a1).toNatClampNeg) (I (1009) ((a1).toNatClampNeg))) L15 _ _ ls hI hK (by first | omega | decide) (EqV.bk (live_st (n := 9) (EqV.tr (live_st (n := 9) (EqV.tr (EqV.tr EqV.rf (live_fr hkI6 rfl)) (live_fr hkI8 rfl))) (live_fr hkI14 rfl))) hwas) (Nat.lt_succ_self _) hM hS (lv_sub hl [0, 1, 2, 3, 4, 5] rfl)
    · have hc5 := c5
      have q5 := xr3.f hc5
      refine lv_iconst (v := (-1)) hx hb dX10_sees_16 (by decide) ?_
      exact m_iret hx hb hr hlocks hM hS (Nat.le_of_ble_eq_true rfl) (Nat.le_of_ble_eq_true rfl) ⟨_, _, rfl, hI, hK, EqV.rf⟩ dX10_sees_17
set_option maxHeartbeats 4000000 in
set_option maxRecDepth 20000 in
theorem V_X10_worth_t (l : Launch) (D : va_G) (A : Nat → Prop) (ad : Nat → Nat) (ns : List Nat) (I : MI) (L : ML) (G : MG) (a0 : Int32) (a1 : Int32) (hJ : SGM ns G) (hI : INV I) : Met l yX10_worth (wd yX10_worth cX10_worth 5 (some .int)) ({ frames := 5, cells := 0, slots := 0, locals := 128 }) (va_Pc [.ref (ad (1000)), .int a0, .int a1] (PM D A ad ns I L G)) (va_Qi (fun r u => ∃ I2 L2, u = (ad, ns, I2, L2, G) ∧ INV I2 ∧ Kp [(1015, 1016), (1045, 1051), (1058, 1059), (1061, 1063)] [(1000, 51), (1000, 52), (1000, 53), (1000, 54), (1000, 55), (1000, 56), (1000, 59), (1000, 63)] I I2 ∧ (KM I I2)) (BM D A) A) 0 0 A := by
  refine m_ofW (by decide) (Nat.le_of_ble_eq_true rfl) ?_
  intro p e s m below meth c ls args hC hE hM hA hS hl
  obtain ⟨hx, hb, hml, hown, hts, hr, hlocks, hin⟩ := hC
  have km1000000 : (-1000000 : Int32).toInt = -1000000 := by decide
  have k0 : (0 : Int32).toInt = 0 := by decide
  have k1 : (1 : Int32).toInt = 1 := by decide
  have hK : Kp [(1015, 1016), (1045, 1051), (1058, 1059), (1061, 1063)] [(1000, 51), (1000, 52), (1000, 53), (1000, 54), (1000, 55), (1000, 56), (1000, 59), (1000, 63)] I I := Kp.rf
  have hl : lv_has ls 5 [(0, .ref (ad (1000))), (1, .int (a0)), (2, .int (a1))] := hl
  refine lv_aload_n hx hb dX10_worth_0 rfl (lv_at hl 0 rfl) ?_
  refine lv_iload_n hx hb dX10_worth_1 rfl (lv_at hl 1 rfl) ?_
  refine m_calli (m_runV (1000) (As := [.int (a0)]) (rest := []) hx hb hml hown hts hE hM hS hA ce_X10_isBright tb_1698 (V_X10_isBright l D A ad ns I L G (a0) hJ hI) rfl rfl ⟨Nat.le_of_ble_eq_true rfl, Nat.le_of_ble_eq_true rfl⟩ hJ.1 rfl rfl (by decide) rfl hl.1 rfl (Nat.le_of_ble_eq_true rfl) dX10_worth_2 ⟨Nat.le_of_ble_eq_true rfl, Nat.le_of_ble_eq_true rfl⟩) hS (fun r1 u H locs hw hM hS => ?_)
  obtain ⟨rfl, xr1⟩ := hw
  have hM : Mem D A ad ns I L G H := hM
  refine lv_if_eq (tgt := 16) hx hb dX10_worth_5 (by decide) (fun c2 => ?_) (fun c2 => ?_)
  · have hc2 := c2
    have q2 := q_eq hc2
    refine lv_ldcw (v := (-1000000)) hx hb hown (hts _ tb_1730) dX10_worth_16 ?_
    exact m_iret hx hb hr hlocks hM hS (Nat.le_of_ble_eq_true rfl) (Nat.le_of_ble_eq_true rfl) ⟨_, _, rfl, hI, hK, EqV.rf⟩ dX10_worth_19
  · have hc2 := c2
    have q2 := q_ne hc2
    refine lv_aload_n hx hb dX10_worth_8 rfl (lv_at hl 0 rfl) ?_
    refine lv_iload_n hx hb dX10_worth_9 rfl (lv_at hl 2 rfl) ?_
    refine m_calli (m_runV (1000) (As := [.int (a1)]) (rest := []) hx hb hml hown hts hE hM hS hA ce_X10_isMirror tb_1462 (V_X10_isMirror l D A ad ns I L G (a1) hJ hI) rfl rfl ⟨Nat.le_of_ble_eq_true rfl, Nat.le_of_ble_eq_true rfl⟩ hJ.1 rfl rfl (by decide) rfl hl.1 rfl (Nat.le_of_ble_eq_true rfl) dX10_worth_10 ⟨Nat.le_of_ble_eq_true rfl, Nat.le_of_ble_eq_true rfl⟩) hS (fun r3 u H locs hw hM hS => ?_)
    obtain ⟨rfl, xr3⟩ := hw
    have hM : Mem D A ad ns I L G H := hM
    have yr3 := bo01 xr3
    have g4 := hI.get 1001 8 (lo := 0) (hi := 24) rfl
    refine lv_if_ne (tgt := 20) hx hb dX10_worth_13 (by decide) (fun c5 => ?_) (fun c5 => ?_)
    · have hc5 := c5
      have q5 := xr3.t hc5
      refine lv_aload_n hx hb dX10_worth_20 rfl (lv_at hl 0 rfl) ?_
      refine lv_iload_n hx hb dX10_worth_21 rfl (lv_at hl 1 rfl) ?_
      refine m_callv (m_runV (1000) (As := [.int (a0)]) (rest := []) hx hb hml hown hts hE hM hS hA ce_X10_shines tb_1640 (V_X10_shines l D A ad ns I L G (a0) hJ hI (by first | omega | decide)) rfl rfl ⟨Nat.le_of_ble_eq_true rfl, Nat.le_of_ble_eq_true rfl⟩ hJ.1 rfl rfl (by decide) rfl hl.1 rfl (Nat.le_of_ble_eq_true rfl) dX10_worth_22 ⟨Nat.le_of_ble_eq_true rfl, Nat.le_of_ble_eq_true rfl⟩) hS (fun u H locs hw hM hS => ?_)
      obtain ⟨I6, L7, rfl, hI, hkI6⟩ := hw
      have hM : Mem D A ad ns I6 L7 G H := hM
      have hK := hK.trans hkI6 rfl
      refine lv_aload_n hx hb dX10_worth_25 rfl (lv_at hl 0 rfl) ?_
      refine m_calli (m_runV (1000) (As := []) (rest := []) hx hb hml hown hts hE hM hS hA ce_X10_allGot tb_1707 (V_X10_allGot l D A ad ns I6 L7 G hJ hI) rfl rfl ⟨Nat.le_of_ble_eq_true rfl, Nat.le_of_ble_eq_true rfl⟩ hJ.1 rfl rfl (by decide) rfl hl.1 rfl (Nat.le_of_ble_eq_true rfl) dX10_worth_26 ⟨Nat.le_of_ble_eq_true rfl, Nat.le_of_ble_eq_true rfl⟩) hS (fun r8 u H locs hw hM hS => ?_)
      obtain ⟨rfl, xr8⟩ := hw
      have hM : Mem D A ad ns I6 L7 G H := hM
      refine lv_istore_n (lv' := [(3, .int (r8)), (0, .ref (ad (1000))), (1, .int (a0)), (2, .int (a1))]) hx hb dX10_worth_29 rfl hl (by decide) rfl (fun ls hl => ?_)
      refine lv_aload_n hx hb dX10_worth_30 rfl (lv_at hl 1 rfl) ?_
      refine m_getr (1000) 15 (1015) hx hb hts hown hE oc10 hM hJ.1 rfl (by decide) rfl (hJ.2 15 (by decide)).2 (by decide) tb_1192 dX10_worth_31 ?_
      refine lv_iload_n hx hb dX10_worth_34 rfl (lv_at hl 3 rfl) ?_
      refine m_iald (1015) hx hb hE hM (hJ.2 15 (by decide)).1 rfl (vp_in_iff.mpr (by omega)) dX10_worth_35 ?_
      have z9 : I6 (1015) (a1).toNatClampNeg = I (1015) ((a1).toNatClampNeg) := (congrFun (hkI6.getA (1015) rfl) ((a1).toNatClampNeg))
      rw [z9]
      have hwas : I (1015) ((a1).toNatClampNeg) = live I 15 (a1).toNatClampNeg := rfl
      refine lv_istore (lv' := [(4, .int (I (1015) ((a1).toNatClampNeg))), (3, .int (r8)), (0, .ref (ad (1000))), (1, .int (a0)), (2, .int (a1))]) hx hb dX10_worth_36 hl (by decide) rfl (fun ls hl => ?_)
      refine lv_aload_n hx hb dX10_worth_38 rfl (lv_at hl 2 rfl) ?_
      refine m_getr (1000) 15 (1015) hx hb hts hown hE oc10 hM hJ.1 rfl (by decide) rfl (hJ.2 15 (by decide)).2 (by decide) tb_1192 dX10_worth_39 ?_
      refine lv_iload_n hx hb dX10_worth_42 rfl (lv_at hl 4 rfl) ?_
      refine lv_iconst (v := (1)) hx hb dX10_worth_43 (by decide) ?_
      refine m_iast (1015) hx hb hE hM hS (hJ.2 15 (by decide)).1 rfl (vp_in_iff.mpr (by omega)) dX10_worth_44 (fun H locs I10 eI10 hM hS => ?_)
      subst eI10
      have hI := hI.putF (n := 1015) (k := ((a1).toNatClampNeg)) (v := 1) rfl
      have hK := hK.put (n := 1015) (k := ((a1).toNatClampNeg)) (v := 1) (by first | rfl | simp [inR])
      refine lv_aload_n hx hb dX10_worth_45 rfl (lv_at hl 2 rfl) ?_
      refine lv_iload_n hx hb dX10_worth_46 rfl (lv_at hl 3 rfl) ?_
      refine m_callv (m_runV (1000) (As := [.int (a0)]) (rest := []) hx hb hml hown hts hE hM hS hA ce_X10_shines tb_1640 (V_X10_shines l D A ad ns (u2 I6 (1015) ((a1).toNatClampNeg) (1)) L7 G (a0) hJ hI (by first | omega | decide)) rfl rfl ⟨Nat.le_of_ble_eq_true rfl, Nat.le_of_ble_eq_true rfl⟩ hJ.1 rfl rfl (by decide) rfl hl.1 rfl (Nat.le_of_ble_eq_true rfl) dX10_worth_47 ⟨Nat.le_of_ble_eq_true rfl, Nat.le_of_ble_eq_true rfl⟩) hS (fun u H locs hw hM hS => ?_)
      obtain ⟨I11, L12, rfl, hI, hkI11⟩ := hw
      have hM : Mem D A ad ns I11 L12 G H := hM
      have hK := hK.trans hkI11 rfl
      refine lv_aload_n hx hb dX10_worth_50 rfl (lv_at hl 2 rfl) ?_
      refine m_getr (1000) 15 (1015) hx hb hts hown hE oc10 hM hJ.1 rfl (by decide) rfl (hJ.2 15 (by decide)).2 (by decide) tb_1192 dX10_worth_51 ?_
      refine lv_iload_n hx hb dX10_worth_54 rfl (lv_at hl 4 rfl) ?_
      refine lv_iload hx hb dX10_worth_55 (lv_at hl 0 rfl) ?_
      refine m_iast (1015) hx hb hE hM hS (hJ.2 15 (by decide)).1 rfl (vp_in_iff.mpr (by omega)) dX10_worth_57 (fun H locs I13 eI13 hM hS => ?_)
      subst eI13
      have hI := hI.putF (n := 1015) (k := ((a1).toNatClampNeg)) (v := I (1015) ((a1).toNatClampNeg)) rfl
      have hK := hK.put (n := 1015) (k := ((a1).toNatClampNeg)) (v := I (1015) ((a1).toNatClampNeg)) (by first | rfl | simp [inR])
      refine lv_iload_n hx hb dX10_worth_58 rfl (lv_at hl 1 rfl) ?_
      refine lv_aload_n hx hb dX10_worth_59 rfl (lv_at hl 2 rfl) ?_
      refine m_calli (m_runV (1000) (As := []) (rest := [.int (r8)]) hx hb hml hown hts hE hM hS hA ce_X10_allGot tb_1707 (V_X10_allGot l D A ad ns (u2 I11 (1015) ((a1).toNatClampNeg) (I (1015) ((a1).toNatClampNeg))) L12 G hJ hI) rfl rfl ⟨Nat.le_of_ble_eq_true rfl, Nat.le_of_ble_eq_true rfl⟩ hJ.1 rfl rfl (by decide) rfl hl.1 rfl (Nat.le_of_ble_eq_true rfl) dX10_worth_60 ⟨Nat.le_of_ble_eq_true rfl, Nat.le_of_ble_eq_true rfl⟩) hS (fun r14 u H locs hw hM hS => ?_)
      obtain ⟨rfl, xr14⟩ := hw
      have hM : Mem D A ad ns (u2 I11 (1015) ((a1).toNatClampNeg) (I (1015) ((a1).toNatClampNeg))) L12 G H := hM
      refine lv_isub hx hb dX10_worth_63 ?_
      refine lv_topi (fun v15 ev15 => ?_)
      exact m_iret hx hb hr hlocks hM hS (Nat.le_of_ble_eq_true rfl) (Nat.le_of_ble_eq_true rfl) ⟨_, _, rfl, hI, hK, (EqV.bk (live_st (n := 15) (EqV.tr (live_st (n := 15) (EqV.tr EqV.rf (live_fr hkI6 rfl))) (live_fr hkI11 rfl))) hwas)⟩ dX10_worth_64
    · have hc5 := c5
      have q5 := xr3.f hc5
      refine lv_ldcw (v := (-1000000)) hx hb hown (hts _ tb_1730) dX10_worth_16 ?_
      exact m_iret hx hb hr hlocks hM hS (Nat.le_of_ble_eq_true rfl) (Nat.le_of_ble_eq_true rfl) ⟨_, _, rfl, hI, hK, EqV.rf⟩ dX10_worth_19
def TRM (n k : Nat) (I J : MI) : Prop := ∃ d, EqV (stV (live I) n k d) (live J)
theorem TRM.rf {n k : Nat} {I J : MI} (h : EqV (live I) (live J)) : TRM n k I J := ⟨live I n k, h.of (stV_same (V := live I) rfl).symm⟩
theorem TRM.step {n k : Nat} {I J J2 : MI} {d : Int32} (h : TRM n k I J) (h2 : EqV (stV (live J) n k d) (live J2)) : TRM n k I J2 := by
  obtain ⟨e, he⟩ := h
  exact ⟨d, (he.st h2).of (stV_two (V := live I))⟩
theorem TRM.fin {n k : Nat} {I J J2 : MI} {d : Int32} (h : TRM n k I J) (h2 : EqV (stV (live J) n k d) (live J2)) (e : d = live I n k) : KM I J2 := by
  obtain ⟨x, hx⟩ := h
  exact (hx.st h2).bk e
set_option maxHeartbeats 4000000 in
set_option maxRecDepth 20000 in
theorem V_X10_dusty_t (l : Launch) (D : va_G) (A : Nat → Prop) (ad : Nat → Nat) (ns : List Nat) (I : MI) (L : ML) (G : MG) (a0 : Int32) (a1 : Int32) (a2 : Int32) (a3 : Int32) (hJ : SGM ns G) (hI : INV I) : Met l yX10_dusty (wd yX10_dusty cX10_dusty 8 (some .int)) ({ frames := 5, cells := 0, slots := 0, locals := 128 }) (va_Pc [.ref (ad (1000)), .int a0, .int a1, .int a2, .int a3] (PM D A ad ns I L G)) (va_Qi (fun r u => ∃ I2 L2, u = (ad, ns, I2, L2, G) ∧ INV I2 ∧ Kp [(1014, 1015), (1045, 1051), (1058, 1059), (1061, 1063)] [(1000, 51), (1000, 52), (1000, 53), (1000, 54), (1000, 55), (1000, 56), (1000, 59), (1000, 63)] I I2 ∧ (KM I I2)) (BM D A) A) 0 0 A := by
  refine m_ofW (by decide) (Nat.le_of_ble_eq_true rfl) ?_
  intro p e s m below meth c ls args hC hE hM hA hS hl
  obtain ⟨hx, hb, hml, hown, hts, hr, hlocks, hin⟩ := hC
  have km2 : (-2 : Int32).toInt = -2 := by decide
  have km1 : (-1 : Int32).toInt = -1 := by decide
  have k0 : (0 : Int32).toInt = 0 := by decide
  have k1000 : (1000 : Int32).toInt = 1000 := by decide
  have kl0 : (0 : Int64).toInt = 0 := by decide
  have kl9999999 : (9999999 : Int64).toInt = 9999999 := by decide
  have hK : Kp [(1014, 1015), (1045, 1051), (1058, 1059), (1061, 1063)] [(1000, 51), (1000, 52), (1000, 53), (1000, 54), (1000, 55), (1000, 56), (1000, 59), (1000, 63)] I I := Kp.rf
  have hl : lv_has ls 8 [(0, .ref (ad (1000))), (1, .int (a0)), (2, .int (a1)), (3, .int (a2)), (4, .int (a3))] := hl
  refine lv_aload_n hx hb dX10_dusty_0 rfl (lv_at hl 0 rfl) ?_
  refine lv_iload_n hx hb dX10_dusty_1 rfl (lv_at hl 1 rfl) ?_
  refine m_calli (m_runV (1000) (As := [.int (a0)]) (rest := []) hx hb hml hown hts hE hM hS hA ce_X10_isBright tb_1698 (V_X10_isBright l D A ad ns I L G (a0) hJ hI) rfl rfl ⟨Nat.le_of_ble_eq_true rfl, Nat.le_of_ble_eq_true rfl⟩ hJ.1 rfl rfl (by decide) rfl hl.1 rfl (Nat.le_of_ble_eq_true rfl) dX10_dusty_2 ⟨Nat.le_of_ble_eq_true rfl, Nat.le_of_ble_eq_true rfl⟩) hS (fun r1 u H locs hw hM hS => ?_)
  obtain ⟨rfl, xr1⟩ := hw
  have hM : Mem D A ad ns I L G H := hM
  refine lv_if_eq (tgt := 37) hx hb dX10_dusty_5 (by decide) (fun c2 => ?_) (fun c2 => ?_)
  · have hc2 := c2
    have q2 := q_eq hc2
    refine lv_iconst (v := (-1)) hx hb dX10_dusty_37 (by decide) ?_
    exact m_iret hx hb hr hlocks hM hS (Nat.le_of_ble_eq_true rfl) (Nat.le_of_ble_eq_true rfl) ⟨_, _, rfl, hI, hK, EqV.rf⟩ dX10_dusty_38
  · have hc2 := c2
    have q2 := q_ne hc2
    refine lv_aload_n hx hb dX10_dusty_8 rfl (lv_at hl 0 rfl) ?_
    refine lv_iload_n hx hb dX10_dusty_9 rfl (lv_at hl 2 rfl) ?_
    refine m_calli (m_runV (1000) (As := [.int (a1)]) (rest := []) hx hb hml hown hts hE hM hS hA ce_X10_isMirror tb_1462 (V_X10_isMirror l D A ad ns I L G (a1) hJ hI) rfl rfl ⟨Nat.le_of_ble_eq_true rfl, Nat.le_of_ble_eq_true rfl⟩ hJ.1 rfl rfl (by decide) rfl hl.1 rfl (Nat.le_of_ble_eq_true rfl) dX10_dusty_10 ⟨Nat.le_of_ble_eq_true rfl, Nat.le_of_ble_eq_true rfl⟩) hS (fun r3 u H locs hw hM hS => ?_)
    obtain ⟨rfl, xr3⟩ := hw
    have hM : Mem D A ad ns I L G H := hM
    have yr3 := bo01 xr3
    have g4 := hI.get 1001 8 (lo := 0) (hi := 24) rfl
    refine lv_if_eq (tgt := 37) hx hb dX10_dusty_13 (by decide) (fun c5 => ?_) (fun c5 => ?_)
    · have hc5 := c5
      have q5 := xr3.f hc5
      refine lv_iconst (v := (-1)) hx hb dX10_dusty_37 (by decide) ?_
      exact m_iret hx hb hr hlocks hM hS (Nat.le_of_ble_eq_true rfl) (Nat.le_of_ble_eq_true rfl) ⟨_, _, rfl, hI, hK, EqV.rf⟩ dX10_dusty_38
    · have hc5 := c5
      have q5 := xr3.t hc5
      refine lv_aload_n hx hb dX10_dusty_16 rfl (lv_at hl 0 rfl) ?_
      refine lv_iload_n hx hb dX10_dusty_17 rfl (lv_at hl 3 rfl) ?_
      refine m_calli (m_runV (1000) (As := [.int (a2)]) (rest := []) hx hb hml hown hts hE hM hS hA ce_X10_isYard tb_1686 (V_X10_isYard l D A ad ns I L G (a2) hJ hI) rfl rfl ⟨Nat.le_of_ble_eq_true rfl, Nat.le_of_ble_eq_true rfl⟩ hJ.1 rfl rfl (by decide) rfl hl.1 rfl (Nat.le_of_ble_eq_true rfl) dX10_dusty_18 ⟨Nat.le_of_ble_eq_true rfl, Nat.le_of_ble_eq_true rfl⟩) hS (fun r6 u H locs hw hM hS => ?_)
      obtain ⟨rfl, xr6⟩ := hw
      have hM : Mem D A ad ns I L G H := hM
      have yr6 := bo01 xr6
      have g7 := hI.get 1001 9 (lo := 0) (hi := 8) rfl
      refine lv_if_eq (tgt := 37) hx hb dX10_dusty_21 (by decide) (fun c8 => ?_) (fun c8 => ?_)
      · have hc8 := c8
        have q8 := xr6.f hc8
        refine lv_iconst (v := (-1)) hx hb dX10_dusty_37 (by decide) ?_
        exact m_iret hx hb hr hlocks hM hS (Nat.le_of_ble_eq_true rfl) (Nat.le_of_ble_eq_true rfl) ⟨_, _, rfl, hI, hK, EqV.rf⟩ dX10_dusty_38
      · have hc8 := c8
        have q8 := xr6.t hc8
        refine lv_iload hx hb dX10_dusty_24 (lv_at hl 4 rfl) ?_
        refine lv_i2l hx hb dX10_dusty_26 rfl ?_
        refine lv_topl (fun v9 ev9 => ?_)
        have tv9 := q_i2l ev9
        refine lv_lconst (v := 0) hx hb dX10_dusty_27 (by decide) ?_
        refine lv_ldc2 (v := (9999999)) hx hb hown (hts _ tb_1472) dX10_dusty_28 ?_
        refine m_calli (m_runS (As := [.long (v9), .long (0), .long ((9999999 : Int64))]) (rest := []) hx hb hml hown hts hE hM hS hA ce_X10_in tb_1425 (V_X10_in l D A ad ns I L G (v9) (0) ((9999999 : Int64)) hI) rfl rfl ⟨Nat.le_of_ble_eq_true rfl, Nat.le_of_ble_eq_true rfl⟩  rfl hl.1 rfl (Nat.le_of_ble_eq_true rfl) dX10_dusty_31 ⟨Nat.le_of_ble_eq_true rfl, Nat.le_of_ble_eq_true rfl⟩) hS (fun r10 u H locs hw hM hS => ?_)
        obtain ⟨rfl, xr10⟩ := hw
        have hM : Mem D A ad ns I L G H := hM
        have yr10 := bo01 xr10
        refine lv_if_ne (tgt := 39) hx hb dX10_dusty_34 (by decide) (fun c11 => ?_) (fun c11 => ?_)
        · have hc11 := c11
          have q11 := xr10.t hc11
          refine lv_aload_n hx hb dX10_dusty_39 rfl (lv_at hl 0 rfl) ?_
          refine m_getr (1000) 14 (1014) hx hb hts hown hE oc10 hM hJ.1 rfl (by decide) rfl (hJ.2 14 (by decide)).2 (by decide) tb_1191 dX10_dusty_40 ?_
          refine lv_iload_n hx hb dX10_dusty_43 rfl (lv_at hl 2 rfl) ?_
          refine m_iald (1014) hx hb hE hM (hJ.2 14 (by decide)).1 rfl (vp_in_iff.mpr (by omega)) dX10_dusty_44 ?_
          have hwas : I (1014) (a1).toNatClampNeg = live I 14 (a1).toNatClampNeg := rfl
          refine lv_istore (lv' := [(5, .int (I (1014) (a1).toNatClampNeg)), (0, .ref (ad (1000))), (1, .int (a0)), (2, .int (a1)), (3, .int (a2)), (4, .int (a3))]) hx hb dX10_dusty_45 hl (by decide) rfl (fun ls hl => ?_)
          refine lv_bipush (v := (-2)) hx hb dX10_dusty_47 (by decide) ?_
          refine lv_istore (lv' := [(6, .int ((-2 : Int32))), (5, .int (I (1014) (a1).toNatClampNeg)), (0, .ref (ad (1000))), (1, .int (a0)), (2, .int (a1)), (3, .int (a2)), (4, .int (a3))]) hx hb dX10_dusty_49 hl (by decide) rfl (fun ls hl => ?_)
          refine lv_iconst (v := (0)) hx hb dX10_dusty_51 (by decide) ?_
          refine lv_istore (lv' := [(7, .int (0)), (6, .int ((-2 : Int32))), (5, .int (I (1014) (a1).toNatClampNeg)), (0, .ref (ad (1000))), (1, .int (a0)), (2, .int (a1)), (3, .int (a2)), (4, .int (a3))]) hx hb dX10_dusty_52 hl (by decide) rfl (fun ls hl => ?_)
          have loop54 : ∀ (n : Nat) (x7_54 : Int32) (x6_54 : Int32) (Ia54 : MI) (La54 : ML) (H : Heap) (locs : List Loc) (ls : Array Slot), INV Ia54 → Kp [(1014, 1015), (1045, 1051), (1058, 1059), (1061, 1063)] [(1000, 51), (1000, 52), (1000, 53), (1000, 54), (1000, 55), (1000, 56), (1000, 59), (1000, 63)] I Ia54 → (0 ≤ x7_54.toInt ∧ x7_54.toInt ≤ 1001) → (TRM 14 (a1).toNatClampNeg I Ia54) → (1001 - x7_54.toInt).toNat < n → Mem D A ad ns Ia54 La54 G H → va_S A s.heap H locs → lv_has ls 8 [(7, .int (x7_54)), (6, .int (x6_54)), (5, .int (I (1014) (a1).toNatClampNeg)), (0, .ref (ad (1000))), (1, .int (a0)), (2, .int (a1)), (3, .int (a2)), (4, .int (a3))] → W p l e ({ frames := 5, cells := 0, slots := 0, locals := 128 } : Room) s m args below meth c H locs 0 0 (MQ below (va_Qi (fun r u => ∃ I2 L2, u = (ad, ns, I2, L2, G) ∧ INV I2 ∧ Kp [(1014, 1015), (1045, 1051), (1058, 1059), (1061, 1063)] [(1000, 51), (1000, 52), (1000, 53), (1000, 54), (1000, 55), (1000, 56), (1000, 59), (1000, 63)] I I2 ∧ (KM I I2)) (BM D A) A) args s 0 0 A) (F0 m 54 ls []) := by
            intro n
            induction n with
            | zero =>
              intro x7_54 x6_54 Ia54 La54 H locs ls hI hK hr7_54 hd54 hmu
              exact absurd hmu (Nat.not_lt_zero _)
            | succ n ih54 =>
              intro x7_54 x6_54 Ia54 La54 H locs ls hI hK hr7_54 hd54 hmu54 hM hS hl
              refine lv_iload hx hb dX10_dusty_54 (lv_at hl 0 rfl) ?_
              refine lv_sipush (v := (1000)) hx hb dX10_dusty_56 (by decide) ?_
              refine lv_icmp_gt (tgt := 108) hx hb dX10_dusty_59 (by decide) (fun c12 => ?_) (fun c12 => ?_)
              · have hc12 := c12
                have q12 := q_lt hc12
                refine lv_aload_n hx hb dX10_dusty_108 rfl (lv_at hl 3 rfl) ?_
                refine m_getr (1000) 14 (1014) hx hb hts hown hE oc10 hM hJ.1 rfl (by decide) rfl (hJ.2 14 (by decide)).2 (by decide) tb_1191 dX10_dusty_109 ?_
                refine lv_iload_n hx hb dX10_dusty_112 rfl (lv_at hl 5 rfl) ?_
                refine lv_iload hx hb dX10_dusty_113 (lv_at hl 2 rfl) ?_
                refine m_iast (1014) hx hb hE hM hS (hJ.2 14 (by decide)).1 rfl (vp_in_iff.mpr (by omega)) dX10_dusty_115 (fun H locs I13 eI13 hM hS => ?_)
                subst eI13
                have hI := hI.putF (n := 1014) (k := ((a1).toNatClampNeg)) (v := I (1014) (a1).toNatClampNeg) rfl
                have hK := hK.put (n := 1014) (k := ((a1).toNatClampNeg)) (v := I (1014) (a1).toNatClampNeg) (by first | rfl | simp [inR])
                refine lv_iload hx hb dX10_dusty_116 (lv_at hl 1 rfl) ?_
                exact m_iret hx hb hr hlocks hM hS (Nat.le_of_ble_eq_true rfl) (Nat.le_of_ble_eq_true rfl) ⟨_, _, rfl, hI, hK, (TRM.fin hd54 (live_st (n := 14) EqV.rf) hwas)⟩ dX10_dusty_118
              · have hc12 := c12
                have q12 := q_nlt hc12
                refine lv_iload hx hb dX10_dusty_62 (lv_at hl 1 rfl) ?_
                refine lv_bipush (v := (-2)) hx hb dX10_dusty_64 (by decide) ?_
                refine lv_icmp_ne (tgt := 108) hx hb dX10_dusty_66 (by decide) (fun c14 => ?_) (fun c14 => ?_)
                · have hc14 := c14
                  have q14 := q_ne hc14
                  refine lv_aload_n hx hb dX10_dusty_108 rfl (lv_at hl 3 rfl) ?_
                  refine m_getr (1000) 14 (1014) hx hb hts hown hE oc10 hM hJ.1 rfl (by decide) rfl (hJ.2 14 (by decide)).2 (by decide) tb_1191 dX10_dusty_109 ?_
                  refine lv_iload_n hx hb dX10_dusty_112 rfl (lv_at hl 5 rfl) ?_
                  refine lv_iload hx hb dX10_dusty_113 (lv_at hl 2 rfl) ?_
                  refine m_iast (1014) hx hb hE hM hS (hJ.2 14 (by decide)).1 rfl (vp_in_iff.mpr (by omega)) dX10_dusty_115 (fun H locs I15 eI15 hM hS => ?_)
                  subst eI15
                  have hI := hI.putF (n := 1014) (k := ((a1).toNatClampNeg)) (v := I (1014) (a1).toNatClampNeg) rfl
                  have hK := hK.put (n := 1014) (k := ((a1).toNatClampNeg)) (v := I (1014) (a1).toNatClampNeg) (by first | rfl | simp [inR])
                  refine lv_iload hx hb dX10_dusty_116 (lv_at hl 1 rfl) ?_
                  exact m_iret hx hb hr hlocks hM hS (Nat.le_of_ble_eq_true rfl) (Nat.le_of_ble_eq_true rfl) ⟨_, _, rfl, hI, hK, (TRM.fin hd54 (live_st (n := 14) EqV.rf) hwas)⟩ dX10_dusty_118
                · have hc14 := c14
                  have q14 := q_eq hc14
                  refine lv_aload_n hx hb dX10_dusty_69 rfl (lv_at hl 3 rfl) ?_
                  refine m_getr (1000) 14 (1014) hx hb hts hown hE oc10 hM hJ.1 rfl (by decide) rfl (hJ.2 14 (by decide)).2 (by decide) tb_1191 dX10_dusty_70 ?_
                  refine lv_iload_n hx hb dX10_dusty_73 rfl (lv_at hl 5 rfl) ?_
                  refine lv_iload hx hb dX10_dusty_74 (lv_at hl 0 rfl) ?_
                  refine m_iast (1014) hx hb hE hM hS (hJ.2 14 (by decide)).1 rfl (vp_in_iff.mpr (by omega)) dX10_dusty_76 (fun H locs I16 eI16 hM hS => ?_)
                  subst eI16
                  have hI := hI.putF (n := 1014) (k := ((a1).toNatClampNeg)) (v := x7_54) rfl
                  have hK := hK.put (n := 1014) (k := ((a1).toNatClampNeg)) (v := x7_54) (by first | rfl | simp [inR])
                  refine lv_aload_n hx hb dX10_dusty_77 rfl (lv_at hl 3 rfl) ?_
                  refine lv_iload_n hx hb dX10_dusty_78 rfl (lv_at hl 4 rfl) ?_
                  refine m_callv (m_runV (1000) (As := [.int (a0)]) (rest := []) hx hb hml hown hts hE hM hS hA ce_X10_shines tb_1640 (V_X10_shines l D A ad ns (u2 Ia54 (1014) ((a1).toNatClampNeg) (x7_54)) La54 G (a0) hJ hI (by first | omega | decide)) rfl rfl ⟨Nat.le_of_ble_eq_true rfl, Nat.le_of_ble_eq_true rfl⟩ hJ.1 rfl rfl (by decide) rfl hl.1 rfl (Nat.le_of_ble_eq_true rfl) dX10_dusty_79 ⟨Nat.le_of_ble_eq_true rfl, Nat.le_of_ble_eq_true rfl⟩) hS (fun u H locs hw hM hS => ?_)
                  obtain ⟨I17, L18, rfl, hI, hkI17⟩ := hw
                  have hM : Mem D A ad ns I17 L18 G H := hM
                  have hK := hK.trans hkI17 rfl
                  refine lv_aload_n hx hb dX10_dusty_82 rfl (lv_at hl 3 rfl) ?_
                  refine m_getr (1000) 50 (1050) hx hb hts hown hE oc10 hM hJ.1 rfl (by decide) rfl (hJ.2 50 (by decide)).2 (by decide) tb_1227 dX10_dusty_83 ?_
                  refine lv_iload_n hx hb dX10_dusty_86 rfl (lv_at hl 6 rfl) ?_
                  refine m_iald (1050) hx hb hE hM (hJ.2 50 (by decide)).1 rfl (vp_in_iff.mpr (by omega)) dX10_dusty_87 ?_
                  refine lv_iload hx hb dX10_dusty_88 (lv_at hl 7 rfl) ?_
                  refine lv_icmp_gt (tgt := 98) hx hb dX10_dusty_90 (by decide) (fun c19 => ?_) (fun c19 => ?_)
                  · have hc19 := c19
                    have q19 := q_lt hc19
                    refine lv_bipush (v := (-2)) hx hb dX10_dusty_98 (by decide) ?_
                    refine lv_istore (lv' := [(6, .int ((-2 : Int32))), (7, .int (x7_54)), (5, .int (I (1014) (a1).toNatClampNeg)), (0, .ref (ad (1000))), (1, .int (a0)), (2, .int (a1)), (3, .int (a2)), (4, .int (a3))]) hx hb dX10_dusty_100 hl (by decide) rfl (fun ls hl => ?_)
                    obtain ⟨v20, ev20⟩ : ∃ z : Int32, z = x7_54 + Int32.ofInt (1) := ⟨_, rfl⟩
                    have tv20 := a_inc ev20 (by decide) (by omega) (by omega)
                    refine lv_iinc (v := v20) (lv' := [(7, .int (v20)), (6, .int ((-2 : Int32))), (5, .int (I (1014) (a1).toNatClampNeg)), (0, .ref (ad (1000))), (1, .int (a0)), (2, .int (a1)), (3, .int (a2)), (4, .int (a3))]) hx hb dX10_dusty_102 hl (k := 1) rfl ev20.symm (by decide) rfl (fun ls hl => ?_)
                    refine lv_goto (tgt := 54) hx hb dX10_dusty_105 (by decide) ?_
                    exact ih54 (v20) ((-2 : Int32)) I17 L18 _ _ ls hI hK (by first | omega | decide) (hd54.step (EqV.tr (live_st (n := 14) EqV.rf) (live_fr hkI17 rfl))) (by omega) hM hS (lv_sub hl [0, 1, 2, 3, 4, 5, 6, 7] rfl)
                  · have hc19 := c19
                    have q19 := q_nlt hc19
                    refine lv_iload hx hb dX10_dusty_93 (lv_at hl 0 rfl) ?_
                    refine lv_goto (tgt := 100) hx hb dX10_dusty_95 (by decide) ?_
                    refine lv_istore (lv' := [(6, .int (x7_54)), (7, .int (x7_54)), (5, .int (I (1014) (a1).toNatClampNeg)), (0, .ref (ad (1000))), (1, .int (a0)), (2, .int (a1)), (3, .int (a2)), (4, .int (a3))]) hx hb dX10_dusty_100 hl (by decide) rfl (fun ls hl => ?_)
                    obtain ⟨v21, ev21⟩ : ∃ z : Int32, z = x7_54 + Int32.ofInt (1) := ⟨_, rfl⟩
                    have tv21 := a_inc ev21 (by decide) (by omega) (by omega)
                    refine lv_iinc (v := v21) (lv' := [(7, .int (v21)), (6, .int (x7_54)), (5, .int (I (1014) (a1).toNatClampNeg)), (0, .ref (ad (1000))), (1, .int (a0)), (2, .int (a1)), (3, .int (a2)), (4, .int (a3))]) hx hb dX10_dusty_102 hl (k := 1) rfl ev21.symm (by decide) rfl (fun ls hl => ?_)
                    refine lv_goto (tgt := 54) hx hb dX10_dusty_105 (by decide) ?_
                    exact ih54 (v21) (x7_54) I17 L18 _ _ ls hI hK (by first | omega | decide) (hd54.step (EqV.tr (live_st (n := 14) EqV.rf) (live_fr hkI17 rfl))) (by omega) hM hS (lv_sub hl [0, 1, 2, 3, 4, 5, 6, 7] rfl)
          exact loop54 (_ + 1) (0) ((-2 : Int32)) I L _ _ ls hI hK (by first | omega | decide) (TRM.rf EqV.rf) (Nat.lt_succ_self _) hM hS (lv_sub hl [0, 1, 2, 3, 4, 5, 6, 7] rfl)
        · have hc11 := c11
          have q11 := xr10.f hc11
          refine lv_iconst (v := (-1)) hx hb dX10_dusty_37 (by decide) ?_
          exact m_iret hx hb hr hlocks hM hS (Nat.le_of_ble_eq_true rfl) (Nat.le_of_ble_eq_true rfl) ⟨_, _, rfl, hI, hK, EqV.rf⟩ dX10_dusty_38
set_option maxHeartbeats 4000000 in
set_option maxRecDepth 20000 in
theorem V_X10_owned_t (l : Launch) (D : va_G) (A : Nat → Prop) (ad : Nat → Nat) (ns : List Nat) (I : MI) (L : ML) (G : MG) (a0 : Int32) (a1 : Int32) (hJ : SGM ns G) (hI : INV I) : Met l yX10_owned (wd yX10_owned cX10_owned 5 (some .int)) ({ frames := 5, cells := 0, slots := 0, locals := 128 }) (va_Pc [.ref (ad (1000)), .int a0, .int a1] (PM D A ad ns I L G)) (va_Qi (fun r u => ∃ I2 L2, u = (ad, ns, I2, L2, G) ∧ INV I2 ∧ Kp [(1015, 1016), (1045, 1051), (1058, 1059), (1061, 1063), (1068, 1069)] [(1000, 51), (1000, 52), (1000, 53), (1000, 54), (1000, 55), (1000, 56), (1000, 59), (1000, 63)] I I2 ∧ (KM I I2)) (BM D A) A) 0 0 A := by
  refine m_ofW (by decide) (Nat.le_of_ble_eq_true rfl) ?_
  intro p e s m below meth c ls args hC hE hM hA hS hl
  obtain ⟨hx, hb, hml, hown, hts, hr, hlocks, hin⟩ := hC
  have km1000000 : (-1000000 : Int32).toInt = -1000000 := by decide
  have k0 : (0 : Int32).toInt = 0 := by decide
  have k1 : (1 : Int32).toInt = 1 := by decide
  have k8 : (8 : Int32).toInt = 8 := by decide
  have kl0 : (0 : Int64).toInt = 0 := by decide
  have kl9 : (9 : Int64).toInt = 9 := by decide
  have hK : Kp [(1015, 1016), (1045, 1051), (1058, 1059), (1061, 1063), (1068, 1069)] [(1000, 51), (1000, 52), (1000, 53), (1000, 54), (1000, 55), (1000, 56), (1000, 59), (1000, 63)] I I := Kp.rf
  have hl : lv_has ls 5 [(0, .ref (ad (1000))), (1, .int (a0)), (2, .int (a1))] := hl
  refine lv_aload_n hx hb dX10_owned_0 rfl (lv_at hl 0 rfl) ?_
  refine lv_iload_n hx hb dX10_owned_1 rfl (lv_at hl 1 rfl) ?_
  refine m_calli (m_runV (1000) (As := [.int (a0)]) (rest := []) hx hb hml hown hts hE hM hS hA ce_X10_isBright tb_1698 (V_X10_isBright l D A ad ns I L G (a0) hJ hI) rfl rfl ⟨Nat.le_of_ble_eq_true rfl, Nat.le_of_ble_eq_true rfl⟩ hJ.1 rfl rfl (by decide) rfl hl.1 rfl (Nat.le_of_ble_eq_true rfl) dX10_owned_2 ⟨Nat.le_of_ble_eq_true rfl, Nat.le_of_ble_eq_true rfl⟩) hS (fun r1 u H locs hw hM hS => ?_)
  obtain ⟨rfl, xr1⟩ := hw
  have hM : Mem D A ad ns I L G H := hM
  refine lv_if_eq (tgt := 20) hx hb dX10_owned_5 (by decide) (fun c2 => ?_) (fun c2 => ?_)
  · have hc2 := c2
    have q2 := q_eq hc2
    refine lv_ldcw (v := (-1000000)) hx hb hown (hts _ tb_1730) dX10_owned_20 ?_
    exact m_iret hx hb hr hlocks hM hS (Nat.le_of_ble_eq_true rfl) (Nat.le_of_ble_eq_true rfl) ⟨_, _, rfl, hI, hK, EqV.rf⟩ dX10_owned_23
  · have hc2 := c2
    have q2 := q_ne hc2
    refine lv_iload_n hx hb dX10_owned_8 rfl (lv_at hl 2 rfl) ?_
    refine lv_i2l hx hb dX10_owned_9 rfl ?_
    refine lv_topl (fun v3 ev3 => ?_)
    have tv3 := q_i2l ev3
    refine lv_lconst (v := 0) hx hb dX10_owned_10 (by decide) ?_
    refine lv_ldc2 (v := (9)) hx hb hown (hts _ tb_1457) dX10_owned_11 ?_
    refine m_calli (m_runS (As := [.long (v3), .long (0), .long ((9 : Int64))]) (rest := []) hx hb hml hown hts hE hM hS hA ce_X10_in tb_1425 (V_X10_in l D A ad ns I L G (v3) (0) ((9 : Int64)) hI) rfl rfl ⟨Nat.le_of_ble_eq_true rfl, Nat.le_of_ble_eq_true rfl⟩  rfl hl.1 rfl (Nat.le_of_ble_eq_true rfl) dX10_owned_14 ⟨Nat.le_of_ble_eq_true rfl, Nat.le_of_ble_eq_true rfl⟩) hS (fun r4 u H locs hw hM hS => ?_)
    obtain ⟨rfl, xr4⟩ := hw
    have hM : Mem D A ad ns I L G H := hM
    have yr4 := bo01 xr4
    refine lv_if_ne (tgt := 24) hx hb dX10_owned_17 (by decide) (fun c5 => ?_) (fun c5 => ?_)
    · have hc5 := c5
      have q5 := xr4.t hc5
      refine lv_aload_n hx hb dX10_owned_24 rfl (lv_at hl 0 rfl) ?_
      refine lv_iload_n hx hb dX10_owned_25 rfl (lv_at hl 1 rfl) ?_
      refine m_callv (m_runV (1000) (As := [.int (a0)]) (rest := []) hx hb hml hown hts hE hM hS hA ce_X10_shines tb_1640 (V_X10_shines l D A ad ns I L G (a0) hJ hI (by first | omega | decide)) rfl rfl ⟨Nat.le_of_ble_eq_true rfl, Nat.le_of_ble_eq_true rfl⟩ hJ.1 rfl rfl (by decide) rfl hl.1 rfl (Nat.le_of_ble_eq_true rfl) dX10_owned_26 ⟨Nat.le_of_ble_eq_true rfl, Nat.le_of_ble_eq_true rfl⟩) hS (fun u H locs hw hM hS => ?_)
      obtain ⟨I6, L7, rfl, hI, hkI6⟩ := hw
      have hM : Mem D A ad ns I6 L7 G H := hM
      have hK := hK.trans hkI6 rfl
      refine lv_aload_n hx hb dX10_owned_29 rfl (lv_at hl 0 rfl) ?_
      refine m_calli (m_runV (1000) (As := []) (rest := []) hx hb hml hown hts hE hM hS hA ce_X10_allGot tb_1707 (V_X10_allGot l D A ad ns I6 L7 G hJ hI) rfl rfl ⟨Nat.le_of_ble_eq_true rfl, Nat.le_of_ble_eq_true rfl⟩ hJ.1 rfl rfl (by decide) rfl hl.1 rfl (Nat.le_of_ble_eq_true rfl) dX10_owned_30 ⟨Nat.le_of_ble_eq_true rfl, Nat.le_of_ble_eq_true rfl⟩) hS (fun r8 u H locs hw hM hS => ?_)
      obtain ⟨rfl, xr8⟩ := hw
      have hM : Mem D A ad ns I6 L7 G H := hM
      refine lv_istore_n (lv' := [(3, .int (r8)), (0, .ref (ad (1000))), (1, .int (a0)), (2, .int (a1))]) hx hb dX10_owned_33 rfl hl (by decide) rfl (fun ls hl => ?_)
      refine lv_aload_n hx hb dX10_owned_34 rfl (lv_at hl 1 rfl) ?_
      refine m_getr (1000) 15 (1015) hx hb hts hown hE oc10 hM hJ.1 rfl (by decide) rfl (hJ.2 15 (by decide)).2 (by decide) tb_1192 dX10_owned_35 ?_
      refine lv_aload_n hx hb dX10_owned_38 rfl (lv_at hl 1 rfl) ?_
      refine m_getr (1000) 68 (1068) hx hb hts hown hE oc10 hM hJ.1 rfl (by decide) rfl (hJ.2 68 (by decide)).2 (by decide) tb_1245 dX10_owned_39 ?_
      refine m_callv (m_runS (As := [.ref (ad (1015)), .ref (ad (1068))]) (rest := []) hx hb hml hown hts hE hM hS hA ce_X10_copy tb_1723 (V_X10_copy_1015_1068_t l D A ad ns I6 L7 G hJ hI) rfl rfl ⟨Nat.le_of_ble_eq_true rfl, Nat.le_of_ble_eq_true rfl⟩  rfl hl.1 rfl (Nat.le_of_ble_eq_true rfl) dX10_owned_42 ⟨Nat.le_of_ble_eq_true rfl, Nat.le_of_ble_eq_true rfl⟩) hS (fun u H locs hw hM hS => ?_)
      obtain ⟨I9, L10, rfl, hI, hkI9, xI9⟩ := hw
      have hM : Mem D A ad ns I9 L10 G H := hM
      have hK := hK.trans hkI9 rfl
      refine lv_iconst (v := (0)) hx hb dX10_owned_45 (by decide) ?_
      refine lv_istore (lv' := [(4, .int (0)), (3, .int (r8)), (0, .ref (ad (1000))), (1, .int (a0)), (2, .int (a1))]) hx hb dX10_owned_46 hl (by decide) rfl (fun ls hl => ?_)
      have loop48 : ∀ (n : Nat) (x4_48 : Int32) (Ia48 : MI) (La48 : ML) (H : Heap) (locs : List Loc) (ls : Array Slot), INV Ia48 → Kp [(1015, 1016), (1045, 1051), (1058, 1059), (1061, 1063), (1068, 1069)] [(1000, 51), (1000, 52), (1000, 53), (1000, 54), (1000, 55), (1000, 56), (1000, 59), (1000, 63)] I Ia48 → (0 ≤ x4_48.toInt ∧ x4_48.toInt ≤ 24) → (∀ j : Nat, j < 24 → Ia48 1068 j = I 1015 j) → (24 - x4_48.toInt).toNat < n → Mem D A ad ns Ia48 La48 G H → va_S A s.heap H locs → lv_has ls 5 [(4, .int (x4_48)), (3, .int (r8)), (0, .ref (ad (1000))), (1, .int (a0)), (2, .int (a1))] → W p l e ({ frames := 5, cells := 0, slots := 0, locals := 128 } : Room) s m args below meth c H locs 0 0 (MQ below (va_Qi (fun r u => ∃ I2 L2, u = (ad, ns, I2, L2, G) ∧ INV I2 ∧ Kp [(1015, 1016), (1045, 1051), (1058, 1059), (1061, 1063), (1068, 1069)] [(1000, 51), (1000, 52), (1000, 53), (1000, 54), (1000, 55), (1000, 56), (1000, 59), (1000, 63)] I I2 ∧ (KM I I2)) (BM D A) A) args s 0 0 A) (F0 m 48 ls []) := by
        intro n
        induction n with
        | zero =>
          intro x4_48 Ia48 La48 H locs ls hI hK hr4_48 hkb48 hmu
          exact absurd hmu (Nat.not_lt_zero _)
        | succ n ih48 =>
          intro x4_48 Ia48 La48 H locs ls hI hK hr4_48 hkb48 hmu48 hM hS hl
          refine lv_iload hx hb dX10_owned_48 (lv_at hl 0 rfl) ?_
          refine lv_aload_n hx hb dX10_owned_50 rfl (lv_at hl 2 rfl) ?_
          refine m_getr (1000) 1 (1001) hx hb hts hown hE oc10 hM hJ.1 rfl (by decide) rfl (hJ.2 1 (by decide)).2 (by decide) tb_1178 dX10_owned_51 ?_
          refine lv_bipush (v := (8)) hx hb dX10_owned_54 (by decide) ?_
          refine m_iald (1001) hx hb hE hM (hJ.2 1 (by decide)).1 rfl (vp_in_iff.mpr (by decide)) dX10_owned_56 ?_
          rw [show (8 : Int32).toNatClampNeg = 8 from rfl]
          have g11 := hI.get (1001) 8 (lo := 0) (hi := 24) rfl
          refine lv_icmp_ge (tgt := 95) hx hb dX10_owned_57 (by decide) (fun c12 => ?_) (fun c12 => ?_)
          · have hc12 := c12
            have q12 := q_le hc12
            refine lv_aload_n hx hb dX10_owned_95 rfl (lv_at hl 2 rfl) ?_
            refine lv_iload_n hx hb dX10_owned_96 rfl (lv_at hl 3 rfl) ?_
            refine m_callv (m_runV (1000) (As := [.int (a0)]) (rest := []) hx hb hml hown hts hE hM hS hA ce_X10_shines tb_1640 (V_X10_shines l D A ad ns Ia48 La48 G (a0) hJ hI (by first | omega | decide)) rfl rfl ⟨Nat.le_of_ble_eq_true rfl, Nat.le_of_ble_eq_true rfl⟩ hJ.1 rfl rfl (by decide) rfl hl.1 rfl (Nat.le_of_ble_eq_true rfl) dX10_owned_97 ⟨Nat.le_of_ble_eq_true rfl, Nat.le_of_ble_eq_true rfl⟩) hS (fun u H locs hw hM hS => ?_)
            obtain ⟨I13, L14, rfl, hI, hkI13⟩ := hw
            have hM : Mem D A ad ns I13 L14 G H := hM
            have hK := hK.trans hkI13 rfl
            refine lv_aload_n hx hb dX10_owned_100 rfl (lv_at hl 2 rfl) ?_
            refine m_getr (1000) 68 (1068) hx hb hts hown hE oc10 hM hJ.1 rfl (by decide) rfl (hJ.2 68 (by decide)).2 (by decide) tb_1245 dX10_owned_101 ?_
            refine lv_aload_n hx hb dX10_owned_104 rfl (lv_at hl 2 rfl) ?_
            refine m_getr (1000) 15 (1015) hx hb hts hown hE oc10 hM hJ.1 rfl (by decide) rfl (hJ.2 15 (by decide)).2 (by decide) tb_1192 dX10_owned_105 ?_
            refine m_callv (m_runS (As := [.ref (ad (1068)), .ref (ad (1015))]) (rest := []) hx hb hml hown hts hE hM hS hA ce_X10_copy tb_1723 (V_X10_copy_1068_1015_t l D A ad ns I13 L14 G hJ hI) rfl rfl ⟨Nat.le_of_ble_eq_true rfl, Nat.le_of_ble_eq_true rfl⟩  rfl hl.1 rfl (Nat.le_of_ble_eq_true rfl) dX10_owned_108 ⟨Nat.le_of_ble_eq_true rfl, Nat.le_of_ble_eq_true rfl⟩) hS (fun u H locs hw hM hS => ?_)
            obtain ⟨I15, L16, rfl, hI, hkI15, xI15⟩ := hw
            have hM : Mem D A ad ns I15 L16 G H := hM
            have hK := hK.trans hkI15 rfl
            refine lv_iload_n hx hb dX10_owned_111 rfl (lv_at hl 1 rfl) ?_
            refine lv_aload_n hx hb dX10_owned_112 rfl (lv_at hl 2 rfl) ?_
            refine m_calli (m_runV (1000) (As := []) (rest := [.int (r8)]) hx hb hml hown hts hE hM hS hA ce_X10_allGot tb_1707 (V_X10_allGot l D A ad ns I15 L16 G hJ hI) rfl rfl ⟨Nat.le_of_ble_eq_true rfl, Nat.le_of_ble_eq_true rfl⟩ hJ.1 rfl rfl (by decide) rfl hl.1 rfl (Nat.le_of_ble_eq_true rfl) dX10_owned_113 ⟨Nat.le_of_ble_eq_true rfl, Nat.le_of_ble_eq_true rfl⟩) hS (fun r17 u H locs hw hM hS => ?_)
            obtain ⟨rfl, xr17⟩ := hw
            have hM : Mem D A ad ns I15 L16 G H := hM
            refine lv_isub hx hb dX10_owned_116 ?_
            refine lv_topi (fun v18 ev18 => ?_)
            exact m_iret hx hb hr hlocks hM hS (Nat.le_of_ble_eq_true rfl) (Nat.le_of_ble_eq_true rfl) ⟨_, _, rfl, hI, hK, (KM.of [1015] hK rfl (fun n hn k hk => by simp only [List.mem_cons, List.not_mem_nil, or_false] at hn; subst hn; exact (fun k hk => (congrFun (rfl) k).trans ((xI15 k hk).trans ((congrFun ((hkI13.getA 1068 rfl)) k).trans (hkb48 k hk)))) k hk))⟩ dX10_owned_117
          · have hc12 := c12
            have q12 := q_nle hc12
            refine lv_aload_n hx hb dX10_owned_60 rfl (lv_at hl 2 rfl) ?_
            refine m_getr (1000) 15 (1015) hx hb hts hown hE oc10 hM hJ.1 rfl (by decide) rfl (hJ.2 15 (by decide)).2 (by decide) tb_1192 dX10_owned_61 ?_
            refine lv_iload hx hb dX10_owned_64 (lv_at hl 0 rfl) ?_
            refine lv_aload_n hx hb dX10_owned_66 rfl (lv_at hl 2 rfl) ?_
            refine m_getr (1000) 13 (1013) hx hb hts hown hE oc10 hM hJ.1 rfl (by decide) rfl (hJ.2 13 (by decide)).2 (by decide) tb_1190 dX10_owned_67 ?_
            refine lv_iload hx hb dX10_owned_70 (lv_at hl 0 rfl) ?_
            refine m_iald (1013) hx hb hE hM (hJ.2 13 (by decide)).1 rfl (vp_in_iff.mpr (by omega)) dX10_owned_72 ?_
            refine lv_iload_n hx hb dX10_owned_73 rfl (lv_at hl 4 rfl) ?_
            refine lv_icmp_ne (tgt := 81) hx hb dX10_owned_74 (by decide) (fun c19 => ?_) (fun c19 => ?_)
            · have hc19 := c19
              have q19 := q_ne hc19
              refine lv_aload_n hx hb dX10_owned_81 rfl (lv_at hl 2 rfl) ?_
              refine m_getr (1000) 15 (1015) hx hb hts hown hE oc10 hM hJ.1 rfl (by decide) rfl (hJ.2 15 (by decide)).2 (by decide) tb_1192 dX10_owned_82 ?_
              refine lv_iload hx hb dX10_owned_85 (lv_at hl 0 rfl) ?_
              refine m_iald (1015) hx hb hE hM (hJ.2 15 (by decide)).1 rfl (vp_in_iff.mpr (by omega)) dX10_owned_87 ?_
              refine m_iast (1015) hx hb hE hM hS (hJ.2 15 (by decide)).1 rfl (vp_in_iff.mpr (by omega)) dX10_owned_88 (fun H locs I20 eI20 hM hS => ?_)
              subst eI20
              have hI := hI.putF (n := 1015) (k := ((x4_48).toNatClampNeg)) (v := Ia48 (1015) (x4_48).toNatClampNeg) rfl
              have hK := hK.put (n := 1015) (k := ((x4_48).toNatClampNeg)) (v := Ia48 (1015) (x4_48).toNatClampNeg) (by first | rfl | simp [inR])
              obtain ⟨v21, ev21⟩ : ∃ z : Int32, z = x4_48 + Int32.ofInt (1) := ⟨_, rfl⟩
              have tv21 := a_inc ev21 (by decide) (by omega) (by omega)
              refine lv_iinc (v := v21) (lv' := [(4, .int (v21)), (3, .int (r8)), (0, .ref (ad (1000))), (1, .int (a0)), (2, .int (a1))]) hx hb dX10_owned_89 hl (k := 0) rfl ev21.symm (by decide) rfl (fun ls hl => ?_)
              refine lv_goto (tgt := 48) hx hb dX10_owned_92 (by decide) ?_
              exact ih48 (v21) (u2 Ia48 (1015) ((x4_48).toNatClampNeg) (Ia48 (1015) (x4_48).toNatClampNeg)) La48 _ _ ls hI hK (by first | omega | decide) (fun j hj => (congrFun ((show (u2 Ia48 (1015) ((x4_48).toNatClampNeg) (Ia48 (1015) (x4_48).toNatClampNeg)) 1068 = Ia48 1068 from by funext zz; simp [u2_v])) j).trans (hkb48 j hj)) (by omega) hM hS (lv_sub hl [0, 1, 2, 3, 4] rfl)
            · have hc19 := c19
              have q19 := q_eq hc19
              refine lv_iconst (v := (1)) hx hb dX10_owned_77 (by decide) ?_
              refine lv_goto (tgt := 88) hx hb dX10_owned_78 (by decide) ?_
              refine m_iast (1015) hx hb hE hM hS (hJ.2 15 (by decide)).1 rfl (vp_in_iff.mpr (by omega)) dX10_owned_88 (fun H locs I22 eI22 hM hS => ?_)
              subst eI22
              have hI := hI.putF (n := 1015) (k := ((x4_48).toNatClampNeg)) (v := 1) rfl
              have hK := hK.put (n := 1015) (k := ((x4_48).toNatClampNeg)) (v := 1) (by first | rfl | simp [inR])
              obtain ⟨v23, ev23⟩ : ∃ z : Int32, z = x4_48 + Int32.ofInt (1) := ⟨_, rfl⟩
              have tv23 := a_inc ev23 (by decide) (by omega) (by omega)
              refine lv_iinc (v := v23) (lv' := [(4, .int (v23)), (3, .int (r8)), (0, .ref (ad (1000))), (1, .int (a0)), (2, .int (a1))]) hx hb dX10_owned_89 hl (k := 0) rfl ev23.symm (by decide) rfl (fun ls hl => ?_)
              refine lv_goto (tgt := 48) hx hb dX10_owned_92 (by decide) ?_
              exact ih48 (v23) (u2 Ia48 (1015) ((x4_48).toNatClampNeg) (1)) La48 _ _ ls hI hK (by first | omega | decide) (fun j hj => (congrFun ((show (u2 Ia48 (1015) ((x4_48).toNatClampNeg) (1)) 1068 = Ia48 1068 from by funext zz; simp [u2_v])) j).trans (hkb48 j hj)) (by omega) hM hS (lv_sub hl [0, 1, 2, 3, 4] rfl)
      exact loop48 (_ + 1) (0) I9 L10 _ _ ls hI hK (by first | omega | decide) (fun j hj => (congrFun (rfl) j).trans ((xI9 j hj).trans (congrFun ((hkI6.getA 1015 rfl)) j))) (Nat.lt_succ_self _) hM hS (lv_sub hl [0, 1, 2, 3, 4] rfl)
    · have hc5 := c5
      have q5 := xr4.f hc5
      refine lv_ldcw (v := (-1000000)) hx hb hown (hts _ tb_1730) dX10_owned_20 ?_
      exact m_iret hx hb hr hlocks hM hS (Nat.le_of_ble_eq_true rfl) (Nat.le_of_ble_eq_true rfl) ⟨_, _, rfl, hI, hK, EqV.rf⟩ dX10_owned_23
