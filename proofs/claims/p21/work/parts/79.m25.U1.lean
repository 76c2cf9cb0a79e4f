set_option maxHeartbeats 4000000 in
set_option maxRecDepth 20000 in
theorem V_X10_copy_1050_1066_t (l : Launch) (D : va_G) (A : Nat → Prop) (ad : Nat → Nat) (ns : List Nat) (I : MI) (L : ML) (G : MG) (hJ : SGM ns G) (hI : INV I) : Met l yX10_copy (wd yX10_copy cX10_copy 3 none) ({ frames := 0, cells := 0, slots := 0, locals := 0 }) (va_Pc [.ref (ad (1050)), .ref (ad (1066))] (PM D A ad ns I L G)) (va_Qv (fun u => ∃ I2 L2, u = (ad, ns, I2, L2, G) ∧ INV I2 ∧ Kp [(1066, 1067)] [] I I2 ∧ (CPX 1050 1066 8 I I2)) (BM D A) A) 0 0 A := by
  refine m_ofW (by decide) (Nat.le_of_ble_eq_true rfl) ?_
  intro p e s m below meth c ls args hC hE hM hA hS hl
  obtain ⟨hx, hb, hml, hown, hts, hr, hlocks, hin⟩ := hC
  have k0 : (0 : Int32).toInt = 0 := by decide
  have k8 : (8 : Int32).toInt = 8 := by decide
  have hK : Kp [(1066, 1067)] [] I I := Kp.rf
  have hl : lv_has ls 3 [(0, .ref (ad (1050))), (1, .ref (ad (1066)))] := hl
  refine lv_iconst (v := (0)) hx hb dX10_copy_0 (by decide) ?_
  refine lv_istore_n (lv' := [(2, .int (0)), (0, .ref (ad (1050))), (1, .ref (ad (1066)))]) hx hb dX10_copy_1 rfl hl (by decide) rfl (fun ls hl => ?_)
  have loop2 : ∀ (n : Nat) (x2_2 : Int32) (Ia2 : MI) (La2 : ML) (H : Heap) (locs : List Loc) (ls : Array Slot), INV Ia2 → Kp [(1066, 1067)] [] I Ia2 → (0 ≤ x2_2.toInt ∧ x2_2.toInt ≤ 8) → (Ia2 1050 = I 1050) → (∀ j : Nat, j < (x2_2).toNatClampNeg → Ia2 1066 j = I 1050 j) → (8 - x2_2.toInt).toNat < n → Mem D A ad ns Ia2 La2 G H → va_S A s.heap H locs → lv_has ls 3 [(2, .int (x2_2)), (0, .ref (ad (1050))), (1, .ref (ad (1066)))] → W p l e ({ frames := 0, cells := 0, slots := 0, locals := 0 } : Room) s m args below meth c H locs 0 0 (MQ below (va_Qv (fun u => ∃ I2 L2, u = (ad, ns, I2, L2, G) ∧ INV I2 ∧ Kp [(1066, 1067)] [] I I2 ∧ (CPX 1050 1066 8 I I2)) (BM D A) A) args s 0 0 A) (F0 m 2 ls []) := by
    intro n
    induction n with
    | zero =>
      intro x2_2 Ia2 La2 H locs ls hI hK hr2_2 hca2 hcp2 hmu
      exact absurd hmu (Nat.not_lt_zero _)
    | succ n ih2 =>
      intro x2_2 Ia2 La2 H locs ls hI hK hr2_2 hca2 hcp2 hmu2 hM hS hl
      refine lv_iload_n hx hb dX10_copy_2 rfl (lv_at hl 0 rfl) ?_
      refine lv_aload_n hx hb dX10_copy_3 rfl (lv_at hl 2 rfl) ?_
      refine m_alen 1066 (t0 := 0) (v := 8) hx hb hE hM (hJ.2 66 (by decide)).1 rfl (by decide) rfl rfl dX10_copy_4 ?_
      refine lv_icmp_ge (tgt := 20) hx hb dX10_copy_5 (by decide) (fun c1 => ?_) (fun c1 => ?_)
      · have hc1 := c1
        have q1 := q_le hc1
        exact m_vret hx hb hr hlocks hM hS (Nat.le_of_ble_eq_true rfl) (Nat.le_of_ble_eq_true rfl) ⟨_, _, rfl, hI, hK, (fun j hj => hcp2 j (by have zz := tn (i := x2_2) (by omega); omega))⟩ dX10_copy_20
      · have hc1 := c1
        have q1 := q_nle hc1
        refine lv_aload_n hx hb dX10_copy_8 rfl (lv_at hl 2 rfl) ?_
        refine lv_iload_n hx hb dX10_copy_9 rfl (lv_at hl 0 rfl) ?_
        refine lv_aload_n hx hb dX10_copy_10 rfl (lv_at hl 1 rfl) ?_
        refine lv_iload_n hx hb dX10_copy_11 rfl (lv_at hl 0 rfl) ?_
        refine m_iald (1050) hx hb hE hM (hJ.2 50 (by decide)).1 rfl (vp_in_iff.mpr (by omega)) dX10_copy_12 ?_
        refine m_iast (1066) hx hb hE hM hS (hJ.2 66 (by decide)).1 rfl (vp_in_iff.mpr (by omega)) dX10_copy_13 (fun H locs I2 eI2 hM hS => ?_)
        subst eI2
        have hI := hI.putF (n := 1066) (k := ((x2_2).toNatClampNeg)) (v := Ia2 (1050) (x2_2).toNatClampNeg) rfl
        have hK := hK.put (n := 1066) (k := ((x2_2).toNatClampNeg)) (v := Ia2 (1050) (x2_2).toNatClampNeg) (by first | rfl | simp [inR])
        obtain ⟨v3, ev3⟩ : ∃ z : Int32, z = x2_2 + Int32.ofInt (1) := ⟨_, rfl⟩
        have tv3 := a_inc ev3 (by decide) (by omega) (by omega)
        refine lv_iinc (v := v3) (lv' := [(2, .int (v3)), (0, .ref (ad (1050))), (1, .ref (ad (1066)))]) hx hb dX10_copy_14 hl (k := 0) rfl ev3.symm (by decide) rfl (fun ls hl => ?_)
        refine lv_goto (tgt := 2) hx hb dX10_copy_17 (by decide) ?_
        exact ih2 (v3) (u2 Ia2 (1066) ((x2_2).toNatClampNeg) (Ia2 (1050) (x2_2).toNatClampNeg)) La2 _ _ ls hI hK (by first | omega | decide) (by rw [u2_ne _ _ _ (by decide)]; exact hca2) (cp_step hcp2 (by decide) hca2 (by omega) (by omega)) (by omega) hM hS (lv_sub hl [0, 1, 2] rfl)
  exact loop2 (_ + 1) (0) I L _ _ ls hI hK (by first | omega | decide) rfl (fun j hj => absurd hj (Nat.not_lt_zero j)) (Nat.lt_succ_self _) hM hS (lv_sub hl [0, 1, 2] rfl)
set_option maxHeartbeats 4000000 in
set_option maxRecDepth 20000 in
theorem V_X10_copy_1009_1067_t (l : Launch) (D : va_G) (A : Nat → Prop) (ad : Nat → Nat) (ns : List Nat) (I : MI) (L : ML) (G : MG) (hJ : SGM ns G) (hI : INV I) : Met l yX10_copy (wd yX10_copy cX10_copy 3 none) ({ frames := 0, cells := 0, slots := 0, locals := 0 }) (va_Pc [.ref (ad (1009)), .ref (ad (1067))] (PM D A ad ns I L G)) (va_Qv (fun u => ∃ I2 L2, u = (ad, ns, I2, L2, G) ∧ INV I2 ∧ Kp [(1067, 1068)] [] I I2 ∧ (CPX 1009 1067 24 I I2)) (BM D A) A) 0 0 A := by
  refine m_ofW (by decide) (Nat.le_of_ble_eq_true rfl) ?_
  intro p e s m below meth c ls args hC hE hM hA hS hl
  obtain ⟨hx, hb, hml, hown, hts, hr, hlocks, hin⟩ := hC
  have k0 : (0 : Int32).toInt = 0 := by decide
  have k24 : (24 : Int32).toInt = 24 := by decide
  have hK : Kp [(1067, 1068)] [] I I := Kp.rf
  have hl : lv_has ls 3 [(0, .ref (ad (1009))), (1, .ref (ad (1067)))] := hl
  refine lv_iconst (v := (0)) hx hb dX10_copy_0 (by decide) ?_
  refine lv_istore_n (lv' := [(2, .int (0)), (0, .ref (ad (1009))), (1, .ref (ad (1067)))]) hx hb dX10_copy_1 rfl hl (by decide) rfl (fun ls hl => ?_)
  have loop2 : ∀ (n : Nat) (x2_2 : Int32) (Ia2 : MI) (La2 : ML) (H : Heap) (locs : List Loc) (ls : Array Slot), INV Ia2 → Kp [(1067, 1068)] [] I Ia2 → (0 ≤ x2_2.toInt ∧ x2_2.toInt ≤ 24) → (Ia2 1009 = I 1009) → (∀ j : Nat, j < (x2_2).toNatClampNeg → Ia2 1067 j = I 1009 j) → (24 - x2_2.toInt).toNat < n → Mem D A ad ns Ia2 La2 G H → va_S A s.heap H locs → lv_has ls 3 [(2, .int (x2_2)), (0, .ref (ad (1009))), (1, .ref (ad (1067)))] → W p l e ({ frames := 0, cells := 0, slots := 0, locals := 0 } : Room) s m args below meth c H locs 0 0 (MQ below (va_Qv (fun u => ∃ I2 L2, u = (ad, ns, I2, L2, G) ∧ INV I2 ∧ Kp [(1067, 1068)] [] I I2 ∧ (CPX 1009 1067 24 I I2)) (BM D A) A) args s 0 0 A) (F0 m 2 ls []) := by
    intro n
    induction n with
    | zero =>
      intro x2_2 Ia2 La2 H locs ls hI hK hr2_2 hca2 hcp2 hmu
      exact absurd hmu (Nat.not_lt_zero _)
    | succ n ih2 =>
      intro x2_2 Ia2 La2 H locs ls hI hK hr2_2 hca2 hcp2 hmu2 hM hS hl
      refine lv_iload_n hx hb dX10_copy_2 rfl (lv_at hl 0 rfl) ?_
      refine lv_aload_n hx hb dX10_copy_3 rfl (lv_at hl 2 rfl) ?_
      refine m_alen 1067 (t0 := 0) (v := 24) hx hb hE hM (hJ.2 67 (by decide)).1 rfl (by decide) rfl rfl dX10_copy_4 ?_
      refine lv_icmp_ge (tgt := 20) hx hb dX10_copy_5 (by decide) (fun c1 => ?_) (fun c1 => ?_)
      · have hc1 := c1
        have q1 := q_le hc1
        exact m_vret hx hb hr hlocks hM hS (Nat.le_of_ble_eq_true rfl) (Nat.le_of_ble_eq_true rfl) ⟨_, _, rfl, hI, hK, (fun j hj => hcp2 j (by have zz := tn (i := x2_2) (by omega); omega))⟩ dX10_copy_20
      · have hc1 := c1
        have q1 := q_nle hc1
        refine lv_aload_n hx hb dX10_copy_8 rfl (lv_at hl 2 rfl) ?_
        refine lv_iload_n hx hb dX10_copy_9 rfl (lv_at hl 0 rfl) ?_
        refine lv_aload_n hx hb dX10_copy_10 rfl (lv_at hl 1 rfl) ?_
        refine lv_iload_n hx hb dX10_copy_11 rfl (lv_at hl 0 rfl) ?_
        refine m_iald (1009) hx hb hE hM (hJ.2 9 (by decide)).1 rfl (vp_in_iff.mpr (by omega)) dX10_copy_12 ?_
        refine m_iast (1067) hx hb hE hM hS (hJ.2 67 (by decide)).1 rfl (vp_in_iff.mpr (by omega)) dX10_copy_13 (fun H locs I2 eI2 hM hS => ?_)
        subst eI2
        have hI := hI.putF (n := 1067) (k := ((x2_2).toNatClampNeg)) (v := Ia2 (1009) (x2_2).toNatClampNeg) rfl
        have hK := hK.put (n := 1067) (k := ((x2_2).toNatClampNeg)) (v := Ia2 (1009) (x2_2).toNatClampNeg) (by first | rfl | simp [inR])
        obtain ⟨v3, ev3⟩ : ∃ z : Int32, z = x2_2 + Int32.ofInt (1) := ⟨_, rfl⟩
        have tv3 := a_inc ev3 (by decide) (by omega) (by omega)
        refine lv_iinc (v := v3) (lv' := [(2, .int (v3)), (0, .ref (ad (1009))), (1, .ref (ad (1067)))]) hx hb dX10_copy_14 hl (k := 0) rfl ev3.symm (by decide) rfl (fun ls hl => ?_)
        refine lv_goto (tgt := 2) hx hb dX10_copy_17 (by decide) ?_
        exact ih2 (v3) (u2 Ia2 (1067) ((x2_2).toNatClampNeg) (Ia2 (1009) (x2_2).toNatClampNeg)) La2 _ _ ls hI hK (by first | omega | decide) (by rw [u2_ne _ _ _ (by decide)]; exact hca2) (cp_step hcp2 (by decide) hca2 (by omega) (by omega)) (by omega) hM hS (lv_sub hl [0, 1, 2] rfl)
  exact loop2 (_ + 1) (0) I L _ _ ls hI hK (by first | omega | decide) rfl (fun j hj => absurd hj (Nat.not_lt_zero j)) (Nat.lt_succ_self _) hM hS (lv_sub hl [0, 1, 2] rfl)
set_option maxHeartbeats 4000000 in
set_option maxRecDepth 20000 in
theorem V_X10_copy_1067_1009_t (l : Launch) (D : va_G) (A : Nat → Prop) (ad : Nat → Nat) (ns : List Nat) (I : MI) (L : ML) (G : MG) (hJ : SGM ns G) (hI : INV I) : Met l yX10_copy (wd yX10_copy cX10_copy 3 none) ({ frames := 0, cells := 0, slots := 0, locals := 0 }) (va_Pc [.ref (ad (1067)), .ref (ad (1009))] (PM D A ad ns I L G)) (va_Qv (fun u => ∃ I2 L2, u = (ad, ns, I2, L2, G) ∧ INV I2 ∧ Kp [(1009, 1010)] [] I I2 ∧ (CPX 1067 1009 24 I I2)) (BM D A) A) 0 0 A := by
  refine m_ofW (by decide) (Nat.le_of_ble_eq_true rfl) ?_
  intro p e s m below meth c ls args hC hE hM hA hS hl
  obtain ⟨hx, hb, hml, hown, hts, hr, hlocks, hin⟩ := hC
  have k0 : (0 : Int32).toInt = 0 := by decide
  have k24 : (24 : Int32).toInt = 24 := by decide
  have hK : Kp [(1009, 1010)] [] I I := Kp.rf
  have hl : lv_has ls 3 [(0, .ref (ad (1067))), (1, .ref (ad (1009)))] := hl
  refine lv_iconst (v := (0)) hx hb dX10_copy_0 (by decide) ?_
  refine lv_istore_n (lv' := [(2, .int (0)), (0, .ref (ad (1067))), (1, .ref (ad (1009)))]) hx hb dX10_copy_1 rfl hl (by decide) rfl (fun ls hl => ?_)
  have loop2 : ∀ (n : Nat) (x2_2 : Int32) (Ia2 : MI) (La2 : ML) (H : Heap) (locs : List Loc) (ls : Array Slot), INV Ia2 → Kp [(1009, 1010)] [] I Ia2 → (0 ≤ x2_2.toInt ∧ x2_2.toInt ≤ 24) → (Ia2 1067 = I 1067) → (∀ j : Nat, j < (x2_2).toNatClampNeg → Ia2 1009 j = I 1067 j) → (24 - x2_2.toInt).toNat < n → Mem D A ad ns Ia2 La2 G H → va_S A s.heap H locs → lv_has ls 3 [(2, .int (x2_2)), (0, .ref (ad (1067))), (1, .ref (ad (1009)))] → W p l e ({ frames := 0, cells := 0, slots := 0, locals := 0 } : Room) s m args below meth c H locs 0 0 (MQ below (va_Qv (fun u => ∃ I2 L2, u = (ad, ns, I2, L2, G) ∧ INV I2 ∧ Kp [(1009, 1010)] [] I I2 ∧ (CPX 1067 1009 24 I I2)) (BM D A) A) args s 0 0 A) (F0 m 2 ls []) := by
    intro n
    induction n with
    | zero =>
      intro x2_2 Ia2 La2 H locs ls hI hK hr2_2 hca2 hcp2 hmu
      exact absurd hmu (Nat.not_lt_zero _)
    | succ n ih2 =>
      intro x2_2 Ia2 La2 H locs ls hI hK hr2_2 hca2 hcp2 hmu2 hM hS hl
      refine lv_iload_n hx hb dX10_copy_2 rfl (lv_at hl 0 rfl) ?_
      refine lv_aload_n hx hb dX10_copy_3 rfl (lv_at hl 2 rfl) ?_
      refine m_alen 1009 (t0 := 0) (v := 24) hx hb hE hM (hJ.2 9 (by decide)).1 rfl (by decide) rfl rfl dX10_copy_4 ?_
      refine lv_icmp_ge (tgt := 20) hx hb dX10_copy_5 (by decide) (fun c1 => ?_) (fun c1 => ?_)
      · have hc1 := c1
        have q1 := q_le hc1
        exact m_vret hx hb hr hlocks hM hS (Nat.le_of_ble_eq_true rfl) (Nat.le_of_ble_eq_true rfl) ⟨_, _, rfl, hI, hK, (fun j hj => hcp2 j (by have zz := tn (i := x2_2) (by omega); omega))⟩ dX10_copy_20
      · have hc1 := c1
        have q1 := q_nle hc1
        refine lv_aload_n hx hb dX10_copy_8 rfl (lv_at hl 2 rfl) ?_
        refine lv_iload_n hx hb dX10_copy_9 rfl (lv_at hl 0 rfl) ?_
        refine lv_aload_n hx hb dX10_copy_10 rfl (lv_at hl 1 rfl) ?_
        refine lv_iload_n hx hb dX10_copy_11 rfl (lv_at hl 0 rfl) ?_
        refine m_iald (1067) hx hb hE hM (hJ.2 67 (by decide)).1 rfl (vp_in_iff.mpr (by omega)) dX10_copy_12 ?_
        refine m_iast (1009) hx hb hE hM hS (hJ.2 9 (by decide)).1 rfl (vp_in_iff.mpr (by omega)) dX10_copy_13 (fun H locs I2 eI2 hM hS => ?_)
        subst eI2
        have hI := hI.putF (n := 1009) (k := ((x2_2).toNatClampNeg)) (v := Ia2 (1067) (x2_2).toNatClampNeg) rfl
        have hK := hK.put (n := 1009) (k := ((x2_2).toNatClampNeg)) (v := Ia2 (1067) (x2_2).toNatClampNeg) (by first | rfl | simp [inR])
        obtain ⟨v3, ev3⟩ : ∃ z : Int32, z = x2_2 + Int32.ofInt (1) := ⟨_, rfl⟩
        have tv3 := a_inc ev3 (by decide) (by omega) (by omega)
        refine lv_iinc (v := v3) (lv' := [(2, .int (v3)), (0, .ref (ad (1067))), (1, .ref (ad (1009)))]) hx hb dX10_copy_14 hl (k := 0) rfl ev3.symm (by decide) rfl (fun ls hl => ?_)
        refine lv_goto (tgt := 2) hx hb dX10_copy_17 (by decide) ?_
        exact ih2 (v3) (u2 Ia2 (1009) ((x2_2).toNatClampNeg) (Ia2 (1067) (x2_2).toNatClampNeg)) La2 _ _ ls hI hK (by first | omega | decide) (by rw [u2_ne _ _ _ (by decide)]; exact hca2) (cp_step hcp2 (by decide) hca2 (by omega) (by omega)) (by omega) hM hS (lv_sub hl [0, 1, 2] rfl)
  exact loop2 (_ + 1) (0) I L _ _ ls hI hK (by first | omega | decide) rfl (fun j hj => absurd hj (Nat.not_lt_zero j)) (Nat.lt_succ_self _) hM hS (lv_sub hl [0, 1, 2] rfl)
set_option maxHeartbeats 4000000 in
set_option maxRecDepth 20000 in
theorem V_X10_copy_1015_1068_t (l : Launch) (D : va_G) (A : Nat → Prop) (ad : Nat → Nat) (ns : List Nat) (I : MI) (L : ML) (G : MG) (hJ : SGM ns G) (hI : INV I) : Met l yX10_copy (wd yX10_copy cX10_copy 3 none) ({ frames := 0, cells := 0, slots := 0, locals := 0 }) (va_Pc [.ref (ad (1015)), .ref (ad (1068))] (PM D A ad ns I L G)) (va_Qv (fun u => ∃ I2 L2, u = (ad, ns, I2, L2, G) ∧ INV I2 ∧ Kp [(1068, 1069)] [] I I2 ∧ (CPX 1015 1068 24 I I2)) (BM D A) A) 0 0 A := by
  refine m_ofW (by decide) (Nat.le_of_ble_eq_true rfl) ?_
  intro p e s m below meth c ls args hC hE hM hA hS hl
  obtain ⟨hx, hb, hml, hown, hts, hr, hlocks, hin⟩ := hC
  have k0 : (0 : Int32).toInt = 0 := by decide
  have k24 : (24 : Int32).toInt = 24 := by decide
  have hK : Kp [(1068, 1069)] [] I I := Kp.rf
  have hl : lv_has ls 3 [(0, .ref (ad (1015))), (1, .ref (ad (1068)))] := hl
  refine lv_iconst (v := (0)) hx hb dX10_copy_0 (by decide) ?_
  refine lv_istore_n (lv' := [(2, .int (0)), (0, .ref (ad (1015))), (1, .ref (ad (1068)))]) hx hb dX10_copy_1 rfl hl (by decide) rfl (fun ls hl => ?_)
  have loop2 : ∀ (n : Nat) (x2_2 : Int32) (Ia2 : MI) (La2 : ML) (H : Heap) (locs : List Loc) (ls : Array Slot), INV Ia2 → Kp [(1068, 1069)] [] I Ia2 → (0 ≤ x2_2.toInt ∧ x2_2.toInt ≤ 24) → (Ia2 1015 = I 1015) → (∀ j : Nat, j < (x2_2).toNatClampNeg → Ia2 1068 j = I 1015 j) → (24 - x2_2.toInt).toNat < n → Mem D A ad ns Ia2 La2 G H → va_S A s.heap H locs → lv_has ls 3 [(2, .int (x2_2)), (0, .ref (ad (1015))), (1, .ref (ad (1068)))] → W p l e ({ frames := 0, cells := 0, slots := 0, locals := 0 } : Room) s m args below meth c H locs 0 0 (MQ below (va_Qv (fun u => ∃ I2 L2, u = (ad, ns, I2, L2, G) ∧ INV I2 ∧ Kp [(1068, 1069)] [] I I2 ∧ (CPX 1015 1068 24 I I2)) (BM D A) A) args s 0 0 A) (F0 m 2 ls []) := by
    intro n
    induction n with
    | zero =>
      intro x2_2 Ia2 La2 H locs ls hI hK hr2_2 hca2 hcp2 hmu
      exact absurd hmu (Nat.not_lt_zero _)
    | succ n ih2 =>
      intro x2_2 Ia2 La2 H locs ls hI hK hr2_2 hca2 hcp2 hmu2 hM hS hl
      refine lv_iload_n hx hb dX10_copy_2 rfl (lv_at hl 0 rfl) ?_
      refine lv_aload_n hx hb dX10_copy_3 rfl (lv_at hl 2 rfl) ?_
      refine m_alen 1068 (t0 := 0) (v := 24) hx hb hE hM (hJ.2 68 (by decide)).1 rfl (by decide) rfl rfl dX10_copy_4 ?_
      refine lv_icmp_ge (tgt := 20) hx hb dX10_copy_5 (by decide) (fun c1 => ?_) (fun c1 => ?_)
      · have hc1 := c1
        have q1 := q_le hc1
        exact m_vret hx hb hr hlocks hM hS (Nat.le_of_ble_eq_true rfl) (Nat.le_of_ble_eq_true rfl) ⟨_, _, rfl, hI, hK, (fun j hj => hcp2 j (by have zz := tn (i := x2_2) (by omega); omega))⟩ dX10_copy_20
      · have hc1 := c1
        have q1 := q_nle hc1
        refine lv_aload_n hx hb dX10_copy_8 rfl (lv_at hl 2 rfl) ?_
        refine lv_iload_n hx hb dX10_copy_9 rfl (lv_at hl 0 rfl) ?_
        refine lv_aload_n hx hb dX10_copy_10 rfl (lv_at hl 1 rfl) ?_
        refine lv_iload_n hx hb dX10_copy_11 rfl (lv_at hl 0 rfl) ?_
        refine m_iald (1015) hx hb hE hM (hJ.2 15 (by decide)).1 rfl (vp_in_iff.mpr (by omega)) dX10_copy_12 ?_
        refine m_iast (1068) hx hb hE hM hS (hJ.2 68 (by decide)).1 rfl (vp_in_iff.mpr (by omega)) dX10_copy_13 (fun H locs I2 eI2 hM hS => ?_)
        subst eI2
        have hI := hI.putF (n := 1068) (k := ((x2_2).toNatClampNeg)) (v := Ia2 (1015) (x2_2).toNatClampNeg) rfl
        have hK := hK.put (n := 1068) (k := ((x2_2).toNatClampNeg)) (v := Ia2 (1015) (x2_2).toNatClampNeg) (by first | rfl | simp [inR])
        obtain ⟨v3, ev3⟩ : ∃ z : Int32, z = x2_2 + Int32.ofInt (1) := ⟨_, rfl⟩
        have tv3 := a_inc ev3 (by decide) (by omega) (by omega)
        refine lv_iinc (v := v3) (lv' := [(2, .int (v3)), (0, .ref (ad (1015))), (1, .ref (ad (1068)))]) hx hb dX10_copy_14 hl (k := 0) rfl ev3.symm (by decide) rfl (fun ls hl => ?_)
        refine lv_goto (tgt := 2) hx hb dX10_copy_17 (by decide) ?_
        exact ih2 (v3) (u2 Ia2 (1068) ((x2_2).toNatClampNeg) (Ia2 (1015) (x2_2).toNatClampNeg)) La2 _ _ ls hI hK (by first | omega | decide) (by rw [u2_ne _ _ _ (by decide)]; exact hca2) (cp_step hcp2 (by decide) hca2 (by omega) (by omega)) (by omega) hM hS (lv_sub hl [0, 1, 2] rfl)
  exact loop2 (_ + 1) (0) I L _ _ ls hI hK (by first | omega | decide) rfl (fun j hj => absurd hj (Nat.not_lt_zero j)) (Nat.lt_succ_self _) hM hS (lv_sub hl [0, 1, 2] rfl)
set_option maxHeartbeats 4000000 in
set_option maxRecDepth 20000 in
theorem V_X10_copy_1068_1015_t (l : Launch) (D : va_G) (A : Nat → Prop) (ad : Nat → Nat) (ns : List Nat) (I : MI) (L : ML) (G : MG) (hJ : SGM ns G) (hI : INV I) : Met l yX10_copy (wd yX10_copy cX10_copy 3 none) ({ frames := 0, cells := 0, slots := 0, locals := 0 }) (va_Pc [.ref (ad (1068)), .ref (ad (1015))] (PM D A ad ns I L G)) (va_Qv (fun u => ∃ I2 L2, u = (ad, ns, I2, L2, G) ∧ INV I2 ∧ Kp [(1015, 1016)] [] I I2 ∧ (CPX 1068 1015 24 I I2)) (BM D A) A) 0 0 A := by
  refine m_ofW (by decide) (Nat.le_of_ble_eq_true rfl) ?_
  intro p e s m below meth c ls args hC hE hM hA hS hl
  obtain ⟨hx, hb, hml, hown, hts, hr, hlocks, hin⟩ := hC
  have k0 : (0 : Int32).toInt = 0 := by decide
  have k24 : (24 : Int32).toInt = 24 := by decide
  have hK : Kp [(1015, 1016)] [] I I := Kp.rf
  have hl : lv_has ls 3 [(0, .ref (ad (1068))), (1, .ref (ad (1015)))] := hl
  refine lv_iconst (v := (0)) hx hb dX10_copy_0 (by decide) ?_
  refine lv_istore_n (lv' := [(2, .int (0)), (0, .ref (ad (1068))), (1, .ref (ad (1015)))]) hx hb dX10_copy_1 rfl hl (by decide) rfl (fun ls hl => ?_)
  have loop2 : ∀ (n : Nat) (x2_2 : Int32) (Ia2 : MI) (La2 : ML) (H : Heap) (locs : List Loc) (ls : Array Slot), INV Ia2 → Kp [(1015, 1016)] [] I Ia2 → (0 ≤ x2_2.toInt ∧ x2_2.toInt ≤ 24) → (Ia2 1068 = I 1068) → (∀ j : Nat, j < (x2_2).toNatClampNeg → Ia2 1015 j = I 1068 j) → (24 - x2_2.toInt).toNat < n → Mem D A ad ns Ia2 La2 G H → va_S A s.heap H locs → lv_has ls 3 [(2, .int (x2_2)), (0, .ref (ad (1068))), (1, .ref (ad (1015)))] → W p l e ({ frames := 0, cells := 0, slots := 0, locals := 0 } : Room) s m args below meth c H locs 0 0 (MQ below (va_Qv (fun u => ∃ I2 L2, u = (ad, ns, I2, L2, G) ∧ INV I2 ∧ Kp [(1015, 1016)] [] I I2 ∧ (CPX 1068 1015 24 I I2)) (BM D A) A) args s 0 0 A) (F0 m 2 ls []) := by
    intro n
    induction n with
    | zero =>
      intro x2_2 Ia2 La2 H locs ls hI hK hr2_2 hca2 hcp2 hmu
      exact absurd hmu (Nat.not_lt_zero _)
    | succ n ih2 =>
      intro x2_2 Ia2 La2 H locs ls hI hK hr2_2 hca2 hcp2 hmu2 hM hS hl
      refine lv_iload_n hx hb dX10_copy_2 rfl (lv_at hl 0 rfl) ?_
      refine lv_aload_n hx hb dX10_copy_3 rfl (lv_at hl 2 rfl) ?_
      refine m_alen 1015 (t0 := 0) (v := 24) hx hb hE hM (hJ.2 15 (by decide)).1 rfl (by decide) rfl rfl dX10_copy_4 ?_
      refine lv_icmp_ge (tgt := 20) hx hb dX10_copy_5 (by decide) (fun c1 => ?_) (fun c1 => ?_)
      · have hc1 := c1
        have q1 := q_le hc1
        exact m_vret hx hb hr hlocks hM hS (Nat.le_of_ble_eq_true rfl) (Nat.le_of_ble_eq_true rfl) ⟨_, _, rfl, hI, hK, (fun j hj => hcp2 j (by have zz := tn (i := x2_2) (by omega); omega))⟩ dX10_copy_20
      · have hc1 := c1
        have q1 := q_nle hc1
        refine lv_aload_n hx hb dX10_copy_8 rfl (lv_at hl 2 rfl) ?_
        refine lv_iload_n hx hb dX10_copy_9 rfl (lv_at hl 0 rfl) ?_
        refine lv_aload_n hx hb dX10_copy_10 rfl (lv_at hl 1 rfl) ?_
        refine lv_iload_n hx hb dX10_copy_11 rfl (lv_at hl 0 rfl) ?_
        refine m_iald (1068) hx hb hE hM (hJ.2 68 (by decide)).1 rfl (vp_in_iff.mpr (by omega)) dX10_copy_12 ?_
        refine m_iast (1015) hx hb hE hM hS (hJ.2 15 (by decide)).1 rfl (vp_in_iff.mpr (by omega)) dX10_copy_13 (fun H locs I2 eI2 hM hS => ?_)
        subst eI2
        have hI := hI.putF (n := 1015) (k := ((x2_2).toNatClampNeg)) (v := Ia2 (1068) (x2_2).toNatClampNeg) rfl
        have hK := hK.put (n := 1015) (k := ((x2_2).toNatClampNeg)) (v := Ia2 (1068) (x2_2).toNatClampNeg) (by first | rfl | simp [inR])
        obtain ⟨v3, ev3⟩ : ∃ z : Int32, z = x2_2 + Int32.ofInt (1) := ⟨_, rfl⟩
        have tv3 := a_inc ev3 (by decide) (by omega) (by omega)
        refine lv_iinc (v := v3) (lv' := [(2, .int (v3)), (0, .ref (ad (1068))), (1, .ref (ad (1015)))]) hx hb dX10_copy_14 hl (k := 0) rfl ev3.symm (by decide) rfl (fun ls hl => ?_)
        refine lv_goto (tgt := 2) hx hb dX10_copy_17 (by decide) ?_
        exact ih2 (v3) (u2 Ia2 (1015) ((x2_2).toNatClampNeg) (Ia2 (1068) (x2_2).toNatClampNeg)) La2 _ _ ls hI hK (by first | omega | decide) (by rw [u2_ne _ _ _ (by decide)]; exact hca2) (cp_step hcp2 (by decide) hca2 (by omega) (by omega)) (by omega) hM hS (lv_sub hl [0, 1, 2] rfl)
  exact loop2 (_ + 1) (0) I L _ _ ls hI hK (by first | omega | decide) rfl (fun j hj => absurd hj (Nat.not_lt_zero j)) (Nat.lt_succ_self _) hM hS (lv_sub hl [0, 1, 2] rfl)
set_option maxHeartbeats 4000000 in
set_option maxRecDepth 20000 in
theorem V_X10_copy_1014_1069_t (l : Launch) (D : va_G) (A : Nat → Prop) (ad : Nat → Nat) (ns : List Nat) (I : MI) (L : ML) (G : MG) (hJ : SGM ns G) (hI : INV I) : Met l yX10_copy (wd yX10_copy cX10_copy 3 none) ({ frames := 0, cells := 0, slots := 0, locals := 0 }) (va_Pc [.ref (ad (1014)), .ref (ad (1069))] (PM D A ad ns I L G)) (va_Qv (fun u => ∃ I2 L2, u = (ad, ns, I2, L2, G) ∧ INV I2 ∧ Kp [(1069, 1070)] [] I I2 ∧ (CPX 1014 1069 24 I I2)) (BM D A) A) 0 0 A := by
  refine m_ofW (by decide) (Nat.le_of_ble_eq_true rfl) ?_
  intro p e s m below meth c ls args hC hE hM hA hS hl
  obtain ⟨hx, hb, hml, hown, hts, hr, hlocks, hin⟩ := hC
  have k0 : (0 : Int32).toInt = 0 := by decide
  have k24 : (24 : Int32).toInt = 24 := by decide
  have hK : Kp [(1069, 1070)] [] I I := Kp.rf
  have hl : lv_has ls 3 [(0, .ref (ad (1014))), (1, .ref (ad (1069)))] := hl
  refine lv_iconst (v := (0)) hx hb dX10_copy_0 (by decide) ?_
  refine lv_istore_n (lv' := [(2, .int (0)), (0, .ref (ad (1014))), (1, .ref (ad (1069)))]) hx hb dX10_copy_1 rfl hl (by decide) rfl (fun ls hl => ?_)
  have loop2 : ∀ (n : Nat) (x2_2 : Int32) (Ia2 : MI) (La2 : ML) (H : Heap) (locs : List Loc) (ls : Array Slot), INV Ia2 → Kp [(1069, 1070)] [] I Ia2 → (0 ≤ x2_2.toInt ∧ x2_2.toInt ≤ 24) → (Ia2 1014 = I 1014) → (∀ j : Nat, j < (x2_2).toNatClampNeg → Ia2 1069 j = I 1014 j) → (24 - x2_2.toInt).toNat < n → Mem D A ad ns Ia2 La2 G H → va_S A s.heap H locs → lv_has ls 3 [(2, .int (x2_2)), (0, .ref (ad (1014))), (1, .ref (ad (1069)))] → W p l e ({ frames := 0, cells := 0, slots := 0, locals := 0 } : Room) s m args below meth c H locs 0 0 (MQ below (va_Qv (fun u => ∃ I2 L2, u = (ad, ns, I2, L2, G) ∧ INV I2 ∧ Kp [(1069, 1070)] [] I I2 ∧ (CPX 1014 1069 24 I I2)) (BM D A) A) args s 0 0 A) (F0 m 2 ls []) := by
    intro n
    induction n with
    | zero =>
      intro x2_2 Ia2 La2 H locs ls hI hK hr2_2 hca2 hcp2 hmu
      exact absurd hmu (Nat.not_lt_zero _)
    | succ n ih2 =>
      intro x2_2 Ia2 La2 H locs ls hI hK hr2_2 hca2 hcp2 hmu2 hM hS hl
      refine lv_iload_n hx hb dX10_copy_2 rfl (lv_at hl 0 rfl) ?_
      refine lv_aload_n hx hb dX10_copy_3 rfl (lv_at hl 2 rfl) ?_
      refine m_alen 1069 (t0 := 0) (v := 24) hx hb hE hM (hJ.2 69 (by decide)).1 rfl (by decide) rfl rfl dX10_copy_4 ?_
      refine lv_icmp_ge (tgt := 20) hx hb dX10_copy_5 (by decide) (fun c1 => ?_) (fun c1 => ?_)
      · have hc1 := c1
        have q1 := q_le hc1
        exact m_vret hx hb hr hlocks hM hS (Nat.le_of_ble_eq_true rfl) (Nat.le_of_ble_eq_true rfl) ⟨_, _, rfl, hI, hK, (fun j hj => hcp2 j (by have zz := tn (i := x2_2) (by omega); omega))⟩ dX10_copy_20
      · have hc1 := c1
        have q1 := q_nle hc1
        refine lv_aload_n hx hb dX10_copy_8 rfl (lv_at hl 2 rfl) ?_
        refine lv_iload_n hx hb dX10_copy_9 rfl (lv_at hl 0 rfl) ?_
        refine lv_aload_n hx hb dX10_copy_10 rfl (lv_at hl 1 rfl) ?_
        refine lv_iload_n hx hb dX10_copy_11 rfl (lv_at hl 0 rfl) ?_
        refine m_iald (1014) hx hb hE hM (hJ.2 14 (by decide)).1 rfl (vp_in_iff.mpr (by omega)) dX10_copy_12 ?_
        refine m_iast (1069) hx hb hE hM hS (hJ.2 69 (by decide)).1 rfl (vp_in_iff.mpr (by omega)) dX10_copy_13 (fun H locs I2 eI2 hM hS => ?_)
        subst eI2
        have hI := hI.putF (n := 1069) (k := ((x2_2).toNatClampNeg)) (v := Ia2 (1014) (x2_2).toNatClampNeg) rfl
        have hK := hK.put (n := 1069) (k := ((x2_2).toNatClampNeg)) (v := Ia2 (1014) (x2_2).toNatClampNeg) (by first | rfl | simp [inR])
        obtain ⟨v3, ev3⟩ : ∃ z : Int32, z = x2_2 + Int32.ofInt (1) := ⟨_, rfl⟩
        have tv3 := a_inc ev3 (by decide) (by omega) (by omega)
        refine lv_iinc (v := v3) (lv' := [(2, .int (v3)), (0, .ref (ad (1014))), (1, .ref (ad (1069)))]) hx hb dX10_copy_14 hl (k := 0) rfl ev3.symm (by decide) rfl (fun ls hl => ?_)
        refine lv_goto (tgt := 2) hx hb dX10_copy_17 (by decide) ?_
        exact ih2 (v3) (u2 Ia2 (1069) ((x2_2).toNatClampNeg) (Ia2 (1014) (x2_2).toNatClampNeg)) La2 _ _ ls hI hK (by first | omega | decide) (by rw [u2_ne _ _ _ (by decide)]; exact hca2) (cp_step hcp2 (by decide) hca2 (by omega) (by omega)) (by omega) hM hS (lv_sub hl [0, 1, 2] rfl)
  exact loop2 (_ + 1) (0) I L _ _ ls hI hK (by first | omega | decide) rfl (fun j hj => absurd hj (Nat.not_lt_zero j)) (Nat.lt_succ_self _) hM hS (lv_sub hl [0, 1, 2] rfl)
set_option maxHeartbeats 4000000 in
set_option maxRecDepth 20000 in
theorem V_X10_copy_1069_1014_t (l : Launch) (D : va_G) (A : Nat → Prop) (ad : Nat → Nat) (ns : List Nat) (I : MI) (L : ML) (G : MG) (hJ : SGM ns G) (hI : INV I) : Met l yX10_copy (wd yX10_copy cX10_copy 3 none) ({ frames := 0, cells := 0, slots := 0, locals := 0 }) (va_Pc [.ref (ad (1069)), .ref (ad (1014))] (PM D A ad ns I L G)) (va_Qv (fun u => ∃ I2 L2, u = (ad, ns, I2, L2, G) ∧ INV I2 ∧ Kp [(1014, 1015)] [] I I2 ∧ (CPX 1069 1014 24 I I2)) (BM D A) A) 0 0 A := by
  refine m_ofW (by decide) (Nat.le_of_ble_eq_true rfl) ?_
  intro p e s m below meth c ls args hC hE hM hA hS hl
  obtain ⟨hx, hb, hml, hown, hts, hr, hlocks, hin⟩ := hC
  have k0 : (0 : Int32).toInt = 0 := by decide
  have k24 : (24 : Int32).toInt = 24 := by decide
  have hK : Kp [(1014, 1015)] [] I I := Kp.rf
  have hl : lv_has ls 3 [(0, .ref (ad (1069))), (1, .ref (ad (1014)))] := hl
  refine lv_iconst (v := (0)) hx hb dX10_copy_0 (by decide) ?_
  refine lv_istore_n (lv' := [(2, .int (0)), (0, .ref (ad (1069))), (1, .ref (ad (1014)))]) hx hb dX10_copy_1 rfl hl (by decide) rfl (fun ls hl => ?_)
  have loop2 : ∀ (n : Nat) (x2_2 : Int32) (Ia2 : MI) (La2 : ML) (H : Heap) (locs : List Loc) (ls : Array Slot), INV Ia2 → Kp [(1014, 1015)] [] I Ia2 → (0 ≤ x2_2.toInt ∧ x2_2.toInt ≤ 24) → (Ia2 1069 = I 1069) → (∀ j : Nat, j < (x2_2).toNatClampNeg → Ia2 1014 j = I 1069 j) → (24 - x2_2.toInt).toNat < n → Mem D A ad ns Ia2 La2 G H → va_S A s.heap H locs → lv_has ls 3 [(2, .int (x2_2)), (0, .ref (ad (1069))), (1, .ref (ad (1014)))] → W p l e ({ frames := 0, cells := 0, slots := 0, locals := 0 } : Room) s m args below meth c H locs 0 0 (MQ below (va_Qv (fun u => ∃ I2 L2, u = (ad, ns, I2, L2, G) ∧ INV I2 ∧ Kp [(1014, 1015)] [] I I2 ∧ (CPX 1069 1014 24 I I2)) (BM D A) A) args s 0 0 A) (F0 m 2 ls []) := by
    intro n
    induction n with
    | zero =>
      intro x2_2 Ia2 La2 H locs ls hI hK hr2_2 hca2 hcp2 hmu
      exact absurd hmu (Nat.not_lt_zero _)
    | succ n ih2 =>
      intro x2_2 Ia2 La2 H locs ls hI hK hr2_2 hca2 hcp2 hmu2 hM hS hl
      refine lv_iload_n hx hb dX10_copy_2 rfl (lv_at hl 0 rfl) ?_
      refine lv_aload_n hx hb dX10_copy_3 rfl (lv_at hl 2 rfl) ?_
      refine m_alen 1014 (t0 := 0) (v := 24) hx hb hE hM (hJ.2 14 (by decide)).1 rfl (by decide) rfl rfl dX10_copy_4 ?_
      refine lv_icmp_ge (tgt := 20) hx hb dX10_copy_5 (by decide) (fun c1 => ?_) (fun c1 => ?_)
      · have hc1 := c1
        have q1 := q_le hc1
        exact m_vret hx hb hr hlocks hM hS (Nat.le_of_ble_eq_true rfl) (Nat.le_of_ble_eq_true rfl) ⟨_, _, rfl, hI, hK, (fun j hj => hcp2 j (by have zz := tn (i := x2_2) (by omega); omega))⟩ dX10_copy_20
      · have hc1 := c1
        have q1 := q_nle hc1
        refine lv_aload_n hx hb dX10_copy_8 rfl (lv_at hl 2 rfl) ?_
        refine lv_iload_n hx hb dX10_copy_9 rfl (lv_at hl 0 rfl) ?_
        refine lv_aload_n hx hb dX10_copy_10 rfl (lv_at hl 1 rfl) ?_
        refine lv_iload_n hx hb dX10_copy_11 rfl (lv_at hl 0 rfl) ?_
        refine m_iald (1069) hx hb hE hM (hJ.2 69 (by decide)).1 rfl (vp_in_iff.mpr (by omega)) dX10_copy_12 ?_
        refine m_iast (1014) hx hb hE hM hS (hJ.2 14 (by decide)).1 rfl (vp_in_iff.mpr (by omega)) dX10_copy_13 (fun H locs I2 eI2 hM hS => ?_)
        subst eI2
        have hI := hI.putF (n := 1014) (k := ((x2_2).toNatClampNeg)) (v := Ia2 (1069) (x2_2).toNatClampNeg) rfl
        have hK := hK.put (n := 1014) (k := ((x2_2).toNatClampNeg)) (v := Ia2 (1069) (x2_2).toNatClampNeg) (by first | rfl | simp [inR])
        obtain ⟨v3, ev3⟩ : ∃ z : Int32, z = x2_2 + Int32.ofInt (1) := ⟨_, rfl⟩
        have tv3 := a_inc ev3 (by decide) (by omega) (by omega)
        refine lv_iinc (v := v3) (lv' := [(2, .int (v3)), (0, .ref (ad (1069))), (1, .ref (ad (1014)))]) hx hb dX10_copy_14 hl (k := 0) rfl ev3.symm (by decide) rfl (fun ls hl => ?_)
        refine lv_goto (tgt := 2) hx hb dX10_copy_17 (by decide) ?_
        exact ih2 (v3) (u2 Ia2 (1014) ((x2_2).toNatClampNeg) (Ia2 (1069) (x2_2).toNatClampNeg)) La2 _ _ ls hI hK (by first | omega | decide) (by rw [u2_ne _ _ _ (by decide)]; exact hca2) (cp_step hcp2 (by decide) hca2 (by omega) (by omega)) (by omega) hM hS (lv_sub hl [0, 1, 2] rfl)
  exact loop2 (_ + 1) (0) I L _ _ ls hI hK (by first | omega | decide) rfl (fun j hj => absurd hj (Nat.not_lt_zero j)) (Nat.lt_succ_self _) hM hS (lv_sub hl [0, 1, 2] rfl)
set_option maxHeartbeats 4000000 in
set_option maxRecDepth 20000 in
theorem V_X10_copy_1023_1070_t (l : Launch) (D : va_G) (A : Nat → Prop) (ad : Nat → Nat) (ns : List Nat) (I : MI) (L : ML) (G : MG) (hJ : SGM ns G) (hI : INV I) : Met l yX10_copy (wd yX10_copy cX10_copy 3 none) ({ frames := 0, cells := 0, slots := 0, locals := 0 }) (va_Pc [.ref (ad (1023)), .ref (ad (1070))] (PM D A ad ns I L G)) (va_Qv (fun u => ∃ I2 L2, u = (ad, ns, I2, L2, G) ∧ INV I2 ∧ Kp [(1070, 1071)] [] I I2 ∧ (CPX 1023 1070 8 I I2)) (BM D A) A) 0 0 A := by
  refine m_ofW (by decide) (Nat.le_of_ble_eq_true rfl) ?_
  intro p e s m below meth c ls args hC hE hM hA hS hl
  obtain ⟨hx, hb, hml, hown, hts, hr, hlocks, hin⟩ := hC
  have k0 : (0 : Int32).toInt = 0 := by decide
  have k8 : (8 : Int32).toInt = 8 := by decide
  have hK : Kp [(1070, 1071)] [] I I := Kp.rf
  have hl : lv_has ls 3 [(0, .ref (ad (1023))), (1, .ref (ad (1070)))] := hl
  refine lv_iconst (v := (0)) hx hb dX10_copy_0 (by decide) ?_
  refine lv_istore_n (lv' := [(2, .int (0)), (0, .ref (ad (1023))), (1, .ref (ad (1070)))]) hx hb dX10_copy_1 rfl hl (by decide) rfl (fun ls hl => ?_)
  have loop2 : ∀ (n : Nat) (x2_2 : Int32) (Ia2 : MI) (La2 : ML) (H : Heap) (locs : List Loc) (ls : Array Slot), INV Ia2 → Kp [(1070, 1071)] [] I Ia2 → (0 ≤ x2_2.toInt ∧ x2_2.toInt ≤ 8) → (Ia2 1023 = I 1023) → (∀ j : Nat, j < (x2_2).toNatClampNeg → Ia2 1070 j = I 1023 j) → (8 - x2_2.toInt).toNat < n → Mem D A ad ns Ia2 La2 G H → va_S A s.heap H locs → lv_has ls 3 [(2, .int (x2_2)), (0, .ref (ad (1023))), (1, .ref (ad (1070)))] → W p l e ({ frames := 0, cells := 0, slots := 0, locals := 0 } : Room) s m args below meth c H locs 0 0 (MQ below (va_Qv (fun u => ∃ I2 L2, u = (ad, ns, I2, L2, G) ∧ INV I2 ∧ Kp [(1070, 1071)] [] I I2 ∧ (CPX 1023 1070 8 I I2)) (BM D A) A) args s 0 0 A) (F0 m 2 ls []) := by
    intro n
    induction n with
    | zero =>
      intro x2_2 Ia2 La2 H locs ls hI hK hr2_2 hca2 hcp2 hmu
      exact absurd hmu (Nat.not_lt_zero _)
    | succ n ih2 =>
      intro x2_2 Ia2 La2 H locs ls hI hK hr2_2 hca2 hcp2 hmu2 hM hS hl
      refine lv_iload_n hx hb dX10_copy_2 rfl (lv_at hl 0 rfl) ?_
      refine lv_aload_n hx hb dX10_copy_3 rfl (lv_at hl 2 rfl) ?_
      refine m_alen 1070 (t0 := 0) (v := 8) hx hb hE hM (hJ.2 70 (by decide)).1 rfl (by decide) rfl rfl dX10_copy_4 ?_
      refine lv_icmp_ge (tgt := 20) hx hb dX10_copy_5 (by decide) (fun c1 => ?_) (fun c1 => ?_)
      · have hc1 := c1
        have q1 := q_le hc1
        exact m_vret hx hb hr hlocks hM hS (Nat.le_of_ble_eq_true rfl) (Nat.le_of_ble_eq_true rfl) ⟨_, _, rfl, hI, hK, (fun j hj => hcp2 j (by have zz := tn (i := x2_2) (by omega); omega))⟩ dX10_copy_20
      · have hc1 := c1
        have q1 := q_nle hc1
        refine lv_aload_n hx hb dX10_copy_8 rfl (lv_at hl 2 rfl) ?_
        refine lv_iload_n hx hb dX10_copy_9 rfl (lv_at hl 0 rfl) ?_
        refine lv_aload_n hx hb dX10_copy_10 rfl (lv_at hl 1 rfl) ?_
        refine lv_iload_n hx hb dX10_copy_11 rfl (lv_at hl 0 rfl) ?_
        refine m_iald (1023) hx hb hE hM (hJ.2 23 (by decide)).1 rfl (vp_in_iff.mpr (by omega)) dX10_copy_12 ?_
        refine m_iast (1070) hx hb hE hM hS (hJ.2 70 (by decide)).1 rfl (vp_in_iff.mpr (by omega)) dX10_copy_13 (fun H locs I2 eI2 hM hS => ?_)
        subst eI2
        have hI := hI.putF (n := 1070) (k := ((x2_2).toNatClampNeg)) (v := Ia2 (1023) (x2_2).toNatClampNeg) rfl
        have hK := hK.put (n := 1070) (k := ((x2_2).toNatClampNeg)) (v := Ia2 (1023) (x2_2).toNatClampNeg) (by first | rfl | simp [inR])
        obtain ⟨v3, ev3⟩ : ∃ z : Int32, z = x2_2 + Int32.ofInt (1) := ⟨_, rfl⟩
        have tv3 := a_inc ev3 (by decide) (by omega) (by omega)
        refine lv_iinc (v := v3) (lv' := [(2, .int (v3)), (0, .ref (ad (1023))), (1, .ref (ad (1070)))]) hx hb dX10_copy_14 hl (k := 0) rfl ev3.symm (by decide) rfl (fun ls hl => ?_)
        refine lv_goto (tgt := 2) hx hb dX10_copy_17 (by decide) ?_
        exact ih2 (v3) (u2 Ia2 (1070) ((x2_2).toNatClampNeg) (Ia2 (1023) (x2_2).toNatClampNeg)) La2 _ _ ls hI hK (by first | omega | decide) (by rw [u2_ne _ _ _ (by decide)]; exact hca2) (cp_step hcp2 (by decide) hca2 (by omega) (by omega)) (by omega) hM hS (lv_sub hl [0, 1, 2] rfl)
  exact loop2 (_ + 1) (0) I L _ _ ls hI hK (by first | omega | decide) rfl (fun j hj => absurd hj (Nat.not_lt_zero j)) (Nat.lt_succ_self _) hM hS (lv_sub hl [0, 1, 2] rfl)
set_option maxHeartbeats 4000000 in
set_option maxRecDepth 20000 in
theorem V_X10_copy_1070_1023_t (l : Launch) (D : va_G) (A : Nat → Prop) (ad : Nat → Nat) (ns : List Nat) (I : MI) (L : ML) (G : MG) (hJ : SGM ns G) (hI : INV I) : Met l yX10_copy (wd yX10_copy cX10_copy 3 none) ({ frames := 0, cells := 0, slots := 0, locals := 0 }) (va_Pc [.ref (ad (1070)), .ref (ad (1023))] (PM D A ad ns I L G)) (va_Qv (fun u => ∃ I2 L2, u = (ad, ns, I2, L2, G) ∧ INV I2 ∧ Kp [(1023, 1024)] [] I I2 ∧ (CPX 1070 1023 8 I I2)) (BM D A) A) 0 0 A := by
  refine m_ofW (by decide) (Nat.le_of_ble_eq_true rfl) ?_
  intro p e s m below meth c ls args hC hE hM hA hS hl
  obtain ⟨hx, hb, hml, hown, hts, hr, hlocks, hin⟩ := hC
  have k0 : (0 : Int32).toInt = 0 := by decide
  have k8 : (8 : Int32).toInt = 8 := by decide
  have hK : Kp [(1023, 1024)] [] I I := Kp.rf
  have hl : lv_has ls 3 [(0, .ref (ad (1070))), (1, .ref (ad (1023)))] := hl
  refine lv_iconst (v := (0)) hx hb dX10_copy_0 (by decide) ?_
  refine lv_istore_n (lv' := [(2, .int (0)), (0, .ref (ad (1070))), (1, .ref (ad (1023)))]) hx hb dX10_copy_1 rfl hl (by decide) rfl (fun ls hl => ?_)
  have loop2 : ∀ (n : Nat) (x2_2 : Int32) (Ia2 : MI) (La2 : ML) (H : Heap) (locs : List Loc) (ls : Array Slot), INV Ia2 → Kp [(1023, 1024)] [] I Ia2 → (0 ≤ x2_2.toInt ∧ x2_2.toInt ≤ 8) → (Ia2 1070 = I 1070) → (∀ j : Nat, j < (x2_2).toNatClampNeg → Ia2 1023 j = I 1070 j) → (8 - x2_2.toInt).toNat < n → Mem D A ad ns Ia2 La2 G H → va_S A s.heap H locs → lv_has ls 3 [(2, .int (x2_2)), (0, .ref (ad (1070))), (1, .ref (ad (1023)))] → W p l e ({ frames := 0, cells := 0, slots := 0, locals := 0 } : Room) s m args below meth c H locs 0 0 (MQ below (va_Qv (fun u => ∃ I2 L2, u = (ad, ns, I2, L2, G) ∧ INV I2 ∧ Kp [(1023, 1024)] [] I I2 ∧ (CPX 1070 1023 8 I I2)) (BM D A) A) args s 0 0 A) (F0 m 2 ls []) := by
    intro n
    induction n with
    | zero =>
      intro x2_2 Ia2 La2 H locs ls hI hK hr2_2 hca2 hcp2 hmu
      exact absurd hmu (Nat.not_lt_zero _)
    | succ n ih2 =>
      intro x2_2 Ia2 La2 H locs ls hI hK hr2_2 hca2 hcp2 hmu2 hM hS hl
      refine lv_iload_n hx hb dX10_copy_2 rfl (lv_at hl 0 rfl) ?_
      refine lv_aload_n hx hb dX10_copy_3 rfl (lv_at hl 2 rfl) ?_
      refine m_alen 1023 (t0 := 0) (v := 8) hx hb hE hM (hJ.2 23 (by decide)).1 rfl (by decide) rfl rfl dX10_copy_4 ?_
      refine lv_icmp_ge (tgt := 20) hx hb dX10_copy_5 (by decide) (fun c1 => ?_) (fun c1 => ?_)
      · have hc1 := c1
        have q1 := q_le hc1
        exact m_vret hx hb hr hlocks hM hS (Nat.le_of_ble_eq_true rfl) (Nat.le_of_ble_eq_true rfl) ⟨_, _, rfl, hI, hK, (fun j hj => hcp2 j (by have zz := tn (i := x2_2) (by omega); omega))⟩ dX10_copy_20
      · have hc1 := c1
        have q1 := q_nle hc1
        refine lv_aload_n hx hb dX10_copy_8 rfl (lv_at hl 2 rfl) ?_
        refine lv_iload_n hx hb dX10_copy_9 rfl (lv_at hl 0 rfl) ?_
        refine lv_aload_n hx hb dX10_copy_10 rfl (lv_at hl 1 rfl) ?_
        refine lv_iload_n hx hb dX10_copy_11 rfl (lv_at hl 0 rfl) ?_
        refine m_iald (1070) hx hb hE hM (hJ.2 70 (by decide)).1 rfl (vp_in_iff.mpr (by omega)) dX10_copy_12 ?_
        refine m_iast (1023) hx hb hE hM hS (hJ.2 23 (by decide)).1 rfl (vp_in_iff.mpr (by omega)) dX10_copy_13 (fun H locs I2 eI2 hM hS => ?_)
        subst eI2
        have hI := hI.putF (n := 1023) (k := ((x2_2).toNatClampNeg)) (v := Ia2 (1070) (x2_2).toNatClampNeg) rfl
        have hK := hK.put (n := 1023) (k := ((x2_2).toNatClampNeg)) (v := Ia2 (1070) (x2_2).toNatClampNeg) (by first | rfl | simp [inR])
        obtain ⟨v3, ev3⟩ : ∃ z : Int32, z = x2_2 + Int32.ofInt (1) := ⟨_, rfl⟩
        have tv3 := a_inc ev3 (by decide) (by omega) (by omega)
        refine lv_iinc (v := v3) (lv' := [(2, .int (v3)), (0, .ref (ad (1070))), (1, .ref (ad (1023)))]) hx hb dX10_copy_14 hl (k := 0) rfl ev3.symm (by decide) rfl (fun ls hl => ?_)
        refine lv_goto (tgt := 2) hx hb dX10_copy_17 (by decide) ?_
        exact ih2 (v3) (u2 Ia2 (1023) ((x2_2).toNatClampNeg) (Ia2 (1070) (x2_2).toNatClampNeg)) La2 _ _ ls hI hK (by first | omega | decide) (by rw [u2_ne _ _ _ (by decide)]; exact hca2) (cp_step hcp2 (by decide) hca2 (by omega) (by omega)) (by omega) hM hS (lv_sub hl [0, 1, 2] rfl)
  exact loop2 (_ + 1) (0) I L _ _ ls hI hK (by first | omega | decide) rfl (fun j hj => absurd hj (Nat.not_lt_zero j)) (Nat.lt_succ_self _) hM hS (lv_sub hl [0, 1, 2] rfl)
set_option maxHeartbeats 4000000 in
set_option maxRecDepth 20000 in
theorem V_X10_copy_1071_1072_t (l : Launch) (D : va_G) (A : Nat → Prop) (ad : Nat → Nat) (ns : List Nat) (I : MI) (L : ML) (G : MG) (hJ : SGM ns G) (hI : INV I) : Met l yX10_copy (wd yX10_copy cX10_copy 3 none) ({ frames := 0, cells := 0, slots := 0, locals := 0 }) (va_Pc [.ref (ad (1071)), .ref (ad (1072))] (PM D A ad ns I L G)) (va_Qv (fun u => ∃ I2 L2, u = (ad, ns, I2, L2, G) ∧ INV I2 ∧ Kp [(1072, 1073)] [] I I2 ∧ (CPX 1071 1072 4 I I2)) (BM D A) A) 0 0 A := by
  refine m_ofW (by decide) (Nat.le_of_ble_eq_true rfl) ?_
  intro p e s m below meth c ls args hC hE hM hA hS hl
  obtain ⟨hx, hb, hml, hown, hts, hr, hlocks, hin⟩ := hC
  have k0 : (0 : Int32).toInt = 0 := by decide
  have k4 : (4 : Int32).toInt = 4 := by decide
  have hK : Kp [(1072, 1073)] [] I I := Kp.rf
  have hl : lv_has ls 3 [(0, .ref (ad (1071))), (1, .ref (ad (1072)))] := hl
  refine lv_iconst (v := (0)) hx hb dX10_copy_0 (by decide) ?_
  refine lv_istore_n (lv' := [(2, .int (0)), (0, .ref (ad (1071))), (1, .ref (ad (1072)))]) hx hb dX10_copy_1 rfl hl (by decide) rfl (fun ls hl => ?_)
  have loop2 : ∀ (n : Nat) (x2_2 : Int32) (Ia2 : MI) (La2 : ML) (H : Heap) (locs : List Loc) (ls : Array Slot), INV Ia2 → Kp [(1072, 1073)] [] I Ia2 → (0 ≤ x2_2.toInt ∧ x2_2.toInt ≤ 4) → (Ia2 1071 = I 1071) → (∀ j : Nat, j < (x2_2).toNatClampNeg → Ia2 1072 j = I 1071 j) → (4 - x2_2.toInt).toNat < n → Mem D A ad ns Ia2 La2 G H → va_S A s.heap H locs → lv_has ls 3 [(2, .int (x2_2)), (0, .ref (ad (1071))), (1, .ref (ad (1072)))] → W p l e ({ frames := 0, cells := 0, slots := 0, locals := 0 } : Room) s m args below meth c H locs 0 0 (MQ below (va_Qv (fun u => ∃ I2 L2, u = (ad, ns, I2, L2, G) ∧ INV I2 ∧ Kp [(1072, 1073)] [] I I2 ∧ (CPX 1071 1072 4 I I2)) (BM D A) A) args s 0 0 A) (F0 m 2 ls []) := by
    intro n
    induction n with
    | zero =>
      intro x2_2 Ia2 La2 H locs ls hI hK hr2_2 hca2 hcp2 hmu
      exact absurd hmu (Nat.not_lt_zero _)
    | succ n ih2 =>
      intro x2_2 Ia2 La2 H locs ls hI hK hr2_2 hca2 hcp2 hmu2 hM hS hl
      refine lv_iload_n hx hb dX10_copy_2 rfl (lv_at hl 0 rfl) ?_
      refine lv_aload_n hx hb dX10_copy_3 rfl (lv_at hl 2 rfl) ?_
      refine m_alen 1072 (t0 := 0) (v := 4) hx hb hE hM (hJ.2 72 (by decide)).1 rfl (by decide) rfl rfl dX10_copy_4 ?_
      refine lv_icmp_ge (tgt := 20) hx hb dX10_copy_5 (by decide) (fun c1 => ?_) (fun c1 => ?_)
      · have hc1 := c1
        have q1 := q_le hc1
        exact m_vret hx hb hr hlocks hM hS (Nat.le_of_ble_eq_true rfl) (Nat.le_of_ble_eq_true rfl) ⟨_, _, rfl, hI, hK, (fun j hj => hcp2 j (by have zz := tn (i := x2_2) (by omega); omega))⟩ dX10_copy_20
      · have hc1 := c1
        have q1 := q_nle hc1
        refine lv_aload_n hx hb dX10_copy_8 rfl (lv_at hl 2 rfl) ?_
        refine lv_iload_n hx hb dX10_copy_9 rfl (lv_at hl 0 rfl) ?_
        refine lv_aload_n hx hb dX10_copy_10 rfl (lv_at hl 1 rfl) ?_
        refine lv_iload_n hx hb dX10_copy_11 rfl (lv_at hl 0 rfl) ?_
        refine m_iald (1071) hx hb hE hM (hJ.2 71 (by decide)).1 rfl (vp_in_iff.mpr (by omega)) dX10_copy_12 ?_
        refine m_iast (1072) hx hb hE hM hS (hJ.2 72 (by decide)).1 rfl (vp_in_iff.mpr (by omega)) dX10_copy_13 (fun H locs I2 eI2 hM hS => ?_)
        subst eI2
        have hI := hI.putF (n := 1072) (k := ((x2_2).toNatClampNeg)) (v := Ia2 (1071) (x2_2).toNatClampNeg) rfl
        have hK := hK.put (n := 1072) (k := ((x2_2).toNatClampNeg)) (v := Ia2 (1071) (x2_2).toNatClampNeg) (by first | rfl | simp [inR])
        obtain ⟨v3, ev3⟩ : ∃ z : Int32, z = x2_2 + Int32.ofInt (1) := ⟨_, rfl⟩
        have tv3 := a_inc ev3 (by decide) (by omega) (by omega)
        refine lv_iinc (v := v3) (lv' := [(2, .int (v3)), (0, .ref (ad (1071))), (1, .ref (ad (1072)))]) hx hb dX10_copy_14 hl (k := 0) rfl ev3.symm (by decide) rfl (fun ls hl => ?_)
        refine lv_goto (tgt := 2) hx hb dX10_copy_17 (by decide) ?_
        exact ih2 (v3) (u2 Ia2 (1072) ((x2_2).toNatClampNeg) (Ia2 (1071) (x2_2).toNatClampNeg)) La2 _ _ ls hI hK (by first | omega | decide) (by rw [u2_ne _ _ _ (by decide)]; exact hca2) (cp_step hcp2 (by decide) hca2 (by omega) (by omega)) (by omega) hM hS (lv_sub hl [0, 1, 2] rfl)
  exact loop2 (_ + 1) (0) I L _ _ ls hI hK (by first | omega | decide) rfl (fun j hj => absurd hj (Nat.not_lt_zero j)) (Nat.lt_succ_self _) hM hS (lv_sub hl [0, 1, 2] rfl)
def TRM (n k : Nat) (I J : MI) : Prop := ∃ d, EqV (stV (live I) n k d) (live J)
theorem TRM.rf {n k : Nat} {I J : MI} (h : EqV (live I) (live J)) : TRM n k I J := ⟨live I n k, h.of (stV_same (V := live I) rfl).symm⟩
theorem TRM.step {n k : Nat} {I J J2 : MI} {d : Int32} (h : TRM n k I J) (h2 : EqV (stV (live J) n k d) (live J2)) : TRM n k I J2 := by
  obtain ⟨e, he⟩ := h
  exact ⟨d, (he.st h2).of (stV_two (V := live I))⟩
theorem TRM.fin {n k : Nat} {I J J2 : MI} {d : Int32} (h : TRM n k I J) (h2 : EqV (stV (live J) n k d) (live J2)) (e : d = live I n k) : KM I J2 := by
  obtain ⟨x, hx⟩ := h
  exact (hx.st h2).bk e
