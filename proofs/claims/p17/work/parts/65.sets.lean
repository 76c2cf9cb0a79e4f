theorem cb_le (u : Nat) : ∀ k, cb u k ≤ k := by
  intro k
  induction k with
  | zero => exact Nat.le_refl 0
  | succ k ih =>
    rw [cb]
    omega
theorem and_lt {u : Nat} (h : 0 < u) : u &&& (u - 1) < u := Nat.lt_of_le_of_lt Nat.and_le_right (by omega)
theorem cb_0 : cb (un 0) 32 = 0 := by decide
theorem a_and1 {x v : Int32} (h : v = x &&& 1) : (un v : Int) = (un x % 2 : Nat) ∧ v.toInt = (un x % 2 : Nat) := by
  subst h
  have h1 : un (x &&& 1) = un x % 2 := by
    show (x &&& 1).toBitVec.toNat = _
    rw [Int32.toBitVec_and, BitVec.toNat_and]
    exact Nat.and_one_is_mod _
  have h2 := a_and (x := x) (y := 1) (v := x &&& 1) (c := 1) rfl (by decide) (by decide)
  have h3 := un_nn h2.1
  rw [h1] at h3
  exact ⟨by rw [h1], h3.symm⟩
theorem has_bit {x y t v : Int32} (hx : 0 ≤ x.toInt) (hy : 0 ≤ y.toInt ∧ y.toInt ≤ 31) (ht : t = x >>> (y &&& 31)) (hv : v = t &&& 1) : v.toInt = (un x / 2 ^ y.toNatClampNeg % 2 : Nat) := by
  have h1 := tn hy.1
  have h2 := a_shr ht (k := y.toNatClampNeg) (by omega) (by omega)
  have h3 := un_nn hx
  have h4 : 0 ≤ t.toInt := by
    rw [h2]
    exact Int.ediv_nonneg hx (Int.le_of_lt (Int.pow_pos (by decide)))
  have h5 := un_nn h4
  have h6 : un t = un x / 2 ^ y.toNatClampNeg := by
    have : ((un t : Nat) : Int) = ((un x / 2 ^ y.toNatClampNeg : Nat) : Int) := by
      rw [h5, h2, ← h3]
      simp
    exact Int.ofNat_inj.mp this
  rw [(a_and1 hv).2, h6]
theorem shl3 {n t v : Int32} (hn : 1 ≤ n.toInt ∧ n.toInt ≤ 4) (ht : t.toInt = 3 * n.toInt) (hv : v = 1 <<< (t &&& 31)) : v.toInt ≤ 4096 := by
  have e : t = 3 ∨ t = 6 ∨ t = 9 ∨ t = 12 := by
    rcases (show t.toInt = 3 ∨ t.toInt = 6 ∨ t.toInt = 9 ∨ t.toInt = 12 by omega) with h | h | h | h
    · exact Or.inl (Int32.toInt_inj.mp h)
    · exact Or.inr (Or.inl (Int32.toInt_inj.mp h))
    · exact Or.inr (Or.inr (Or.inl (Int32.toInt_inj.mp h)))
    · exact Or.inr (Or.inr (Or.inr (Int32.toInt_inj.mp h)))
  subst hv
  rcases e with rfl | rfl | rfl | rfl <;> decide
theorem sh_lt {x y v : Int32} (hx : 0 ≤ x.toInt) (hy : 0 ≤ y.toInt ∧ y.toInt ≤ 24) (hv : v = x >>> (y &&& 31)) (h0 : v.toInt = 0) : x.toInt < 16777216 := by
  have h1 := tn hy.1
  have h2 := a_shr hv (k := y.toNatClampNeg) (by omega) (by omega)
  have h3 := un_nn hx
  have h4 : un x / 2 ^ y.toNatClampNeg = 0 := by
    have : ((un x / 2 ^ y.toNatClampNeg : Nat) : Int) = ((0 : Nat) : Int) := by
      rw [← h3, h0] at h2
      simpa using h2.symm
    exact Int.ofNat_inj.mp this
  have h5 : un x < 2 ^ y.toNatClampNeg := by
    rcases Nat.div_eq_zero_iff.mp h4 with h | h
    · exact absurd h (Nat.ne_of_gt (Nat.pow_pos (by decide)))
    · exact h
  have h6 : 2 ^ y.toNatClampNeg ≤ 2 ^ 24 := Nat.pow_le_pow_right (by decide) (by omega)
  have h7 : 2 ^ 24 = 16777216 := by decide
  omega
theorem cb_step (u : Nat) (k : Int32) (hk : 0 ≤ k.toInt) : (cb u (k.toInt + 1).toNat : Int) = (cb u k.toInt.toNat : Int) + (u / 2 ^ k.toNatClampNeg % 2 : Nat) := by
  have h1 := tn hk
  have h2 : (k.toInt + 1).toNat = k.toNatClampNeg + 1 := by omega
  have h3 : k.toInt.toNat = k.toNatClampNeg := by omega
  rw [h2, h3, cb]
  omega
theorem dX10_bits_0 : decode cX10_bits 0 = .ok (.iconst 0, 1) := by decide +kernel
theorem dX10_bits_1 : decode cX10_bits 1 = .ok (.istore_n 1, 1) := by decide +kernel
theorem dX10_bits_2 : decode cX10_bits 2 = .ok (.iload_n 0, 1) := by decide +kernel
theorem dX10_bits_3 : decode cX10_bits 3 = .ok (.istore_n 2, 1) := by decide +kernel
theorem dX10_bits_4 : decode cX10_bits 4 = .ok (.iload_n 2, 1) := by decide +kernel
theorem dX10_bits_5 : decode cX10_bits 5 = .ok (.ifCond .eq 15, 3) := by decide +kernel
theorem dX10_bits_8 : decode cX10_bits 8 = .ok (.iinc 1 1, 3) := by decide +kernel
theorem dX10_bits_11 : decode cX10_bits 11 = .ok (.iload_n 2, 1) := by decide +kernel
theorem dX10_bits_12 : decode cX10_bits 12 = .ok (.iload_n 2, 1) := by decide +kernel
theorem dX10_bits_13 : decode cX10_bits 13 = .ok (.iconst 1, 1) := by decide +kernel
theorem dX10_bits_14 : decode cX10_bits 14 = .ok (.isub, 1) := by decide +kernel
theorem dX10_bits_15 : decode cX10_bits 15 = .ok (.iand, 1) := by decide +kernel
theorem dX10_bits_16 : decode cX10_bits 16 = .ok (.istore_n 2, 1) := by decide +kernel
theorem dX10_bits_17 : decode cX10_bits 17 = .ok (.goto (-13), 3) := by decide +kernel
theorem dX10_bits_20 : decode cX10_bits 20 = .ok (.iload_n 1, 1) := by decide +kernel
theorem dX10_bits_21 : decode cX10_bits 21 = .ok (.ireturn, 1) := by decide +kernel
theorem ce_X10_bits : CeS yX10_bits cX10_bits 3 (some .int) 1 := ⟨tb_1744, tb_11, tb_1745, by decide, by decide, by decide +kernel⟩
set_option maxHeartbeats 4000000 in
set_option maxRecDepth 20000 in
theorem V_X10_bits (l : Launch) (D : va_G) (A : Nat → Prop) (ad : Nat → Nat) (ns : List Nat) (I : MI) (L : ML) (G : MG) (a0 : Int32) (hI : INV I) : Met l yX10_bits (wd yX10_bits cX10_bits 3 (some .int)) ({ frames := 0, cells := 0, slots := 0, locals := 0 }) (va_Pc [.int a0] (PM D A ad ns I L G)) (va_Qi (fun r u => u = (ad, ns, I, L, G) ∧ (r.toInt = (cb (un a0) 32 : Int))) (BM D A) A) 0 0 A := by
  refine m_ofW (by decide) (Nat.le_of_ble_eq_true rfl) ?_
  intro p e s m below meth c ls args hC hE hM hA hS hl
  obtain ⟨hx, hb, hml, hown, hts, hr, hlocks, hin⟩ := hC
  have k0 : (0 : Int32).toInt = 0 := by decide
  have k1 : (1 : Int32).toInt = 1 := by decide
  have hl : lv_has ls 3 [(0, .int (a0))] := hl
  refine lv_iconst (v := (0)) hx hb dX10_bits_0 (by decide) ?_
  refine lv_istore_n (lv' := [(1, .int (0)), (0, .int (a0))]) hx hb dX10_bits_1 rfl hl (by decide) rfl (fun ls hl => ?_)
  refine lv_iload_n hx hb dX10_bits_2 rfl (lv_at hl 1 rfl) ?_
  refine lv_istore_n (lv' := [(2, .int (a0)), (1, .int (0)), (0, .int (a0))]) hx hb dX10_bits_3 rfl hl (by decide) rfl (fun ls hl => ?_)
  have loop4 : ∀ (n : Nat) (x2_4 : Int32) (x1_4 : Int32) (H : Heap) (locs : List Loc) (ls : Array Slot), (0 ≤ x1_4.toInt ∧ x1_4.toInt ≤ 32) → ((x1_4).toInt + (cb (un x2_4) 32 : Int) = (cb (un a0) 32 : Int)) → un x2_4 < n → Mem D A ad ns I L G H → va_S A s.heap H locs → lv_has ls 3 [(2, .int (x2_4)), (1, .int (x1_4)), (0, .int (a0))] → W p l e ({ frames := 0, cells := 0, slots := 0, locals := 0 } : Room) s m args below meth c H locs 0 0 (MQ below (va_Qi (fun r u => u = (ad, ns, I, L, G) ∧ (r.toInt = (cb (un a0) 32 : Int))) (BM D A) A) args s 0 0 A) (F0 m 4 ls []) := by
    intro n
    induction n with
    | zero =>
      intro x2_4 x1_4 H locs ls hr1_4 hcb hmu
      exact absurd hmu (Nat.not_lt_zero _)
    | succ n ih4 =>
      intro x2_4 x1_4 H locs ls hr1_4 hcb hmu4 hM hS hl
      have hle := cb_le (un a0) 32
      refine lv_iload_n hx hb dX10_bits_4 rfl (lv_at hl 0 rfl) ?_
      refine lv_if_eq (tgt := 20) hx hb dX10_bits_5 (by decide) (fun c1 => ?_) (fun c1 => ?_)
      · have hc1 := c1
        have q1 := q_eq hc1
        refine lv_iload_n hx hb dX10_bits_20 rfl (lv_at hl 1 rfl) ?_
        exact m_iret hx hb hr hlocks hM hS (Nat.le_of_ble_eq_true rfl) (Nat.le_of_ble_eq_true rfl) ⟨rfl, (by have hz : x2_4 = 0 := c1; rw [hz] at hcb; have h0 := cb_0; omega)⟩ dX10_bits_21
      · have hc1 := c1
        have q1 := q_ne hc1
        have hcl := cb_clear 32 (un x2_4) (un_nz c1) (un_lt _)
        obtain ⟨v2, ev2⟩ : ∃ z : Int32, z = x1_4 + Int32.ofInt (1) := ⟨_, rfl⟩
        have tv2 := a_inc ev2 (by decide) (by omega) (by omega)
        refine lv_iinc (v := v2) (lv' := [(1, .int (v2)), (2, .int (x2_4)), (0, .int (a0))]) hx hb dX10_bits_8 hl (k := 1) rfl ev2.symm (by decide) rfl (fun ls hl => ?_)
        refine lv_iload_n hx hb dX10_bits_11 rfl (lv_at hl 1 rfl) ?_
        refine lv_iload_n hx hb dX10_bits_12 rfl (lv_at hl 1 rfl) ?_
        refine lv_iconst (v := (1)) hx hb dX10_bits_13 (by decide) ?_
        refine lv_isub hx hb dX10_bits_14 ?_
        refine lv_topi (fun v3 ev3 => ?_)
        refine lv_iand hx hb dX10_bits_15 ?_
        refine lv_topi (fun v4 ev4 => ?_)
        refine lv_istore_n (lv' := [(2, .int (v4)), (1, .int (v2)), (0, .int (a0))]) hx hb dX10_bits_16 rfl hl (by decide) rfl (fun ls hl => ?_)
        refine lv_goto (tgt := 4) hx hb dX10_bits_17 (by decide) ?_
        exact ih4 (v4) (v2) _ _ ls (by first | omega | decide) (by rw [un_step c1 ev3 ev4]; omega) (by rw [un_step c1 ev3 ev4]; have := and_lt (un_nz c1); omega) hM hS (lv_sub hl [0, 1, 2] rfl)
  exact loop4 (_ + 1) (a0) (0) _ _ ls (by first | omega | decide) (by rw [k0]; exact Int.zero_add _) (Nat.lt_succ_self _) hM hS (lv_sub hl [0, 1, 2] rfl)
set_option maxHeartbeats 4000000 in
set_option maxRecDepth 20000 in
theorem V_X10_has_b (l : Launch) (D : va_G) (A : Nat → Prop) (ad : Nat → Nat) (ns : List Nat) (I : MI) (L : ML) (G : MG) (a0 : Int32) (a1 : Int32) (hI : INV I) (h0 : 0 ≤ a0.toInt) (ha1 : 0 ≤ a1.toInt ∧ a1.toInt ≤ 31) : Met l yX10_has (wd yX10_has cX10_has 2 (some .boolean)) ({ frames := 0, cells := 0, slots := 0, locals := 0 }) (va_Pc [.int a0, .int a1] (PM D A ad ns I L G)) (va_Qi (fun r u => u = (ad, ns, I, L, G) ∧ (Bo r (un a0 / 2 ^ a1.toNatClampNeg % 2 = 1))) (BM D A) A) 0 0 A := by
  refine m_ofW (by decide) (Nat.le_of_ble_eq_true rfl) ?_
  intro p e s m below meth c ls args hC hE hM hA hS hl
  obtain ⟨hx, hb, hml, hown, hts, hr, hlocks, hin⟩ := hC
  have k0 : (0 : Int32).toInt = 0 := by decide
  have k1 : (1 : Int32).toInt = 1 := by decide
  have hl : lv_has ls 2 [(0, .int (a0)), (1, .int (a1))] := hl
  refine lv_iload_n hx hb dX10_has_0 rfl (lv_at hl 0 rfl) ?_
  refine lv_iload_n hx hb dX10_has_1 rfl (lv_at hl 1 rfl) ?_
  refine lv_ishr hx hb dX10_has_2 ?_
  refine lv_topi (fun v1 ev1 => ?_)
  refine lv_iconst (v := (1)) hx hb dX10_has_3 (by decide) ?_
  refine lv_iand hx hb dX10_has_4 ?_
  refine lv_topi (fun v2 ev2 => ?_)
  have tv2 := a_and (c := 1) ev2 (by decide) (by decide)
  refine lv_iconst (v := (1)) hx hb dX10_has_5 (by decide) ?_
  refine lv_icmp_ne (tgt := 13) hx hb dX10_has_6 (by decide) (fun c3 => ?_) (fun c3 => ?_)
  · have hc3 := c3
    have q3 := q_ne hc3
    refine lv_iconst (v := (0)) hx hb dX10_has_13 (by decide) ?_
    exact m_zret hx hb hr rfl hlocks hM hS (Nat.le_of_ble_eq_true rfl) (Nat.le_of_ble_eq_true rfl) ⟨rfl, (by have hq := has_bit h0 ha1 ev1 ev2; exact Bo.n (by omega))⟩ dX10_has_14
  · have hc3 := c3
    have q3 := q_eq hc3
    refine lv_iconst (v := (1)) hx hb dX10_has_9 (by decide) ?_
    refine lv_goto (tgt := 14) hx hb dX10_has_10 (by decide) ?_
    exact m_zret hx hb hr rfl hlocks hM hS (Nat.le_of_ble_eq_true rfl) (Nat.le_of_ble_eq_true rfl) ⟨rfl, (by have hq := has_bit h0 ha1 ev1 ev2; exact Bo.y (by omega))⟩ dX10_has_14
theorem dX10_isSet_0 : decode cX10_isSet 0 = .ok (.iload_n 1, 1) := by decide +kernel
theorem dX10_isSet_1 : decode cX10_isSet 1 = .ok (.ifCond .le 34, 3) := by decide +kernel
theorem dX10_isSet_4 : decode cX10_isSet 4 = .ok (.iload_n 1, 1) := by decide +kernel
theorem dX10_isSet_5 : decode cX10_isSet 5 = .ok (.aload_n 0, 1) := by decide +kernel
theorem dX10_isSet_6 : decode cX10_isSet 6 = .ok (.getfield 7, 3) := by decide +kernel
theorem dX10_isSet_9 : decode cX10_isSet 9 = .ok (.bipush 8, 2) := by decide +kernel
theorem dX10_isSet_11 : decode cX10_isSet 11 = .ok (.iaload, 1) := by decide +kernel
theorem dX10_isSet_12 : decode cX10_isSet 12 = .ok (.ishr, 1) := by decide +kernel
theorem dX10_isSet_13 : decode cX10_isSet 13 = .ok (.ifCond .ne 22, 3) := by decide +kernel
theorem dX10_isSet_16 : decode cX10_isSet 16 = .ok (.iload_n 1, 1) := by decide +kernel
theorem dX10_isSet_17 : decode cX10_isSet 17 = .ok (.invokestatic 488, 3) := by decide +kernel
theorem dX10_isSet_20 : decode cX10_isSet 20 = .ok (.i2l, 1) := by decide +kernel
theorem dX10_isSet_21 : decode cX10_isSet 21 = .ok (.lconst 1, 1) := by decide +kernel
theorem dX10_isSet_22 : decode cX10_isSet 22 = .ok (.ldc2_w 200, 3) := by decide +kernel
theorem dX10_isSet_25 : decode cX10_isSet 25 = .ok (.invokestatic 192, 3) := by decide +kernel
theorem dX10_isSet_28 : decode cX10_isSet 28 = .ok (.ifCond .eq 7, 3) := by decide +kernel
theorem dX10_isSet_31 : decode cX10_isSet 31 = .ok (.iconst 1, 1) := by decide +kernel
theorem dX10_isSet_32 : decode cX10_isSet 32 = .ok (.goto 4, 3) := by decide +kernel
theorem dX10_isSet_35 : decode cX10_isSet 35 = .ok (.iconst 0, 1) := by decide +kernel
theorem dX10_isSet_36 : decode cX10_isSet 36 = .ok (.ireturn, 1) := by decide +kernel
theorem ce_X10_isSet : CeV RX10 yX10_isSet cX10_isSet 2 (some .boolean) 1 := ⟨tb_1741, tp_98, tb_11, tb_1742, rfl, by decide, by decide, by decide +kernel⟩
set_option maxHeartbeats 4000000 in
set_option maxRecDepth 20000 in
theorem V_X10_isSet (l : Launch) (D : va_G) (A : Nat → Prop) (ad : Nat → Nat) (ns : List Nat) (I : MI) (L : ML) (G : MG) (a0 : Int32) (hJ : SGM ns G) (hI : INV I) : Met l yX10_isSet (wd yX10_isSet cX10_isSet 2 (some .boolean)) ({ frames := 1, cells := 0, slots := 0, locals := 25 }) (va_Pc [.ref (ad (1000)), .int a0] (PM D A ad ns I L G)) (va_Qi (fun r u => u = (ad, ns, I, L, G) ∧ ((r.toInt = 0 ∨ (0 < a0.toInt ∧ a0.toInt < 16777216 ∧ 1 ≤ (cb (un a0) 32 : Int) ∧ (cb (un a0) 32 : Int) ≤ 4)) ∧ 0 ≤ r.toInt ∧ r.toInt ≤ 1)) (BM D A) A) 0 0 A := by
  refine m_ofW (by decide) (Nat.le_of_ble_eq_true rfl) ?_
  intro p e s m below meth c ls args hC hE hM hA hS hl
  obtain ⟨hx, hb, hml, hown, hts, hr, hlocks, hin⟩ := hC
  have k0 : (0 : Int32).toInt = 0 := by decide
  have k1 : (1 : Int32).toInt = 1 := by decide
  have k8 : (8 : Int32).toInt = 8 := by decide
  have kl1 : (1 : Int64).toInt = 1 := by decide
  have kl4 : (4 : Int64).toInt = 4 := by decide
  have hl : lv_has ls 2 [(0, .ref (ad (1000))), (1, .int (a0))] := hl
  refine lv_iload_n hx hb dX10_isSet_0 rfl (lv_at hl 1 rfl) ?_
  refine lv_if_le (tgt := 35) hx hb dX10_isSet_1 (by decide) (fun c1 => ?_) (fun c1 => ?_)
  · have hc1 := c1
    have q1 := q_le hc1
    refine lv_iconst (v := (0)) hx hb dX10_isSet_35 (by decide) ?_
    exact m_zret hx hb hr rfl hlocks hM hS (Nat.le_of_ble_eq_true rfl) (Nat.le_of_ble_eq_true rfl) ⟨rfl, (by first | omega | decide)⟩ dX10_isSet_36
  · have hc1 := c1
    have q1 := q_nle hc1
    refine lv_iload_n hx hb dX10_isSet_4 rfl (lv_at hl 1 rfl) ?_
    refine lv_aload_n hx hb dX10_isSet_5 rfl (lv_at hl 0 rfl) ?_
    refine m_getr (1000) 1 (1001) hx hb hts hown hE oc10 hM hJ.1 rfl (by decide) rfl (hJ.2 1 (by decide)).2 (by decide) tb_1178 dX10_isSet_6 ?_
    refine lv_bipush (v := (8)) hx hb dX10_isSet_9 (by decide) ?_
    refine m_iald (1001) hx hb hE hM (hJ.2 1 (by decide)).1 rfl (vp_in_iff.mpr (by decide)) dX10_isSet_11 ?_
    rw [show (8 : Int32).toNatClampNeg = 8 from rfl]
    have g2 := hI.get (1001) 8 (lo := 0) (hi := 24) rfl
    refine lv_ishr hx hb dX10_isSet_12 ?_
    refine lv_topi (fun v3 ev3 => ?_)
    refine lv_if_ne (tgt := 35) hx hb dX10_isSet_13 (by decide) (fun c4 => ?_) (fun c4 => ?_)
    · have hc4 := c4
      have q4 := q_ne hc4
      refine lv_iconst (v := (0)) hx hb dX10_isSet_35 (by decide) ?_
      exact m_zret hx hb hr rfl hlocks hM hS (Nat.le_of_ble_eq_true rfl) (Nat.le_of_ble_eq_true rfl) ⟨rfl, (by first | omega | decide)⟩ dX10_isSet_36
    · have hc4 := c4
      have q4 := q_eq hc4
      have hsl := sh_lt (by omega) (by omega) ev3 (by omega)
      refine lv_iload_n hx hb dX10_isSet_16 rfl (lv_at hl 1 rfl) ?_
      refine m_calli (m_runS (As := [.int (a0)]) (rest := []) hx hb hml hown hts hE hM hS hA ce_X10_bits tb_1743 (V_X10_bits l D A ad ns I L G (a0) hI) rfl rfl ⟨Nat.le_of_ble_eq_true rfl, Nat.le_of_ble_eq_true rfl⟩  rfl hl.1 rfl (Nat.le_of_ble_eq_true rfl) dX10_isSet_17 ⟨Nat.le_of_ble_eq_true rfl, Nat.le_of_ble_eq_true rfl⟩) hS (fun r5 u H locs hw hM hS => ?_)
      obtain ⟨rfl, xr5⟩ := hw
      have hM : Mem D A ad ns I L G H := hM
      refine lv_i2l hx hb dX10_isSet_20 rfl ?_
      refine lv_topl (fun v6 ev6 => ?_)
      have tv6 := q_i2l ev6
      refine lv_lconst (v := 1) hx hb dX10_isSet_21 (by decide) ?_
      refine lv_ldc2 (v := (4)) hx hb hown (hts _ tb_1423) dX10_isSet_22 ?_
      refine m_calli (m_runS (As := [.long (v6), .long (1), .long ((4 : Int64))]) (rest := []) hx hb hml hown hts hE hM hS hA ce_X10_in tb_1425 (V_X10_in l D A ad ns I L G (v6) (1) ((4 : Int64)) hI) rfl rfl ⟨Nat.le_of_ble_eq_true rfl, Nat.le_of_ble_eq_true rfl⟩  rfl hl.1 rfl (Nat.le_of_ble_eq_true rfl) dX10_isSet_25 ⟨Nat.le_of_ble_eq_true rfl, Nat.le_of_ble_eq_true rfl⟩) hS (fun r7 u H locs hw hM hS => ?_)
      obtain ⟨rfl, xr7⟩ := hw
      have hM : Mem D A ad ns I L G H := hM
      have yr7 := bo01 xr7
      refine lv_if_eq (tgt := 35) hx hb dX10_isSet_28 (by decide) (fun c8 => ?_) (fun c8 => ?_)
      · have hc8 := c8
        have q8 := xr7.f hc8
        refine lv_iconst (v := (0)) hx hb dX10_isSet_35 (by decide) ?_
        exact m_zret hx hb hr rfl hlocks hM hS (Nat.le_of_ble_eq_true rfl) (Nat.le_of_ble_eq_true rfl) ⟨rfl, (by first | omega | decide)⟩ dX10_isSet_36
      · have hc8 := c8
        have q8 := xr7.t hc8
        refine lv_iconst (v := (1)) hx hb dX10_isSet_31 (by decide) ?_
        refine lv_goto (tgt := 36) hx hb dX10_isSet_32 (by decide) ?_
        exact m_zret hx hb hr rfl hlocks hM hS (Nat.le_of_ble_eq_true rfl) (Nat.le_of_ble_eq_true rfl) ⟨rfl, (by first | omega | decide)⟩ dX10_isSet_36
theorem dX10_searches_0 : decode cX10_searches 0 = .ok (.aload_n 0, 1) := by decide +kernel
theorem dX10_searches_1 : decode cX10_searches 1 = .ok (.getfield 34, 3) := by decide +kernel
theorem dX10_searches_4 : decode cX10_searches 4 = .ok (.aload_n 0, 1) := by decide +kernel
theorem dX10_searches_5 : decode cX10_searches 5 = .ok (.getfield 158, 3) := by decide +kernel
theorem dX10_searches_8 : decode cX10_searches 8 = .ok (.invokestatic 483, 3) := by decide +kernel
theorem dX10_searches_11 : decode cX10_searches 11 = .ok (.iload_n 3, 1) := by decide +kernel
theorem dX10_searches_12 : decode cX10_searches 12 = .ok (.invokestatic 488, 3) := by decide +kernel
theorem dX10_searches_15 : decode cX10_searches 15 = .ok (.istore 4, 2) := by decide +kernel
theorem dX10_searches_17 : decode cX10_searches 17 = .ok (.iconst (-1), 1) := by decide +kernel
theorem dX10_searches_18 : decode cX10_searches 18 = .ok (.istore 5, 2) := by decide +kernel
theorem dX10_searches_20 : decode cX10_searches 20 = .ok (.iconst 0, 1) := by decide +kernel
theorem dX10_searches_21 : decode cX10_searches 21 = .ok (.istore 6, 2) := by decide +kernel
theorem dX10_searches_23 : decode cX10_searches 23 = .ok (.iload 6, 2) := by decide +kernel
theorem dX10_searches_25 : decode cX10_searches 25 = .ok (.iconst 1, 1) := by decide +kernel
theorem dX10_searches_26 : decode cX10_searches 26 = .ok (.iconst 3, 1) := by decide +kernel
theorem dX10_searches_27 : decode cX10_searches 27 = .ok (.iload 4, 2) := by decide +kernel
theorem dX10_searches_29 : decode cX10_searches 29 = .ok (.imul, 1) := by decide +kernel
theorem dX10_searches_30 : decode cX10_searches 30 = .ok (.ishl, 1) := by decide +kernel
theorem dX10_searches_31 : decode cX10_searches 31 = .ok (.if_icmp .ge 124, 3) := by decide +kernel
theorem dX10_searches_34 : decode cX10_searches 34 = .ok (.iload 6, 2) := by decide +kernel
theorem dX10_searches_36 : decode cX10_searches 36 = .ok (.istore 7, 2) := by decide +kernel
theorem dX10_searches_38 : decode cX10_searches 38 = .ok (.iload 4, 2) := by decide +kernel
theorem dX10_searches_40 : decode cX10_searches 40 = .ok (.iconst 1, 1) := by decide +kernel
theorem dX10_searches_41 : decode cX10_searches 41 = .ok (.isub, 1) := by decide +kernel
theorem dX10_searches_42 : decode cX10_searches 42 = .ok (.istore 8, 2) := by decide +kernel
theorem dX10_searches_44 : decode cX10_searches 44 = .ok (.bipush 23, 2) := by decide +kernel
theorem dX10_searches_46 : decode cX10_searches 46 = .ok (.istore 9, 2) := by decide +kernel
theorem dX10_searches_48 : decode cX10_searches 48 = .ok (.iload 9, 2) := by decide +kernel
theorem dX10_searches_50 : decode cX10_searches 50 = .ok (.ifCond .lt 52, 3) := by decide +kernel
theorem dX10_searches_53 : decode cX10_searches 53 = .ok (.iload_n 3, 1) := by decide +kernel
theorem dX10_searches_54 : decode cX10_searches 54 = .ok (.iload 9, 2) := by decide +kernel
theorem dX10_searches_56 : decode cX10_searches 56 = .ok (.invokestatic 491, 3) := by decide +kernel
theorem dX10_searches_59 : decode cX10_searches 59 = .ok (.ifCond .eq 37, 3) := by decide +kernel
theorem dX10_searches_62 : decode cX10_searches 62 = .ok (.aload_n 0, 1) := by decide +kernel
theorem dX10_searches_63 : decode cX10_searches 63 = .ok (.getfield 34, 3) := by decide +kernel
theorem dX10_searches_66 : decode cX10_searches 66 = .ok (.iload 9, 2) := by decide +kernel
theorem dX10_searches_68 : decode cX10_searches 68 = .ok (.iload 7, 2) := by decide +kernel
theorem dX10_searches_70 : decode cX10_searches 70 = .ok (.bipush 8, 2) := by decide +kernel
theorem dX10_searches_72 : decode cX10_searches 72 = .ok (.irem, 1) := by decide +kernel
theorem dX10_searches_73 : decode cX10_searches 73 = .ok (.iastore, 1) := by decide +kernel
theorem dX10_searches_74 : decode cX10_searches 74 = .ok (.aload_n 0, 1) := by decide +kernel
theorem dX10_searches_75 : decode cX10_searches 75 = .ok (.getfield 170, 3) := by decide +kernel
theorem dX10_searches_78 : decode cX10_searches 78 = .ok (.iload 8, 2) := by decide +kernel
theorem dX10_searches_80 : decode cX10_searches 80 = .ok (.iload 7, 2) := by decide +kernel
theorem dX10_searches_82 : decode cX10_searches 82 = .ok (.bipush 8, 2) := by decide +kernel
theorem dX10_searches_84 : decode cX10_searches 84 = .ok (.irem, 1) := by decide +kernel
theorem dX10_searches_85 : decode cX10_searches 85 = .ok (.iastore, 1) := by decide +kernel
theorem dX10_searches_86 : decode cX10_searches 86 = .ok (.iload 7, 2) := by decide +kernel
theorem dX10_searches_88 : decode cX10_searches 88 = .ok (.bipush 8, 2) := by decide +kernel
theorem dX10_searches_90 : decode cX10_searches 90 = .ok (.idiv, 1) := by decide +kernel
theorem dX10_searches_91 : decode cX10_searches 91 = .ok (.istore 7, 2) := by decide +kernel
theorem dX10_searches_93 : decode cX10_searches 93 = .ok (.iinc 8 (-1), 3) := by decide +kernel
theorem dX10_searches_96 : decode cX10_searches 96 = .ok (.iinc 9 (-1), 3) := by decide +kernel
theorem dX10_searches_99 : decode cX10_searches 99 = .ok (.goto (-51), 3) := by decide +kernel
theorem dX10_searches_102 : decode cX10_searches 102 = .ok (.aload_n 0, 1) := by decide +kernel
theorem dX10_searches_103 : decode cX10_searches 103 = .ok (.iload_n 1, 1) := by decide +kernel
theorem dX10_searches_104 : decode cX10_searches 104 = .ok (.invokevirtual 404, 3) := by decide +kernel
theorem dX10_searches_107 : decode cX10_searches 107 = .ok (.iload_n 2, 1) := by decide +kernel
theorem dX10_searches_108 : decode cX10_searches 108 = .ok (.iconst (-1), 1) := by decide +kernel
theorem dX10_searches_109 : decode cX10_searches 109 = .ok (.if_icmp .ne 10, 3) := by decide +kernel
theorem dX10_searches_112 : decode cX10_searches 112 = .ok (.aload_n 0, 1) := by decide +kernel
theorem dX10_searches_113 : decode cX10_searches 113 = .ok (.invokevirtual 494, 3) := by decide +kernel
theorem dX10_searches_116 : decode cX10_searches 116 = .ok (.goto 9, 3) := by decide +kernel
theorem dX10_searches_119 : decode cX10_searches 119 = .ok (.aload_n 0, 1) := by decide +kernel
theorem dX10_searches_120 : decode cX10_searches 120 = .ok (.getfield 133, 3) := by decide +kernel
theorem dX10_searches_123 : decode cX10_searches 123 = .ok (.iload_n 2, 1) := by decide +kernel
theorem dX10_searches_124 : decode cX10_searches 124 = .ok (.iaload, 1) := by decide +kernel
theorem dX10_searches_125 : decode cX10_searches 125 = .ok (.istore 9, 2) := by decide +kernel
theorem dX10_searches_127 : decode cX10_searches 127 = .ok (.iload 9, 2) := by decide +kernel
theorem dX10_searches_129 : decode cX10_searches 129 = .ok (.iload 5, 2) := by decide +kernel
theorem dX10_searches_131 : decode cX10_searches 131 = .ok (.if_icmp .le 18, 3) := by decide +kernel
theorem dX10_searches_134 : decode cX10_searches 134 = .ok (.iload 9, 2) := by decide +kernel
theorem dX10_searches_136 : decode cX10_searches 136 = .ok (.istore 5, 2) := by decide +kernel
theorem dX10_searches_138 : decode cX10_searches 138 = .ok (.aload_n 0, 1) := by decide +kernel
theorem dX10_searches_139 : decode cX10_searches 139 = .ok (.getfield 170, 3) := by decide +kernel
theorem dX10_searches_142 : decode cX10_searches 142 = .ok (.aload_n 0, 1) := by decide +kernel
theorem dX10_searches_143 : decode cX10_searches 143 = .ok (.getfield 173, 3) := by decide +kernel
theorem dX10_searches_146 : decode cX10_searches 146 = .ok (.invokestatic 483, 3) := by decide +kernel
theorem dX10_searches_149 : decode cX10_searches 149 = .ok (.iinc 6 1, 3) := by decide +kernel
theorem dX10_searches_152 : decode cX10_searches 152 = .ok (.goto (-129), 3) := by decide +kernel
theorem dX10_searches_155 : decode cX10_searches 155 = .ok (.aload_n 0, 1) := by decide +kernel
theorem dX10_searches_156 : decode cX10_searches 156 = .ok (.getfield 158, 3) := by decide +kernel
theorem dX10_searches_159 : decode cX10_searches 159 = .ok (.aload_n 0, 1) := by decide +kernel
theorem dX10_searches_160 : decode cX10_searches 160 = .ok (.getfield 34, 3) := by decide +kernel
theorem dX10_searches_163 : decode cX10_searches 163 = .ok (.invokestatic 483, 3) := by decide +kernel
theorem dX10_searches_166 : decode cX10_searches 166 = .ok (.iload 5, 2) := by decide +kernel
theorem dX10_searches_168 : decode cX10_searches 168 = .ok (.ireturn, 1) := by decide +kernel
theorem ce_X10_searches : CeV RX10 yX10_searches cX10_searches 10 (some .int) 3 := ⟨tb_1748, tp_99, tb_11, tb_1749, rfl, by decide, by decide, by decide +kernel⟩
set_option maxHeartbeats 4000000 in
set_option maxRecDepth 20000 in
theorem V_X10_searches (l : Launch) (D : va_G) (A : Nat → Prop) (ad : Nat → Nat) (ns : List Nat) (I : MI) (L : ML) (G : MG) (a0 : Int32) (a1 : Int32) (a2 : Int32) (hJ : SGM ns G) (hI : INV I) (hset : 0 < a2.toInt ∧ a2.toInt < 16777216 ∧ 1 ≤ (cb (un a2) 32 : Int) ∧ (cb (un a2) 32 : Int) ≤ 4) (ha0 : 0 ≤ a0.toInt ∧ a0.toInt ≤ 23) (ha1 : -1 ≤ a1.toInt ∧ a1.toInt ≤ 7) : Met l yX10_searches (wd yX10_searches cX10_searches 10 (some .int)) ({ frames := 5, cells := 0, slots := 0, locals := 128 }) (va_Pc [.ref (ad (1000)), .int a0, .int a1, .int a2] (PM D A ad ns I L G)) (va_Qi (fun r u => ∃ I2 L2, u = (ad, ns, I2, L2, G) ∧ INV I2 ∧ Kp [(1009, 1010), (1045, 1051), (1058, 1059), (1061, 1063), (1067, 1068), (1071, 1073)] [(1000, 51), (1000, 52), (1000, 53), (1000, 54), (1000, 55), (1000, 56), (1000, 59), (1000, 63)] I I2) (BM D A) A) 0 0 A := by
  refine m_ofW (by decide) (Nat.le_of_ble_eq_true rfl) ?_
  intro p e s m below meth c ls args hC hE hM hA hS hl
  obtain ⟨hx, hb, hml, hown, hts, hr, hlocks, hin⟩ := hC
  have km1 : (-1 : Int32).toInt = -1 := by decide
  have k0 : (0 : Int32).toInt = 0 := by decide
  have k1 : (1 : Int32).toInt = 1 := by decide
  have k3 : (3 : Int32).toInt = 3 := by decide
  have k8 : (8 : Int32).toInt = 8 := by decide
  have k23 : (23 : Int32).toInt = 23 := by decide
  have hK : Kp [(1009, 1010), (1045, 1051), (1058, 1059), (1061, 1063), (1067, 1068), (1071, 1073)] [(1000, 51), (1000, 52), (1000, 53), (1000, 54), (1000, 55), (1000, 56), (1000, 59), (1000, 63)] I I := Kp.rf
  have hl : lv_has ls 10 [(0, .ref (ad (1000))), (1, .int (a0)), (2, .int (a1)), (3, .int (a2))] := hl
  refine lv_aload_n hx hb dX10_searches_0 rfl (lv_at hl 0 rfl) ?_
  refine m_getr (1000) 9 (1009) hx hb hts hown hE oc10 hM hJ.1 rfl (by decide) rfl (hJ.2 9 (by decide)).2 (by decide) tb_1186 dX10_searches_1 ?_
  refine lv_aload_n hx hb dX10_searches_4 rfl (lv_at hl 0 rfl) ?_
  refine m_getr (1000) 67 (1067) hx hb hts hown hE oc10 hM hJ.1 rfl (by decide) rfl (hJ.2 67 (by decide)).2 (by decide) tb_1244 dX10_searches_5 ?_
  refine m_callv (m_runS (As := [.ref (ad (1009)), .ref (ad (1067))]) (rest := []) hx hb hml hown hts hE hM hS hA ce_X10_copy tb_1723 (V_X10_copy_1009_1067 l D A ad ns I L G hJ hI) rfl rfl ⟨Nat.le_of_ble_eq_true rfl, Nat.le_of_ble_eq_true rfl⟩  rfl hl.1 rfl (Nat.le_of_ble_eq_true rfl) dX10_searches_8 ⟨Nat.le_of_ble_eq_true rfl, Nat.le_of_ble_eq_true rfl⟩) hS (fun u H locs hw hM hS => ?_)
  obtain ⟨I1, L2, rfl, hI, hkI1⟩ := hw
  have hM : Mem D A ad ns I1 L2 G H := hM
  have hK := hK.trans hkI1 rfl
  refine lv_iload_n hx hb dX10_searches_11 rfl (lv_at hl 3 rfl) ?_
  refine m_calli (m_runS (As := [.int (a2)]) (rest := []) hx hb hml hown hts hE hM hS hA ce_X10_bits tb_1743 (V_X10_bits l D A ad ns I1 L2 G (a2) hI) rfl rfl ⟨Nat.le_of_ble_eq_true rfl, Nat.le_of_ble_eq_true rfl⟩  rfl hl.1 rfl (Nat.le_of_ble_eq_true rfl) dX10_searches_12 ⟨Nat.le_of_ble_eq_true rfl, Nat.le_of_ble_eq_true rfl⟩) hS (fun r3 u H locs hw hM hS => ?_)
  obtain ⟨rfl, xr3⟩ := hw
  have hM : Mem D A ad ns I1 L2 G H := hM
  refine lv_istore (lv' := [(4, .int (r3)), (0, .ref (ad (1000))), (1, .int (a0)), (2, .int (a1)), (3, .int (a2))]) hx hb dX10_searches_15 hl (by decide) rfl (fun ls hl => ?_)
  refine lv_iconst (v := (-1)) hx hb dX10_searches_17 (by decide) ?_
  refine lv_istore (lv' := [(5, .int ((-1 : Int32))), (4, .int (r3)), (0, .ref (ad (1000))), (1, .int (a0)), (2, .int (a1)), (3, .int (a2))]) hx hb dX10_searches_18 hl (by decide) rfl (fun ls hl => ?_)
  refine lv_iconst (v := (0)) hx hb dX10_searches_20 (by decide) ?_
  refine lv_istore (lv' := [(6, .int (0)), (5, .int ((-1 : Int32))), (4, .int (r3)), (0, .ref (ad (1000))), (1, .int (a0)), (2, .int (a1)), (3, .int (a2))]) hx hb dX10_searches_21 hl (by decide) rfl (fun ls hl => ?_)
  have loop23 : ∀ (n : Nat) (x6_23 : Int32) (x5_23 : Int32) (Ia23 : MI) (La23 : ML) (H : Heap) (locs : List Loc) (ls : Array Slot), INV Ia23 → Kp [(1009, 1010), (1045, 1051), (1058, 1059), (1061, 1063), (1067, 1068), (1071, 1073)] [(1000, 51), (1000, 52), (1000, 53), (1000, 54), (1000, 55), (1000, 56), (1000, 59), (1000, 63)] I Ia23 → (0 ≤ x6_23.toInt ∧ x6_23.toInt ≤ 4096) → (4096 - x6_23.toInt).toNat < n → Mem D A ad ns Ia23 La23 G H → va_S A s.heap H locs → lv_has ls 10 [(6, .int (x6_23)), (5, .int (x5_23)), (4, .int (r3)), (0, .ref (ad (1000))), (1, .int (a0)), (2, .int (a1)), (3, .int (a2))] → W p l e ({ frames := 5, cells := 0, slots := 0, locals := 128 } : Room) s m args below meth c H locs 0 0 (MQ below (va_Qi (fun r u => ∃ I2 L2, u = (ad, ns, I2, L2, G) ∧ INV I2 ∧ Kp [(1009, 1010), (1045, 1051), (1058, 1059), (1061, 1063), (1067, 1068), (1071, 1073)] [(1000, 51), (1000, 52), (1000, 53), (1000, 54), (1000, 55), (1000, 56), (1000, 59), (1000, 63)] I I2) (BM D A) A) args s 0 0 A) (F0 m 23 ls []) := by
    intro n
    induction n with
    | zero =>
      intro x6_23 x5_23 Ia23 La23 H locs ls hI hK hr6_23 hmu
      exact absurd hmu (Nat.not_lt_zero _)
    | succ n ih23 =>
      intro x6_23 x5_23 Ia23 La23 H locs ls hI hK hr6_23 hmu23 hM hS hl
      refine lv_iload hx hb dX10_searches_23 (lv_at hl 0 rfl) ?_
      refine lv_iconst (v := (1)) hx hb dX10_searches_25 (by decide) ?_
      refine lv_iconst (v := (3)) hx hb dX10_searches_26 (by decide) ?_
      refine lv_iload hx hb dX10_searches_27 (lv_at hl 2 rfl) ?_
      refine lv_imul hx hb dX10_searches_29 ?_
      refine lv_topi (fun v4 ev4 => ?_)
      have tv4 := a_mulL (c := 3) ev4 (by decide) (by omega) (by omega)
      refine lv_ishl hx hb dX10_searches_30 ?_
      refine lv_topi (fun v5 ev5 => ?_)
      have tv5 := shl3 (n := r3) (by omega) (by omega) ev5
      refine lv_icmp_ge (tgt := 155) hx hb dX10_searches_31 (by decide) (fun c6 => ?_) (fun c6 => ?_)
      · have hc6 := c6
        have q6 := q_le hc6
        refine lv_aload_n hx hb dX10_searches_155 rfl (lv_at hl 3 rfl) ?_
        refine m_getr (1000) 67 (1067) hx hb hts hown hE oc10 hM hJ.1 rfl (by decide) rfl (hJ.2 67 (by decide)).2 (by decide) tb_1244 dX10_searches_156 ?_
        refine lv_aload_n hx hb dX10_searches_159 rfl (lv_at hl 3 rfl) ?_
        refine m_getr (1000) 9 (1009) hx hb hts hown hE oc10 hM hJ.1 rfl (by decide) rfl (hJ.2 9 (by decide)).2 (by decide) tb_1186 dX10_searches_160 ?_
        refine m_callv (m_runS (As := [.ref (ad (1067)), .ref (ad (1009))]) (rest := []) hx hb hml hown hts hE hM hS hA ce_X10_copy tb_1723 (V_X10_copy_1067_1009 l D A ad ns Ia23 La23 G hJ hI) rfl rfl ⟨Nat.le_of_ble_eq_true rfl, Nat.le_of_ble_eq_true rfl⟩  rfl hl.1 rfl (Nat.le_of_ble_eq_true rfl) dX10_searches_163 ⟨Nat.le_of_ble_eq_true rfl, Nat.le_of_ble_eq_true rfl⟩) hS (fun u H locs hw hM hS => ?_)
        obtain ⟨I7, L8, rfl, hI, hkI7⟩ := hw
        have hM : Mem D A ad ns I7 L8 G H := hM
        have hK := hK.trans hkI7 rfl
        refine lv_iload hx hb dX10_searches_166 (lv_at hl 1 rfl) ?_
        exact m_iret hx hb hr hlocks hM hS (Nat.le_of_ble_eq_true rfl) (Nat.le_of_ble_eq_true rfl) ⟨_, _, rfl, hI, hK⟩ dX10_searches_168
      · have hc6 := c6
        have q6 := q_nle hc6
        refine lv_iload hx hb dX10_searches_34 (lv_at hl 0 rfl) ?_
        refine lv_istore (lv' := [(7, .int (x6_23)), (6, .int (x6_23)), (5, .int (x5_23)), (4, .int (r3)), (0, .ref (ad (1000))), (1, .int (a0)), (2, .int (a1)), (3, .int (a2))]) hx hb dX10_searches_36 hl (by decide) rfl (fun ls hl => ?_)
        refine lv_iload hx hb dX10_searches_38 (lv_at hl 3 rfl) ?_
        refine lv_iconst (v := (1)) hx hb dX10_searches_40 (by decide) ?_
        refine lv_isub hx hb dX10_searches_41 ?_
        refine lv_topi (fun v9 ev9 => ?_)
        have tv9 := a_sub ev9 (by omega) (by omega)
        refine lv_istore (lv' := [(8, .int (v9)), (7, .int (x6_23)), (6, .int (x6_23)), (5, .int (x5_23)), (4, .int (r3)), (0, .ref (ad (1000))), (1, .int (a0)), (2, .int (a1)), (3, .int (a2))]) hx hb dX10_searches_42 hl (by decide) rfl (fun ls hl => ?_)
        refine lv_bipush (v := (23)) hx hb dX10_searches_44 (by decide) ?_
        refine lv_istore (lv' := [(9, .int (23)), (8, .int (v9)), (7, .int (x6_23)), (6, .int (x6_23)), (5, .int (x5_23)), (4, .int (r3)), (0, .ref (ad (1000))), (1, .int (a0)), (2, .int (a1)), (3, .int (a2))]) hx hb dX10_searches_46 hl (by decide) rfl (fun ls hl => ?_)
        have loop48 : ∀ (n : Nat) (x9_48 : Int32) (x8_48 : Int32) (x7_48 : Int32) (Ia48 : MI) (La48 : ML) (H : Heap) (locs : List Loc) (ls : Array Slot), INV Ia48 → Kp [(1009, 1010), (1045, 1051), (1058, 1059), (1061, 1063), (1067, 1068), (1071, 1073)] [(1000, 51), (1000, 52), (1000, 53), (1000, 54), (1000, 55), (1000, 56), (1000, 59), (1000, 63)] I Ia48 → (-1 ≤ x9_48.toInt ∧ x9_48.toInt ≤ 23) → (-1 ≤ x8_48.toInt ∧ x8_48.toInt ≤ 3) → (0 ≤ x7_48.toInt ∧ x7_48.toInt ≤ 4096) → ((x8_48).toInt + 1 = (cb (un a2) ((x9_48).toInt + 1).toNat : Int)) → (x9_48.toInt + 1).toNat < n → Mem D A ad ns Ia48 La48 G H → va_S A s.heap H locs → lv_has ls 10 [(9, .int (x9_48)), (8, .int (x8_48)), (7, .int (x7_48)), (6, .int (x6_23)), (5, .int (x5_23)), (4, .int (r3)), (0, .ref (ad (1000))), (1, .int (a0)), (2, .int (a1)), (3, .int (a2))] → W p l e ({ frames := 5, cells := 0, slots := 0, locals := 128 } : Room) s m args below meth c H locs 0 0 (MQ below (va_Qi (fun r u => ∃ I2 L2, u = (ad, ns, I2, L2, G) ∧ INV I2 ∧ Kp [(1009, 1010), (1045, 1051), (1058, 1059), (1061, 1063), (1067, 1068), (1071, 1073)] [(1000, 51), (1000, 52), (1000, 53), (1000, 54), (1000, 55), (1000, 56), (1000, 59), (1000, 63)] I I2) (BM D A) A) args s 0 0 A) (F0 m 48 ls []) := by
          intro n
          induction n with
          | zero =>
            intro x9_48 x8_48 x7_48 Ia48 La48 H locs ls hI hK hr9_48 hr8_48 hr7_48 hcb hmu
            exact absurd hmu (Nat.not_lt_zero _)
          | succ n ih48 =>
            intro x9_48 x8_48 x7_48 Ia48 La48 H locs ls hI hK hr9_48 hr8_48 hr7_48 hcb hmu48 hM hS hl
            have hm9 : (cb (un a2) ((x9_48).toInt + 1).toNat : Int) ≤ (cb (un a2) 32 : Int) := Int.ofNat_le.mpr (cb_mono _ (by omega))
            refine lv_iload hx hb dX10_searches_48 (lv_at hl 0 rfl) ?_
            refine lv_if_lt (tgt := 102) hx hb dX10_searches_50 (by decide) (fun c10 => ?_) (fun c10 => ?_)
            · have hc10 := c10
              have q10 := q_lt hc10
              refine lv_aload_n hx hb dX10_searches_102 rfl (lv_at hl 6 rfl) ?_
              refine lv_iload_n hx hb dX10_searches_103 rfl (lv_at hl 7 rfl) ?_
              refine m_callv (m_runV (1000) (As := [.int (a0)]) (rest := []) hx hb hml hown hts hE hM hS hA ce_X10_shines tb_1640 (V_X10_shines l D A ad ns Ia48 La48 G (a0) hJ hI (by first | omega | decide)) rfl rfl ⟨Nat.le_of_ble_eq_true rfl, Nat.le_of_ble_eq_true rfl⟩ hJ.1 rfl rfl (by decide) rfl hl.1 rfl (Nat.le_of_ble_eq_true rfl) dX10_searches_104 ⟨Nat.le_of_ble_eq_true rfl, Nat.le_of_ble_eq_true rfl⟩) hS (fun u H locs hw hM hS => ?_)
              obtain ⟨I11, L12, rfl, hI, hkI11⟩ := hw
              have hM : Mem D A ad ns I11 L12 G H := hM
              have hK := hK.trans hkI11 rfl
              refine lv_iload_n hx hb dX10_searches_107 rfl (lv_at hl 8 rfl) ?_
              refine lv_iconst (v := (-1)) hx hb dX10_searches_108 (by decide) ?_
              refine lv_icmp_ne (tgt := 119) hx hb dX10_searches_109 (by decide) (fun c13 => ?_) (fun c13 => ?_)
              · have hc13 := c13
                have q13 := q_ne hc13
                refine lv_aload_n hx hb dX10_searches_119 rfl (lv_at hl 6 rfl) ?_
                refine m_getr (1000) 50 (1050) hx hb hts hown hE oc10 hM hJ.1 rfl (by decide) rfl (hJ.2 50 (by decide)).2 (by decide) tb_1227 dX10_searches_120 ?_
                refine lv_iload_n hx hb dX10_searches_123 rfl (lv_at hl 8 rfl) ?_
                refine m_iald (1050) hx hb hE hM (hJ.2 50 (by decide)).1 rfl (vp_in_iff.mpr (by omega)) dX10_searches_124 ?_
                refine lv_istore (lv' := [(9, .int (I11 (1050) (a1).toNatClampNeg)), (8, .int (x8_48)), (7, .int (x7_48)), (6, .int (x6_23)), (5, .int (x5_23)), (4, .int (r3)), (0, .ref (ad (1000))), (1, .int (a0)), (2, .int (a1)), (3, .int (a2))]) hx hb dX10_searches_125 hl (by decide) rfl (fun ls hl => ?_)
                refine lv_iload hx hb dX10_searches_127 (lv_at hl 0 rfl) ?_
                refine lv_iload hx hb dX10_searches_129 (lv_at hl 4 rfl) ?_
                refine lv_icmp_le (tgt := 149) hx hb dX10_searches_131 (by decide) (fun c14 => ?_) (fun c14 => ?_)
                · have hc14 := c14
                  have q14 := q_le hc14
                  obtain ⟨v15, ev15⟩ : ∃ z : Int32, z = x6_23 + Int32.ofInt (1) := ⟨_, rfl⟩
                  have tv15 := a_inc ev15 (by decide) (by omega) (by omega)
                  refine lv_iinc (v := v15) (lv' := [(6, .int (v15)), (9, .int (I11 (1050) (a1).toNatClampNeg)), (8, .int (x8_48)), (7, .int (x7_48)), (5, .int (x5_23)), (4, .int (r3)), (0, .ref (ad (1000))), (1, .int (a0)), (2, .int (a1)), (3, .int (a2))]) hx hb dX10_searches_149 hl (k := 3) rfl ev15.symm (by decide) rfl (fun ls hl => ?_)
                  refine lv_goto (tgt := 23) hx hb dX10_searches_152 (by decide) ?_
                  exact ih23 (v15) (x5_23) I11 L12 _ _ ls hI hK (by first | omega | decide) (by omega) hM hS (lv_sub hl [0, 4, 5, 6, 7, 8, 9] rfl)
                · have hc14 := c14
                  have q14 := q_nle hc14
                  refine lv_iload hx hb dX10_searches_134 (lv_at hl 0 rfl) ?_
                  refine lv_istore (lv' := [(5, .int (I11 (1050) (a1).toNatClampNeg)), (9, .int (I11 (1050) (a1).toNatClampNeg)), (8, .int (x8_48)), (7, .int (x7_48)), (6, .int (x6_23)), (4, .int (r3)), (0, .ref (ad (1000))), (1, .int (a0)), (2, .int (a1)), (3, .int (a2))]) hx hb dX10_searches_136 hl (by decide) rfl (fun ls hl => ?_)
                  refine lv_aload_n hx hb dX10_searches_138 rfl (lv_at hl 6 rfl) ?_
                  refine m_getr (1000) 71 (1071) hx hb hts hown hE oc10 hM hJ.1 rfl (by decide) rfl (hJ.2 71 (by decide)).2 (by decide) tb_1248 dX10_searches_139 ?_
                  refine lv_aload_n hx hb dX10_searches_142 rfl (lv_at hl 6 rfl) ?_
                  refine m_getr (1000) 72 (1072) hx hb hts hown hE oc10 hM hJ.1 rfl (by decide) rfl (hJ.2 72 (by decide)).2 (by decide) tb_1249 dX10_searches_143 ?_
                  refine m_callv (m_runS (As := [.ref (ad (1071)), .ref (ad (1072))]) (rest := []) hx hb hml hown hts hE hM hS hA ce_X10_copy tb_1723 (V_X10_copy_1071_1072 l D A ad ns I11 L12 G hJ hI) rfl rfl ⟨Nat.le_of_ble_eq_true rfl, Nat.le_of_ble_eq_true rfl⟩  rfl hl.1 rfl (Nat.le_of_ble_eq_true rfl) dX10_searches_146 ⟨Nat.le_of_ble_eq_true rfl, Nat.le_of_ble_eq_true rfl⟩) hS (fun u H locs hw hM hS => ?_)
                  obtain ⟨I16, L17, rfl, hI, hkI16⟩ := hw
                  have hM : Mem D A ad ns I16 L17 G H := hM
                  have hK := hK.trans hkI16 rfl
                  obtain ⟨v18, ev18⟩ : ∃ z : Int32, z = x6_23 + Int32.ofInt (1) := ⟨_, rfl⟩
                  have tv18 := a_inc ev18 (by decide) (by omega) (by omega)
                  refine lv_iinc (v := v18) (lv' := [(6, .int (v18)), (5, .int (I11 (1050) (a1).toNatClampNeg)), (9, .int (I11 (1050) (a1).toNatClampNeg)), (8, .int (x8_48)), (7, .int (x7_48)), (4, .int (r3)), (0, .ref (ad (1000))), (1, .int (a0)), (2, .int (a1)), (3, .int (a2))]) hx hb dX10_searches_149 hl (k := 4) rfl ev18.symm (by decide) rfl (fun ls hl => ?_)
                  refine lv_goto (tgt := 23) hx hb dX10_searches_152 (by decide) ?_
                  exact ih23 (v18) (I11 (1050) (a1).toNatClampNeg) I16 L17 _ _ ls hI hK (by first | omega | decide) (by omega) hM hS (lv_sub hl [0, 1, 5, 6, 7, 8, 9] rfl)
              · have hc13 := c13
                have q13 := q_eq hc13
                refine lv_aload_n hx hb dX10_searches_112 rfl (lv_at hl 6 rfl) ?_
                refine m_calli (m_runV (1000) (As := []) (rest := []) hx hb hml hown hts hE hM hS hA ce_X10_fairest tb_1753 (V_X10_fairest l D A ad ns I11 L12 G hJ hI) rfl rfl ⟨Nat.le_of_ble_eq_true rfl, Nat.le_of_ble_eq_true rfl⟩ hJ.1 rfl rfl (by decide) rfl hl.1 rfl (Nat.le_of_ble_eq_true rfl) dX10_searches_113 ⟨Nat.le_of_ble_eq_true rfl, Nat.le_of_ble_eq_true rfl⟩) hS (fun r19 u H locs hw hM hS => ?_)
                obtain ⟨rfl, xr19⟩ := hw
                have hM : Mem D A ad ns I11 L12 G H := hM
                refine lv_goto (tgt := 125) hx hb dX10_searches_116 (by decide) ?_
                refine lv_istore (lv' := [(9, .int (r19)), (8, .int (x8_48)), (7, .int (x7_48)), (6, .int (x6_23)), (5, .int (x5_23)), (4, .int (r3)), (0, .ref (ad (1000))), (1, .int (a0)), (2, .int (a1)), (3, .int (a2))]) hx hb dX10_searches_125 hl (by decide) rfl (fun ls hl => ?_)
                refine lv_iload hx hb dX10_searches_127 (lv_at hl 0 rfl) ?_
                refine lv_iload hx hb dX10_searches_129 (lv_at hl 4 rfl) ?_
                refine lv_icmp_le (tgt := 149) hx hb dX10_searches_131 (by decide) (fun c20 => ?_) (fun c20 => ?_)
                · have hc20 := c20
                  have q20 := q_le hc20
                  obtain ⟨v21, ev21⟩ : ∃ z : Int32, z = x6_23 + Int32.ofInt (1) := ⟨_, rfl⟩
                  have tv21 := a_inc ev21 (by decide) (by omega) (by omega)
                  refine lv_iinc (v := v21) (lv' := [(6, .int (v21)), (9, .int (r19)), (8, .int (x8_48)), (7, .int (x7_48)), (5, .int (x5_23)), (4, .int (r3)), (0, .ref (ad (1000))), (1, .int (a0)), (2, .int (a1)), (3, .int (a2))]) hx hb dX10_searches_149 hl (k := 3) rfl ev21.symm (by decide) rfl (fun ls hl => ?_)
                  refine lv_goto (tgt := 23) hx hb dX10_searches_152 (by decide) ?_
                  exact ih23 (v21) (x5_23) I11 L12 _ _ ls hI hK (by first | omega | decide) (by omega) hM hS (lv_sub hl [0, 4, 5, 6, 7, 8, 9] rfl)
                · have hc20 := c20
                  have q20 := q_nle hc20
                  refine lv_iload hx hb dX10_searches_134 (lv_at hl 0 rfl) ?_
                  refine lv_istore (lv' := [(5, .int (r19)), (9, .int (r19)), (8, .int (x8_48)), (7, .int (x7_48)), (6, .int (x6_23)), (4, .int (r3)), (0, .ref (ad (1000))), (1, .int (a0)), (2, .int (a1)), (3, .int (a2))]) hx hb dX10_searches_136 hl (by decide) rfl (fun ls hl => ?_)
                  refine lv_aload_n hx hb dX10_searches_138 rfl (lv_at hl 6 rfl) ?_
                  refine m_getr (1000) 71 (1071) hx hb hts hown hE oc10 hM hJ.1 rfl (by decide) rfl (hJ.2 71 (by decide)).2 (by decide) tb_1248 dX10_searches_139 ?_
                  refine lv_aload_n hx hb dX10_searches_142 rfl (lv_at hl 6 rfl) ?_
                  refine m_getr (1000) 72 (1072) hx hb hts hown hE oc10 hM hJ.1 rfl (by decide) rfl (hJ.2 72 (by decide)).2 (by decide) tb_1249 dX10_searches_143 ?_
                  refine m_callv (m_runS (As := [.ref (ad (1071)), .ref (ad (1072))]) (rest := []) hx hb hml hown hts hE hM hS hA ce_X10_copy tb_1723 (V_X10_copy_1071_1072 l D A ad ns I11 L12 G hJ hI) rfl rfl ⟨Nat.le_of_ble_eq_true rfl, Nat.le_of_ble_eq_true rfl⟩  rfl hl.1 rfl (Nat.le_of_ble_eq_true rfl) dX10_searches_146 ⟨Nat.le_of_ble_eq_true rfl, Nat.le_of_ble_eq_true rfl⟩) hS (fun u H locs hw hM hS => ?_)
                  obtain ⟨I22, L23, rfl, hI, hkI22⟩ := hw
                  have hM : Mem D A ad ns I22 L23 G H := hM
                  have hK := hK.trans hkI22 rfl
                  obtain ⟨v24, ev24⟩ : ∃ z : Int32, z = x6_23 + Int32.ofInt (1) := ⟨_, rfl⟩
                  have tv24 := a_inc ev24 (by decide) (by omega) (by omega)
                  refine lv_iinc (v := v24) (lv' := [(6, .int (v24)), (5, .int (r19)), (9, .int (r19)), (8, .int (x8_48)), (7, .int (x7_48)), (4, .int (r3)), (0, .ref (ad (1000))), (1, .int (a0)), (2, .int (a1)), (3, .int (a2))]) hx hb dX10_searches_149 hl (k := 4) rfl ev24.symm (by decide) rfl (fun ls hl => ?_)
                  refine lv_goto (tgt := 23) hx hb dX10_searches_152 (by decide) ?_
                  exact ih23 (v24) (r19) I22 L23 _ _ ls hI hK (by first | omega | decide) (by omega) hM hS (lv_sub hl [0, 1, 5, 6, 7, 8, 9] rfl)
            · have hc10 := c10
              have q10 := q_nlt hc10
              have hbk := cb_step (un a2) (x9_48) (by omega)
              refine lv_iload_n hx hb dX10_searches_53 rfl (lv_at hl 9 rfl) ?_
              refine lv_iload hx hb dX10_searches_54 (lv_at hl 0 rfl) ?_
              refine m_calli (m_runS (As := [.int (a2), .int (x9_48)]) (rest := []) hx hb hml hown hts hE hM hS hA ce_X10_has tb_1750 (V_X10_has_b l D A ad ns Ia48 La48 G (a2) (x9_48) hI (by first | omega | decide) (by first | omega | decide)) rfl rfl ⟨Nat.le_of_ble_eq_true rfl, Nat.le_of_ble_eq_true rfl⟩  rfl hl.1 rfl (Nat.le_of_ble_eq_true rfl) dX10_searches_56 ⟨Nat.le_of_ble_eq_true rfl, Nat.le_of_ble_eq_true rfl⟩) hS (fun r25 u H locs hw hM hS => ?_)
              obtain ⟨rfl, xr25⟩ := hw
              have hM : Mem D A ad ns Ia48 La48 G H := hM
              have yr25 := bo01 xr25
              refine lv_if_eq (tgt := 96) hx hb dX10_searches_59 (by decide) (fun c26 => ?_) (fun c26 => ?_)
              · have hc26 := c26
                have q26 := xr25.f hc26
                obtain ⟨v27, ev27⟩ : ∃ z : Int32, z = x9_48 + Int32.ofInt (-1) := ⟨_, rfl⟩
                have tv27 := a_inc ev27 (by decide) (by omega) (by omega)
                refine lv_iinc (v := v27) (lv' := [(9, .int (v27)), (8, .int (x8_48)), (7, .int (x7_48)), (6, .int (x6_23)), (5, .int (x5_23)), (4, .int (r3)), (0, .ref (ad (1000))), (1, .int (a0)), (2, .int (a1)), (3, .int (a2))]) hx hb dX10_searches_96 hl (k := 0) rfl ev27.symm (by decide) rfl (fun ls hl => ?_)
                refine lv_goto (tgt := 48) hx hb dX10_searches_99 (by decide) ?_
                exact ih48 (v27) (x8_48) (x7_48) Ia48 La48 _ _ ls hI hK (by first | omega | decide) (by first | omega | decide) (by first | omega | decide) (by rw [show (v27).toInt + 1 = (x9_48).toInt by omega]; omega) (by omega) hM hS (lv_sub hl [0, 1, 2, 3, 4, 5, 6, 7, 8, 9] rfl)
              · have hc26 := c26
                have q26 := xr25.t hc26
                refine lv_aload_n hx hb dX10_searches_62 rfl (lv_at hl 6 rfl) ?_
                refine m_getr (1000) 9 (1009) hx hb hts hown hE oc10 hM hJ.1 rfl (by decide) rfl (hJ.2 9 (by decide)).2 (by decide) tb_1186 dX10_searches_63 ?_
                refine lv_iload hx hb dX10_searches_66 (lv_at hl 0 rfl) ?_
                refine lv_iload hx hb dX10_searches_68 (lv_at hl 2 rfl) ?_
                refine lv_bipush (v := (8)) hx hb dX10_searches_70 (by decide) ?_
                refine lv_irem hx hb dX10_searches_72 (by decide) ?_
                refine lv_topi (fun v28 ev28 => ?_)
                have tv28 := a_rem (c := 8) ev28 (by decide) (by decide) (by omega)
                refine m_iast (1009) hx hb hE hM hS (hJ.2 9 (by decide)).1 rfl (vp_in_iff.mpr (by omega)) dX10_searches_73 (fun H locs I29 eI29 hM hS => ?_)
                subst eI29
                have hI := hI.putF (n := 1009) (k := ((x9_48).toNatClampNeg)) (v := v28) rfl
                have hK := hK.put (n := 1009) (k := ((x9_48).toNatClampNeg)) (v := v28) (by first | rfl | simp [inR])
                refine lv_aload_n hx hb dX10_searches_74 rfl (lv_at hl 6 rfl) ?_
                refine m_getr (1000) 71 (1071) hx hb hts hown hE oc10 hM hJ.1 rfl (by decide) rfl (hJ.2 71 (by decide)).2 (by decide) tb_1248 dX10_searches_75 ?_
                refine lv_iload hx hb dX10_searches_78 (lv_at hl 1 rfl) ?_
                refine lv_iload hx hb dX10_searches_80 (lv_at hl 2 rfl) ?_
                refine lv_bipush (v := (8)) hx hb dX10_searches_82 (by decide) ?_
                refine lv_irem hx hb dX10_searches_84 (by decide) ?_
                refine lv_topi (fun v30 ev30 => ?_)
                have tv30 := a_rem (c := 8) ev30 (by decide) (by decide) (by omega)
                refine m_iast (1071) hx hb hE hM hS (hJ.2 71 (by decide)).1 rfl (vp_in_iff.mpr (by omega)) dX10_searches_85 (fun H locs I31 eI31 hM hS => ?_)
                subst eI31
                have hI := hI.putF (n := 1071) (k := ((x8_48).toNatClampNeg)) (v := v30) rfl
                have hK := hK.put (n := 1071) (k := ((x8_48).toNatClampNeg)) (v := v30) (by first | rfl | simp [inR])
                refine lv_iload hx hb dX10_searches_86 (lv_at hl 2 rfl) ?_
                refine lv_bipush (v := (8)) hx hb dX10_searches_88 (by decide) ?_
                refine lv_idiv hx hb dX10_searches_90 (by decide) ?_
                refine lv_topi (fun v32 ev32 => ?_)
                have tv32 := a_div (c := 8) ev32 (by decide) (by decide) (by omega)
                refine lv_istore (lv' := [(7, .int (v32)), (9, .int (x9_48)), (8, .int (x8_48)), (6, .int (x6_23)), (5, .int (x5_23)), (4, .int (r3)), (0, .ref (ad (1000))), (1, .int (a0)), (2, .int (a1)), (3, .int (a2))]) hx hb dX10_searches_91 hl (by decide) rfl (fun ls hl => ?_)
                obtain ⟨v33, ev33⟩ : ∃ z : Int32, z = x8_48 + Int32.ofInt (-1) := ⟨_, rfl⟩
                have tv33 := a_inc ev33 (by decide) (by omega) (by omega)
                refine lv_iinc (v := v33) (lv' := [(8, .int (v33)), (7, .int (v32)), (9, .int (x9_48)), (6, .int (x6_23)), (5, .int (x5_23)), (4, .int (r3)), (0, .ref (ad (1000))), (1, .int (a0)), (2, .int (a1)), (3, .int (a2))]) hx hb dX10_searches_93 hl (k := 2) rfl ev33.symm (by decide) rfl (fun ls hl => ?_)
                obtain ⟨v34, ev34⟩ : ∃ z : Int32, z = x9_48 + Int32.ofInt (-1) := ⟨_, rfl⟩
                have tv34 := a_inc ev34 (by decide) (by omega) (by omega)
                refine lv_iinc (v := v34) (lv' := [(9, .int (v34)), (8, .int (v33)), (7, .int (v32)), (6, .int (x6_23)), (5, .int (x5_23)), (4, .int (r3)), (0, .ref (ad (1000))), (1, .int (a0)), (2, .int (a1)), (3, .int (a2))]) hx hb dX10_searches_96 hl (k := 2) rfl ev34.symm (by decide) rfl (fun ls hl => ?_)
                refine lv_goto (tgt := 48) hx hb dX10_searches_99 (by decide) ?_
                exact ih48 (v34) (v33) (v32) (u2 (u2 Ia48 (1009) ((x9_48).toNatClampNeg) (v28)) (1071) ((x8_48).toNatClampNeg) (v30)) La48 _ _ ls hI hK (by first | omega | decide) (by first | omega | decide) (by first | omega | decide) (by rw [show (v34).toInt + 1 = (x9_48).toInt by omega]; omega) (by omega) hM hS (lv_sub hl [0, 1, 2, 3, 4, 5, 6, 7, 8, 9] rfl)
        exact loop48 (_ + 1) (23) (v9) (x6_23) Ia23 La23 _ _ ls hI hK (by first | omega | decide) (by first | omega | decide) (by first | omega | decide) (by have h24 := cb_top (un a2) (j := 24) (k := 32) (by decide) (by have := un_nn (x := a2) (by omega); omega); show _ = (cb (un a2) 24 : Int); omega) (Nat.lt_succ_self _) hM hS (lv_sub hl [0, 1, 2, 3, 4, 5, 6, 7, 8, 9] rfl)
  exact loop23 (_ + 1) (0) ((-1 : Int32)) I1 L2 _ _ ls hI hK (by first | omega | decide) (Nat.lt_succ_self _) hM hS (lv_sub hl [0, 1, 2, 3, 4, 5, 6] rfl)
theorem dX10_aim_0 : decode cX10_aim 0 = .ok (.aload_n 0, 1) := by decide +kernel
theorem dX10_aim_1 : decode cX10_aim 1 = .ok (.iload_n 1, 1) := by decide +kernel
theorem dX10_aim_2 : decode cX10_aim 2 = .ok (.invokevirtual 472, 3) := by decide +kernel
theorem dX10_aim_5 : decode cX10_aim 5 = .ok (.ifCond .eq 38, 3) := by decide +kernel
theorem dX10_aim_8 : decode cX10_aim 8 = .ok (.aload_n 0, 1) := by decide +kernel
theorem dX10_aim_9 : decode cX10_aim 9 = .ok (.iload_n 2, 1) := by decide +kernel
theorem dX10_aim_10 : decode cX10_aim 10 = .ok (.invokevirtual 469, 3) := by decide +kernel
theorem dX10_aim_13 : decode cX10_aim 13 = .ok (.ifCond .eq 30, 3) := by decide +kernel
theorem dX10_aim_16 : decode cX10_aim 16 = .ok (.aload_n 0, 1) := by decide +kernel
theorem dX10_aim_17 : decode cX10_aim 17 = .ok (.iload_n 3, 1) := by decide +kernel
theorem dX10_aim_18 : decode cX10_aim 18 = .ok (.invokevirtual 497, 3) := by decide +kernel
theorem dX10_aim_21 : decode cX10_aim 21 = .ok (.ifCond .eq 22, 3) := by decide +kernel
theorem dX10_aim_24 : decode cX10_aim 24 = .ok (.iload 4, 2) := by decide +kernel
theorem dX10_aim_26 : decode cX10_aim 26 = .ok (.i2l, 1) := by decide +kernel
theorem dX10_aim_27 : decode cX10_aim 27 = .ok (.ldc2_w 226, 3) := by decide +kernel
theorem dX10_aim_30 : decode cX10_aim 30 = .ok (.iload_n 3, 1) := by decide +kernel
theorem dX10_aim_31 : decode cX10_aim 31 = .ok (.invokestatic 488, 3) := by decide +kernel
theorem dX10_aim_34 : decode cX10_aim 34 = .ok (.iconst 1, 1) := by decide +kernel
theorem dX10_aim_35 : decode cX10_aim 35 = .ok (.isub, 1) := by decide +kernel
theorem dX10_aim_36 : decode cX10_aim 36 = .ok (.i2l, 1) := by decide +kernel
theorem dX10_aim_37 : decode cX10_aim 37 = .ok (.invokestatic 192, 3) := by decide +kernel
theorem dX10_aim_40 : decode cX10_aim 40 = .ok (.ifCond .ne 5, 3) := by decide +kernel
theorem dX10_aim_43 : decode cX10_aim 43 = .ok (.iconst (-1), 1) := by decide +kernel
theorem dX10_aim_44 : decode cX10_aim 44 = .ok (.ireturn, 1) := by decide +kernel
theorem dX10_aim_45 : decode cX10_aim 45 = .ok (.aload_n 0, 1) := by decide +kernel
theorem dX10_aim_46 : decode cX10_aim 46 = .ok (.iload_n 1, 1) := by decide +kernel
theorem dX10_aim_47 : decode cX10_aim 47 = .ok (.iload_n 2, 1) := by decide +kernel
theorem dX10_aim_48 : decode cX10_aim 48 = .ok (.iload_n 3, 1) := by decide +kernel
theorem dX10_aim_49 : decode cX10_aim 49 = .ok (.invokevirtual 500, 3) := by decide +kernel
theorem dX10_aim_52 : decode cX10_aim 52 = .ok (.istore 5, 2) := by decide +kernel
theorem dX10_aim_54 : decode cX10_aim 54 = .ok (.iload 4, 2) := by decide +kernel
theorem dX10_aim_56 : decode cX10_aim 56 = .ok (.iconst (-1), 1) := by decide +kernel
theorem dX10_aim_57 : decode cX10_aim 57 = .ok (.if_icmp .ne 8, 3) := by decide +kernel
theorem dX10_aim_60 : decode cX10_aim 60 = .ok (.iload 5, 2) := by decide +kernel
theorem dX10_aim_62 : decode cX10_aim 62 = .ok (.goto 10, 3) := by decide +kernel
theorem dX10_aim_65 : decode cX10_aim 65 = .ok (.aload_n 0, 1) := by decide +kernel
theorem dX10_aim_66 : decode cX10_aim 66 = .ok (.getfield 173, 3) := by decide +kernel
theorem dX10_aim_69 : decode cX10_aim 69 = .ok (.iload 4, 2) := by decide +kernel
theorem dX10_aim_71 : decode cX10_aim 71 = .ok (.iaload, 1) := by decide +kernel
theorem dX10_aim_72 : decode cX10_aim 72 = .ok (.ireturn, 1) := by decide +kernel
theorem ce_X10_aim : CeV RX10 yX10_aim cX10_aim 6 (some .int) 4 := ⟨tb_1736, tb_1737, tb_11, tb_1738, rfl, by decide, by decide, by decide +kernel⟩
set_option maxHeartbeats 4000000 in
set_option maxRecDepth 20000 in
theorem V_X10_aim (l : Launch) (D : va_G) (A : Nat → Prop) (ad : Nat → Nat) (ns : List Nat) (I : MI) (L : ML) (G : MG) (a0 : Int32) (a1 : Int32) (a2 : Int32) (a3 : Int32) (hJ : SGM ns G) (hI : INV I) : Met l yX10_aim (wd yX10_aim cX10_aim 6 (some .int)) ({ frames := 6, cells := 0, slots := 0, locals := 157 }) (va_Pc [.ref (ad (1000)), .int a0, .int a1, .int a2, .int a3] (PM D A ad ns I L G)) (va_Qi (fun r u => ∃ I2 L2, u = (ad, ns, I2, L2, G) ∧ INV I2 ∧ Kp [(1009, 1010), (1045, 1051), (1058, 1059), (1061, 1063), (1067, 1068), (1071, 1073)] [(1000, 51), (1000, 52), (1000, 53), (1000, 54), (1000, 55), (1000, 56), (1000, 59), (1000, 63)] I I2) (BM D A) A) 0 0 A := by
  refine m_ofW (by decide) (Nat.le_of_ble_eq_true rfl) ?_
  intro p e s m below meth c ls args hC hE hM hA hS hl
  obtain ⟨hx, hb, hml, hown, hts, hr, hlocks, hin⟩ := hC
  have km1 : (-1 : Int32).toInt = -1 := by decide
  have k0 : (0 : Int32).toInt = 0 := by decide
  have k1 : (1 : Int32).toInt = 1 := by decide
  have klm1 : (-1 : Int64).toInt = -1 := by decide
  have hK : Kp [(1009, 1010), (1045, 1051), (1058, 1059), (1061, 1063), (1067, 1068), (1071, 1073)] [(1000, 51), (1000, 52), (1000, 53), (1000, 54), (1000, 55), (1000, 56), (1000, 59), (1000, 63)] I I := Kp.rf
  have hl : lv_has ls 6 [(0, .ref (ad (1000))), (1, .int (a0)), (2, .int (a1)), (3, .int (a2)), (4, .int (a3))] := hl
  refine lv_aload_n hx hb dX10_aim_0 rfl (lv_at hl 0 rfl) ?_
  refine lv_iload_n hx hb dX10_aim_1 rfl (lv_at hl 1 rfl) ?_
  refine m_calli (m_runV (1000) (As := [.int (a0)]) (rest := []) hx hb hml hown hts hE hM hS hA ce_X10_isBright tb_1698 (V_X10_isBright l D A ad ns I L G (a0) hJ hI) rfl rfl ⟨Nat.le_of_ble_eq_true rfl, Nat.le_of_ble_eq_true rfl⟩ hJ.1 rfl rfl (by decide) rfl hl.1 rfl (Nat.le_of_ble_eq_true rfl) dX10_aim_2 ⟨Nat.le_of_ble_eq_true rfl, Nat.le_of_ble_eq_true rfl⟩) hS (fun r1 u H locs hw hM hS => ?_)
  obtain ⟨rfl, xr1⟩ := hw
  have hM : Mem D A ad ns I L G H := hM
  refine lv_if_eq (tgt := 43) hx hb dX10_aim_5 (by decide) (fun c2 => ?_) (fun c2 => ?_)
  · have hc2 := c2
    have q2 := q_eq hc2
    refine lv_iconst (v := (-1)) hx hb dX10_aim_43 (by decide) ?_
    exact m_iret hx hb hr hlocks hM hS (Nat.le_of_ble_eq_true rfl) (Nat.le_of_ble_eq_true rfl) ⟨_, _, rfl, hI, hK⟩ dX10_aim_44
  · have hc2 := c2
    have q2 := q_ne hc2
    refine lv_aload_n hx hb dX10_aim_8 rfl (lv_at hl 0 rfl) ?_
    refine lv_iload_n hx hb dX10_aim_9 rfl (lv_at hl 2 rfl) ?_
    refine m_calli (m_runV (1000) (As := [.int (a1)]) (rest := []) hx hb hml hown hts hE hM hS hA ce_X10_isYard tb_1686 (V_X10_isYard l D A ad ns I L G (a1) hJ hI) rfl rfl ⟨Nat.le_of_ble_eq_true rfl, Nat.le_of_ble_eq_true rfl⟩ hJ.1 rfl rfl (by decide) rfl hl.1 rfl (Nat.le_of_ble_eq_true rfl) dX10_aim_10 ⟨Nat.le_of_ble_eq_true rfl, Nat.le_of_ble_eq_true rfl⟩) hS (fun r3 u H locs hw hM hS => ?_)
    obtain ⟨rfl, xr3⟩ := hw
    have hM : Mem D A ad ns I L G H := hM
    have yr3 := bo01 xr3
    have g4 := hI.get 1001 9 (lo := 0) (hi := 8) rfl
    refine lv_if_eq (tgt := 43) hx hb dX10_aim_13 (by decide) (fun c5 => ?_) (fun c5 => ?_)
    · have hc5 := c5
      have q5 := xr3.f hc5
      refine lv_iconst (v := (-1)) hx hb dX10_aim_43 (by decide) ?_
      exact m_iret hx hb hr hlocks hM hS (Nat.le_of_ble_eq_true rfl) (Nat.le_of_ble_eq_true rfl) ⟨_, _, rfl, hI, hK⟩ dX10_aim_44
    · have hc5 := c5
      have q5 := xr3.t hc5
      refine lv_aload_n hx hb dX10_aim_16 rfl (lv_at hl 0 rfl) ?_
      refine lv_iload_n hx hb dX10_aim_17 rfl (lv_at hl 3 rfl) ?_
      refine m_calli (m_runV (1000) (As := [.int (a2)]) (rest := []) hx hb hml hown hts hE hM hS hA ce_X10_isSet tb_1739 (V_X10_isSet l D A ad ns I L G (a2) hJ hI) rfl rfl ⟨Nat.le_of_ble_eq_true rfl, Nat.le_of_ble_eq_true rfl⟩ hJ.1 rfl rfl (by decide) rfl hl.1 rfl (Nat.le_of_ble_eq_true rfl) dX10_aim_18 ⟨Nat.le_of_ble_eq_true rfl, Nat.le_of_ble_eq_true rfl⟩) hS (fun r6 u H locs hw hM hS => ?_)
      obtain ⟨rfl, xr6⟩ := hw
      have hM : Mem D A ad ns I L G H := hM
      refine lv_if_eq (tgt := 43) hx hb dX10_aim_21 (by decide) (fun c7 => ?_) (fun c7 => ?_)
      · have hc7 := c7
        have q7 := q_eq hc7
        refine lv_iconst (v := (-1)) hx hb dX10_aim_43 (by decide) ?_
        exact m_iret hx hb hr hlocks hM hS (Nat.le_of_ble_eq_true rfl) (Nat.le_of_ble_eq_true rfl) ⟨_, _, rfl, hI, hK⟩ dX10_aim_44
      · have hc7 := c7
        have q7 := q_ne hc7
        refine lv_iload hx hb dX10_aim_24 (lv_at hl 4 rfl) ?_
        refine lv_i2l hx hb dX10_aim_26 rfl ?_
        refine lv_topl (fun v8 ev8 => ?_)
        have tv8 := q_i2l ev8
        refine lv_ldc2 (v := (-1)) hx hb hown (hts _ tb_1467) dX10_aim_27 ?_
        refine lv_iload_n hx hb dX10_aim_30 rfl (lv_at hl 3 rfl) ?_
        refine m_calli (m_runS (As := [.int (a2)]) (rest := [.long ((-1 : Int64)), .long (v8)]) hx hb hml hown hts hE hM hS hA ce_X10_bits tb_1743 (V_X10_bits l D A ad ns I L G (a2) hI) rfl rfl ⟨Nat.le_of_ble_eq_true rfl, Nat.le_of_ble_eq_true rfl⟩  rfl hl.1 rfl (Nat.le_of_ble_eq_true rfl) dX10_aim_31 ⟨Nat.le_of_ble_eq_true rfl, Nat.le_of_ble_eq_true rfl⟩) hS (fun r9 u H locs hw hM hS => ?_)
        obtain ⟨rfl, xr9⟩ := hw
        have hM : Mem D A ad ns I L G H := hM
        refine lv_iconst (v := (1)) hx hb dX10_aim_34 (by decide) ?_
        refine lv_isub hx hb dX10_aim_35 ?_
        refine lv_topi (fun v10 ev10 => ?_)
        have tv10 := a_sub ev10 (by omega) (by omega)
        refine lv_i2l hx hb dX10_aim_36 rfl ?_
        refine lv_topl (fun v11 ev11 => ?_)
        have tv11 := q_i2l ev11
        refine m_calli (m_runS (As := [.long (v8), .long ((-1 : Int64)), .long (v11)]) (rest := []) hx hb hml hown hts hE hM hS hA ce_X10_in tb_1425 (V_X10_in l D A ad ns I L G (v8) ((-1 : Int64)) (v11) hI) rfl rfl ⟨Nat.le_of_ble_eq_true rfl, Nat.le_of_ble_eq_true rfl⟩  rfl hl.1 rfl (Nat.le_of_ble_eq_true rfl) dX10_aim_37 ⟨Nat.le_of_ble_eq_true rfl, Nat.le_of_ble_eq_true rfl⟩) hS (fun r12 u H locs hw hM hS => ?_)
        obtain ⟨rfl, xr12⟩ := hw
        have hM : Mem D A ad ns I L G H := hM
        have yr12 := bo01 xr12
        refine lv_if_ne (tgt := 45) hx hb dX10_aim_40 (by decide) (fun c13 => ?_) (fun c13 => ?_)
        · have hc13 := c13
          have q13 := xr12.t hc13
          refine lv_aload_n hx hb dX10_aim_45 rfl (lv_at hl 0 rfl) ?_
          refine lv_iload_n hx hb dX10_aim_46 rfl (lv_at hl 1 rfl) ?_
          refine lv_iload_n hx hb dX10_aim_47 rfl (lv_at hl 2 rfl) ?_
          refine lv_iload_n hx hb dX10_aim_48 rfl (lv_at hl 3 rfl) ?_
          refine m_calli (m_runV (1000) (As := [.int (a0), .int (a1), .int (a2)]) (rest := []) hx hb hml hown hts hE hM hS hA ce_X10_searches tb_1746 (V_X10_searches l D A ad ns I L G (a0) (a1) (a2) hJ hI (by first | omega | decide) (by first | omega | decide) (by first | omega | decide)) rfl rfl ⟨Nat.le_of_ble_eq_true rfl, Nat.le_of_ble_eq_true rfl⟩ hJ.1 rfl rfl (by decide) rfl hl.1 rfl (Nat.le_of_ble_eq_true rfl) dX10_aim_49 ⟨Nat.le_of_ble_eq_true rfl, Nat.le_of_ble_eq_true rfl⟩) hS (fun r14 u H locs hw hM hS => ?_)
          obtain ⟨I15, L16, rfl, hI, hkI15⟩ := hw
          have hM : Mem D A ad ns I15 L16 G H := hM
          have hK := hK.trans hkI15 rfl
          refine lv_istore (lv' := [(5, .int (r14)), (0, .ref (ad (1000))), (1, .int (a0)), (2, .int (a1)), (3, .int (a2)), (4, .int (a3))]) hx hb dX10_aim_52 hl (by decide) rfl (fun ls hl => ?_)
          refine lv_iload hx hb dX10_aim_54 (lv_at hl 5 rfl) ?_
          refine lv_iconst (v := (-1)) hx hb dX10_aim_56 (by decide) ?_
          refine lv_icmp_ne (tgt := 65) hx hb dX10_aim_57 (by decide) (fun c17 => ?_) (fun c17 => ?_)
          · have hc17 := c17
            have q17 := q_ne hc17
            refine lv_aload_n hx hb dX10_aim_65 rfl (lv_at hl 1 rfl) ?_
            refine m_getr (1000) 72 (1072) hx hb hts hown hE oc10 hM hJ.1 rfl (by decide) rfl (hJ.2 72 (by decide)).2 (by decide) tb_1249 dX10_aim_66 ?_
            refine lv_iload hx hb dX10_aim_69 (lv_at hl 5 rfl) ?_
            refine m_iald (1072) hx hb hE hM (hJ.2 72 (by decide)).1 rfl (vp_in_iff.mpr (by omega)) dX10_aim_71 ?_
            exact m_iret hx hb hr hlocks hM hS (Nat.le_of_ble_eq_true rfl) (Nat.le_of_ble_eq_true rfl) ⟨_, _, rfl, hI, hK⟩ dX10_aim_72
          · have hc17 := c17
            have q17 := q_eq hc17
            refine lv_iload hx hb dX10_aim_60 (lv_at hl 0 rfl) ?_
            refine lv_goto (tgt := 72) hx hb dX10_aim_62 (by decide) ?_
            exact m_iret hx hb hr hlocks hM hS (Nat.le_of_ble_eq_true rfl) (Nat.le_of_ble_eq_true rfl) ⟨_, _, rfl, hI, hK⟩ dX10_aim_72
        · have hc13 := c13
          have q13 := xr12.f hc13
          refine lv_iconst (v := (-1)) hx hb dX10_aim_43 (by decide) ?_
          exact m_iret hx hb hr hlocks hM hS (Nat.le_of_ble_eq_true rfl) (Nat.le_of_ble_eq_true rfl) ⟨_, _, rfl, hI, hK⟩ dX10_aim_44
theorem dX10_fair_0 : decode cX10_fair 0 = .ok (.aload_n 0, 1) := by decide +kernel
theorem dX10_fair_1 : decode cX10_fair 1 = .ok (.iload_n 1, 1) := by decide +kernel
theorem dX10_fair_2 : decode cX10_fair 2 = .ok (.invokevirtual 472, 3) := by decide +kernel
theorem dX10_fair_5 : decode cX10_fair 5 = .ok (.ifCond .eq 39, 3) := by decide +kernel
theorem dX10_fair_8 : decode cX10_fair 8 = .ok (.aload_n 0, 1) := by decide +kernel
theorem dX10_fair_9 : decode cX10_fair 9 = .ok (.getfield 7, 3) := by decide +kernel
theorem dX10_fair_12 : decode cX10_fair 12 = .ok (.bipush 9, 2) := by decide +kernel
theorem dX10_fair_14 : decode cX10_fair 14 = .ok (.iaload, 1) := by decide +kernel
theorem dX10_fair_15 : decode cX10_fair 15 = .ok (.ifCond .eq 29, 3) := by decide +kernel
theorem dX10_fair_18 : decode cX10_fair 18 = .ok (.aload_n 0, 1) := by decide +kernel
theorem dX10_fair_19 : decode cX10_fair 19 = .ok (.iload_n 2, 1) := by decide +kernel
theorem dX10_fair_20 : decode cX10_fair 20 = .ok (.invokevirtual 497, 3) := by decide +kernel
theorem dX10_fair_23 : decode cX10_fair 23 = .ok (.ifCond .eq 21, 3) := by decide +kernel
theorem dX10_fair_26 : decode cX10_fair 26 = .ok (.iload_n 3, 1) := by decide +kernel
theorem dX10_fair_27 : decode cX10_fair 27 = .ok (.i2l, 1) := by decide +kernel
theorem dX10_fair_28 : decode cX10_fair 28 = .ok (.ldc2_w 226, 3) := by decide +kernel
theorem dX10_fair_31 : decode cX10_fair 31 = .ok (.iload_n 2, 1) := by decide +kernel
theorem dX10_fair_32 : decode cX10_fair 32 = .ok (.invokestatic 488, 3) := by decide +kernel
theorem dX10_fair_35 : decode cX10_fair 35 = .ok (.iconst 1, 1) := by decide +kernel
theorem dX10_fair_36 : decode cX10_fair 36 = .ok (.isub, 1) := by decide +kernel
theorem dX10_fair_37 : decode cX10_fair 37 = .ok (.i2l, 1) := by decide +kernel
theorem dX10_fair_38 : decode cX10_fair 38 = .ok (.invokestatic 192, 3) := by decide +kernel
theorem dX10_fair_41 : decode cX10_fair 41 = .ok (.ifCond .ne 5, 3) := by decide +kernel
theorem dX10_fair_44 : decode cX10_fair 44 = .ok (.iconst (-1), 1) := by decide +kernel
theorem dX10_fair_45 : decode cX10_fair 45 = .ok (.ireturn, 1) := by decide +kernel
theorem dX10_fair_46 : decode cX10_fair 46 = .ok (.aload_n 0, 1) := by decide +kernel
theorem dX10_fair_47 : decode cX10_fair 47 = .ok (.iload_n 1, 1) := by decide +kernel
theorem dX10_fair_48 : decode cX10_fair 48 = .ok (.iconst (-1), 1) := by decide +kernel
theorem dX10_fair_49 : decode cX10_fair 49 = .ok (.iload_n 2, 1) := by decide +kernel
theorem dX10_fair_50 : decode cX10_fair 50 = .ok (.invokevirtual 500, 3) := by decide +kernel
theorem dX10_fair_53 : decode cX10_fair 53 = .ok (.istore 4, 2) := by decide +kernel
theorem dX10_fair_55 : decode cX10_fair 55 = .ok (.iload_n 3, 1) := by decide +kernel
theorem dX10_fair_56 : decode cX10_fair 56 = .ok (.iconst (-1), 1) := by decide +kernel
theorem dX10_fair_57 : decode cX10_fair 57 = .ok (.if_icmp .ne 8, 3) := by decide +kernel
theorem dX10_fair_60 : decode cX10_fair 60 = .ok (.iload 4, 2) := by decide +kernel
theorem dX10_fair_62 : decode cX10_fair 62 = .ok (.goto 9, 3) := by decide +kernel
theorem dX10_fair_65 : decode cX10_fair 65 = .ok (.aload_n 0, 1) := by decide +kernel
theorem dX10_fair_66 : decode cX10_fair 66 = .ok (.getfield 173, 3) := by decide +kernel
theorem dX10_fair_69 : decode cX10_fair 69 = .ok (.iload_n 3, 1) := by decide +kernel
theorem dX10_fair_70 : decode cX10_fair 70 = .ok (.iaload, 1) := by decide +kernel
theorem dX10_fair_71 : decode cX10_fair 71 = .ok (.ireturn, 1) := by decide +kernel
theorem ce_X10_fair : CeV RX10 yX10_fair cX10_fair 5 (some .int) 3 := ⟨tb_1758, tb_1759, tb_11, tb_1760, rfl, by decide, by decide, by decide +kernel⟩
set_option maxHeartbeats 4000000 in
set_option maxRecDepth 20000 in
theorem V_X10_fair (l : Launch) (D : va_G) (A : Nat → Prop) (ad : Nat → Nat) (ns : List Nat) (I : MI) (L : ML) (G : MG) (a0 : Int32) (a1 : Int32) (a2 : Int32) (hJ : SGM ns G) (hI : INV I) : Met l yX10_fair (wd yX10_fair cX10_fair 5 (some .int)) ({ frames := 6, cells := 0, slots := 0, locals := 157 }) (va_Pc [.ref (ad (1000)), .int a0, .int a1, .int a2] (PM D A ad ns I L G)) (va_Qi (fun r u => ∃ I2 L2, u = (ad, ns, I2, L2, G) ∧ INV I2 ∧ Kp [(1009, 1010), (1045, 1051), (1058, 1059), (1061, 1063), (1067, 1068), (1071, 1073)] [(1000, 51), (1000, 52), (1000, 53), (1000, 54), (1000, 55), (1000, 56), (1000, 59), (1000, 63)] I I2) (BM D A) A) 0 0 A := by
  refine m_ofW (by decide) (Nat.le_of_ble_eq_true rfl) ?_
  intro p e s m below meth c ls args hC hE hM hA hS hl
  obtain ⟨hx, hb, hml, hown, hts, hr, hlocks, hin⟩ := hC
  have km1 : (-1 : Int32).toInt = -1 := by decide
  have k0 : (0 : Int32).toInt = 0 := by decide
  have k1 : (1 : Int32).toInt = 1 := by decide
  have k9 : (9 : Int32).toInt = 9 := by decide
  have klm1 : (-1 : Int64).toInt = -1 := by decide
  have hK : Kp [(1009, 1010), (1045, 1051), (1058, 1059), (1061, 1063), (1067, 1068), (1071, 1073)] [(1000, 51), (1000, 52), (1000, 53), (1000, 54), (1000, 55), (1000, 56), (1000, 59), (1000, 63)] I I := Kp.rf
  have hl : lv_has ls 5 [(0, .ref (ad (1000))), (1, .int (a0)), (2, .int (a1)), (3, .int (a2))] := hl
  refine lv_aload_n hx hb dX10_fair_0 rfl (lv_at hl 0 rfl) ?_
  refine lv_iload_n hx hb dX10_fair_1 rfl (lv_at hl 1 rfl) ?_
  refine m_calli (m_runV (1000) (As := [.int (a0)]) (rest := []) hx hb hml hown hts hE hM hS hA ce_X10_isBright tb_1698 (V_X10_isBright l D A ad ns I L G (a0) hJ hI) rfl rfl ⟨Nat.le_of_ble_eq_true rfl, Nat.le_of_ble_eq_true rfl⟩ hJ.1 rfl rfl (by decide) rfl hl.1 rfl (Nat.le_of_ble_eq_true rfl) dX10_fair_2 ⟨Nat.le_of_ble_eq_true rfl, Nat.le_of_ble_eq_true rfl⟩) hS (fun r1 u H locs hw hM hS => ?_)
  obtain ⟨rfl, xr1⟩ := hw
  have hM : Mem D A ad ns I L G H := hM
  refine lv_if_eq (tgt := 44) hx hb dX10_fair_5 (by decide) (fun c2 => ?_) (fun c2 => ?_)
  · have hc2 := c2
    have q2 := q_eq hc2
    refine lv_iconst (v := (-1)) hx hb dX10_fair_44 (by decide) ?_
    exact m_iret hx hb hr hlocks hM hS (Nat.le_of_ble_eq_true rfl) (Nat.le_of_ble_eq_true rfl) ⟨_, _, rfl, hI, hK⟩ dX10_fair_45
  · have hc2 := c2
    have q2 := q_ne hc2
    refine lv_aload_n hx hb dX10_fair_8 rfl (lv_at hl 0 rfl) ?_
    refine m_getr (1000) 1 (1001) hx hb hts hown hE oc10 hM hJ.1 rfl (by decide) rfl (hJ.2 1 (by decide)).2 (by decide) tb_1178 dX10_fair_9 ?_
    refine lv_bipush (v := (9)) hx hb dX10_fair_12 (by decide) ?_
    refine m_iald (1001) hx hb hE hM (hJ.2 1 (by decide)).1 rfl (vp_in_iff.mpr (by decide)) dX10_fair_14 ?_
    rw [show (9 : Int32).toNatClampNeg = 9 from rfl]
    have g3 := hI.get (1001) 9 (lo := 0) (hi := 8) rfl
    refine lv_if_eq (tgt := 44) hx hb dX10_fair_15 (by decide) (fun c4 => ?_) (fun c4 => ?_)
    · have hc4 := c4
      have q4 := q_eq hc4
      refine lv_iconst (v := (-1)) hx hb dX10_fair_44 (by decide) ?_
      exact m_iret hx hb hr hlocks hM hS (Nat.le_of_ble_eq_true rfl) (Nat.le_of_ble_eq_true rfl) ⟨_, _, rfl, hI, hK⟩ dX10_fair_45
    · have hc4 := c4
      have q4 := q_ne hc4
      refine lv_aload_n hx hb dX10_fair_18 rfl (lv_at hl 0 rfl) ?_
      refine lv_iload_n hx hb dX10_fair_19 rfl (lv_at hl 2 rfl) ?_
      refine m_calli (m_runV (1000) (As := [.int (a1)]) (rest := []) hx hb hml hown hts hE hM hS hA ce_X10_isSet tb_1739 (V_X10_isSet l D A ad ns I L G (a1) hJ hI) rfl rfl ⟨Nat.le_of_ble_eq_true rfl, Nat.le_of_ble_eq_true rfl⟩ hJ.1 rfl rfl (by decide) rfl hl.1 rfl (Nat.le_of_ble_eq_true rfl) dX10_fair_20 ⟨Nat.le_of_ble_eq_true rfl, Nat.le_of_ble_eq_true rfl⟩) hS (fun r5 u H locs hw hM hS => ?_)
      obtain ⟨rfl, xr5⟩ := hw
      have hM : Mem D A ad ns I L G H := hM
      refine lv_if_eq (tgt := 44) hx hb dX10_fair_23 (by decide) (fun c6 => ?_) (fun c6 => ?_)
      · have hc6 := c6
        have q6 := q_eq hc6
        refine lv_iconst (v := (-1)) hx hb dX10_fair_44 (by decide) ?_
        exact m_iret hx hb hr hlocks hM hS (Nat.le_of_ble_eq_true rfl) (Nat.le_of_ble_eq_true rfl) ⟨_, _, rfl, hI, hK⟩ dX10_fair_45
      · have hc6 := c6
        have q6 := q_ne hc6
        refine lv_iload_n hx hb dX10_fair_26 rfl (lv_at hl 3 rfl) ?_
        refine lv_i2l hx hb dX10_fair_27 rfl ?_
        refine lv_topl (fun v7 ev7 => ?_)
        have tv7 := q_i2l ev7
        refine lv_ldc2 (v := (-1)) hx hb hown (hts _ tb_1467) dX10_fair_28 ?_
        refine lv_iload_n hx hb dX10_fair_31 rfl (lv_at hl 2 rfl) ?_
        refine m_calli (m_runS (As := [.int (a1)]) (rest := [.long ((-1 : Int64)), .long (v7)]) hx hb hml hown hts hE hM hS hA ce_X10_bits tb_1743 (V_X10_bits l D A ad ns I L G (a1) hI) rfl rfl ⟨Nat.le_of_ble_eq_true rfl, Nat.le_of_ble_eq_true rfl⟩  rfl hl.1 rfl (Nat.le_of_ble_eq_true rfl) dX10_fair_32 ⟨Nat.le_of_ble_eq_true rfl, Nat.le_of_ble_eq_true rfl⟩) hS (fun r8 u H locs hw hM hS => ?_)
        obtain ⟨rfl, xr8⟩ := hw
        have hM : Mem D A ad ns I L G H := hM
        refine lv_iconst (v := (1)) hx hb dX10_fair_35 (by decide) ?_
        refine lv_isub hx hb dX10_fair_36 ?_
        refine lv_topi (fun v9 ev9 => ?_)
        have tv9 := a_sub ev9 (by omega) (by omega)
        refine lv_i2l hx hb dX10_fair_37 rfl ?_
        refine lv_topl (fun v10 ev10 => ?_)
        have tv10 := q_i2l ev10
        refine m_calli (m_runS (As := [.long (v7), .long ((-1 : Int64)), .long (v10)]) (rest := []) hx hb hml hown hts hE hM hS hA ce_X10_in tb_1425 (V_X10_in l D A ad ns I L G (v7) ((-1 : Int64)) (v10) hI) rfl rfl ⟨Nat.le_of_ble_eq_true rfl, Nat.le_of_ble_eq_true rfl⟩  rfl hl.1 rfl (Nat.le_of_ble_eq_true rfl) dX10_fair_38 ⟨Nat.le_of_ble_eq_true rfl, Nat.le_of_ble_eq_true rfl⟩) hS (fun r11 u H locs hw hM hS => ?_)
        obtain ⟨rfl, xr11⟩ := hw
        have hM : Mem D A ad ns I L G H := hM
        have yr11 := bo01 xr11
        refine lv_if_ne (tgt := 46) hx hb dX10_fair_41 (by decide) (fun c12 => ?_) (fun c12 => ?_)
        · have hc12 := c12
          have q12 := xr11.t hc12
          refine lv_aload_n hx hb dX10_fair_46 rfl (lv_at hl 0 rfl) ?_
          refine lv_iload_n hx hb dX10_fair_47 rfl (lv_at hl 1 rfl) ?_
          refine lv_iconst (v := (-1)) hx hb dX10_fair_48 (by decide) ?_
          refine lv_iload_n hx hb dX10_fair_49 rfl (lv_at hl 2 rfl) ?_
          refine m_calli (m_runV (1000) (As := [.int (a0), .int ((-1 : Int32)), .int (a1)]) (rest := []) hx hb hml hown hts hE hM hS hA ce_X10_searches tb_1746 (V_X10_searches l D A ad ns I L G (a0) ((-1 : Int32)) (a1) hJ hI (by first | omega | decide) (by first | omega | decide) (by first | omega | decide)) rfl rfl ⟨Nat.le_of_ble_eq_true rfl, Nat.le_of_ble_eq_true rfl⟩ hJ.1 rfl rfl (by decide) rfl hl.1 rfl (Nat.le_of_ble_eq_true rfl) dX10_fair_50 ⟨Nat.le_of_ble_eq_true rfl, Nat.le_of_ble_eq_true rfl⟩) hS (fun r13 u H locs hw hM hS => ?_)
          obtain ⟨I14, L15, rfl, hI, hkI14⟩ := hw
          have hM : Mem D A ad ns I14 L15 G H := hM
          have hK := hK.trans hkI14 rfl
          refine lv_istore (lv' := [(4, .int (r13)), (0, .ref (ad (1000))), (1, .int (a0)), (2, .int (a1)), (3, .int (a2))]) hx hb dX10_fair_53 hl (by decide) rfl (fun ls hl => ?_)
          refine lv_iload_n hx hb dX10_fair_55 rfl (lv_at hl 4 rfl) ?_
          refine lv_iconst (v := (-1)) hx hb dX10_fair_56 (by decide) ?_
          refine lv_icmp_ne (tgt := 65) hx hb dX10_fair_57 (by decide) (fun c16 => ?_) (fun c16 => ?_)
          · have hc16 := c16
            have q16 := q_ne hc16
            refine lv_aload_n hx hb dX10_fair_65 rfl (lv_at hl 1 rfl) ?_
            refine m_getr (1000) 72 (1072) hx hb hts hown hE oc10 hM hJ.1 rfl (by decide) rfl (hJ.2 72 (by decide)).2 (by decide) tb_1249 dX10_fair_66 ?_
            refine lv_iload_n hx hb dX10_fair_69 rfl (lv_at hl 4 rfl) ?_
            refine m_iald (1072) hx hb hE hM (hJ.2 72 (by decide)).1 rfl (vp_in_iff.mpr (by omega)) dX10_fair_70 ?_
            exact m_iret hx hb hr hlocks hM hS (Nat.le_of_ble_eq_true rfl) (Nat.le_of_ble_eq_true rfl) ⟨_, _, rfl, hI, hK⟩ dX10_fair_71
          · have hc16 := c16
            have q16 := q_eq hc16
            refine lv_iload hx hb dX10_fair_60 (lv_at hl 0 rfl) ?_
            refine lv_goto (tgt := 71) hx hb dX10_fair_62 (by decide) ?_
            exact m_iret hx hb hr hlocks hM hS (Nat.le_of_ble_eq_true rfl) (Nat.le_of_ble_eq_true rfl) ⟨_, _, rfl, hI, hK⟩ dX10_fair_71
        · have hc12 := c12
          have q12 := xr11.f hc12
          refine lv_iconst (v := (-1)) hx hb dX10_fair_44 (by decide) ?_
          exact m_iret hx hb hr hlocks hM hS (Nat.le_of_ble_eq_true rfl) (Nat.le_of_ble_eq_true rfl) ⟨_, _, rfl, hI, hK⟩ dX10_fair_45
