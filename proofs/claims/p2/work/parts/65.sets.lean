theorem cb_le (u : Nat) : ∀ k, cb u k ≤ k := by
  intro k
  induction k with
  | zero => exact Nat.le_refl 0
  | succ k ih =>
    rw [cb]
    omega
theorem and_lt {u : Nat} (h : 0 < u) : u &&& (u - 1) < u := Nat.lt_of_le_of_lt Nat.and_le_right (by omega)
theorem cb_0 : cb (un 0) 32 = 0 := by decide
theorem a_and1 {x v : Int32} (h : v = x &&& 1) : (un v : Int) = (un x % 2 : Nat) ∧ v.toInt = (un x % 2 : Nat) := by
  subst h
  have h1 : un (x &&& 1) = un x % 2 := by
    show (x &&& 1).toBitVec.toNat = _
    rw [Int32.toBitVec_and, BitVec.toNat_and]
    exact Nat.and_one_is_mod _
  have h2 := a_and (x := x) (y := 1) (v := x &&& 1) (c := 1) rfl (by decide) (by decide)
  have h3 := un_nn h2.1
  rw [h1] at h3
  exact ⟨by rw [h1], h3.symm⟩
theorem has_bit {x y t v : Int32} (hx : 0 ≤ x.toInt) (hy : 0 ≤ y.toInt ∧ y.toInt ≤ 31) (ht : t = x >>> (y &&& 31)) (hv : v = t &&& 1) : v.toInt = (un x / 2 ^ y.toNatClampNeg % 2 : Nat) := by
  have h1 := tn hy.1
  have h2 := a_shr ht (k := y.toNatClampNeg) (by omega) (by omega)
  have h3 := un_nn hx
  have h4 : 0 ≤ t.toInt := by
    rw [h2]
    exact Int.ediv_nonneg hx (Int.le_of_lt (Int.pow_pos (by decide)))
  have h5 := un_nn h4
  have h6 : un t = un x / 2 ^ y.toNatClampNeg := by
    have : ((un t : Nat) : Int) = ((un x / 2 ^ y.toNatClampNeg : Nat) : Int) := by
      rw [h5, h2, ← h3]
      simp
    exact Int.ofNat_inj.mp this
  rw [(a_and1 hv).2, h6]
theorem shl3 {n t v : Int32} (hn : 1 ≤ n.toInt ∧ n.toInt ≤ 4) (ht : t.toInt = 3 * n.toInt) (hv : v = 1 <<< (t &&& 31)) : v.toInt ≤ 4096 := by
  have e : t = 3 ∨ t = 6 ∨ t = 9 ∨ t = 12 := by
    rcases (show t.toInt = 3 ∨ t.toInt = 6 ∨ t.toInt = 9 ∨ t.toInt = 12 by omega) with h | h | h | h
    · exact Or.inl (Int32.toInt_inj.mp h)
    · exact Or.inr (Or.inl (Int32.toInt_inj.mp h))
    · exact Or.inr (Or.inr (Or.inl (Int32.toInt_inj.mp h)))
    · exact Or.inr (Or.inr (Or.inr (Int32.toInt_inj.mp h)))
  subst hv
  rcases e with rfl | rfl | rfl | rfl <;> decide
theorem sh_lt {x y v : Int32} (hx : 0 ≤ x.toInt) (hy : 0 ≤ y.toInt ∧ y.toInt ≤ 24) (hv : v = x >>> (y &&& 31)) (h0 : v.toInt = 0) : x.toInt < 16777216 := by
  have h1 := tn hy.1
  have h2 := a_shr hv (k := y.toNatClampNeg) (by omega) (by omega)
  have h3 := un_nn hx
  have h4 : un x / 2 ^ y.toNatClampNeg = 0 := by
    have : ((un x / 2 ^ y.toNatClampNeg : Nat) : Int) = ((0 : Nat) : Int) := by
      rw [← h3, h0] at h2
      simpa using h2.symm
    exact Int.ofNat_inj.mp this
  have h5 : un x < 2 ^ y.toNatClampNeg := by
    rcases Nat.div_eq_zero_iff.mp h4 with h | h
    · exact absurd h (Nat.ne_of_gt (Nat.pow_pos (by decide)))
    · exact h
  have h6 : 2 ^ y.toNatClampNeg ≤ 2 ^ 24 := Nat.pow_le_pow_right (by decide) (by omega)
  have h7 : 2 ^ 24 = 16777216 := by decide
  omega
theorem dX10_bits_0 : decode cX10_bits 0 = .ok (.iconst 0, 1) := by decide +kernel
theorem dX10_bits_1 : decode cX10_bits 1 = .ok (.istore_n 1, 1) := by decide +kernel
theorem dX10_bits_2 : decode cX10_bits 2 = .ok (.iload_n 0, 1) := by decide +kernel
theorem dX10_bits_3 : decode cX10_bits 3 = .ok (.istore_n 2, 1) := by decide +kernel
theorem dX10_bits_4 : decode cX10_bits 4 = .ok (.iload_n 2, 1) := by decide +kernel
theorem dX10_bits_5 : decode cX10_bits 5 = .ok (.ifCond .eq 15, 3) := by decide +kernel
theorem dX10_bits_8 : decode cX10_bits 8 = .ok (.iinc 1 1, 3) := by decide +kernel
theorem dX10_bits_11 : decode cX10_bits 11 = .ok (.iload_n 2, 1) := by decide +kernel
theorem dX10_bits_12 : decode cX10_bits 12 = .ok (.iload_n 2, 1) := by decide +kernel
theorem dX10_bits_13 : decode cX10_bits 13 = .ok (.iconst 1, 1) := by decide +kernel
theorem dX10_bits_14 : decode cX10_bits 14 = .ok (.isub, 1) := by decide +kernel
theorem dX10_bits_15 : decode cX10_bits 15 = .ok (.iand, 1) := by decide +kernel
theorem dX10_bits_16 : decode cX10_bits 16 = .ok (.istore_n 2, 1) := by decide +kernel
theorem dX10_bits_17 : decode cX10_bits 17 = .ok (.goto (-13), 3) := by decide +kernel
theorem dX10_bits_20 : decode cX10_bits 20 = .ok (.iload_n 1, 1) := by decide +kernel
theorem dX10_bits_21 : decode cX10_bits 21 = .ok (.ireturn, 1) := by decide +kernel
theorem ce_X10_bits : CeS yX10_bits cX10_bits 3 (some .int) 1 := ⟨tb_1744, tb_11, tb_1745, by decide, by decide, by decide +kernel⟩
set_option maxHeartbeats 4000000 in
set_option maxRecDepth 20000 in
theorem V_X10_bits (l : Launch) (D : va_G) (A : Nat → Prop) (ad : Nat → Nat) (ns : List Nat) (I : MI) (L : ML) (G : MG) (a0 : Int32) (hI : INV I) : Met l yX10_bits (wd yX10_bits cX10_bits 3 (some .int)) ({ frames := 0, cells := 0, slots := 0, locals := 0 }) (va_Pc [.int a0] (PM D A ad ns I L G)) (va_Qi (fun r u => u = (ad, ns, I, L, G) ∧ (r.toInt = (cb (un a0) 32 : Int))) (BM D A) A) 0 0 A := by
  refine m_ofW (by decide) (Nat.le_of_ble_eq_true rfl) ?_
  intro p e s m below meth c ls args hC hE hM hA hS hl
  obtain ⟨hx, hb, hml, hown, hts, hr, hlocks, hin⟩ := hC
  have k0 : (0 : Int32).toInt = 0 := by decide
  have k1 : (1 : Int32).toInt = 1 := by decide
  have hl : lv_has ls 3 [(0, .int (a0))] := hl
  refine lv_iconst (v := (0)) hx hb dX10_bits_0 (by decide) ?_
  refine lv_istore_n (lv' := [(1, .int (0)), (0, .int (a0))]) hx hb dX10_bits_1 rfl hl (by decide) rfl (fun ls hl => ?_)
  refine lv_iload_n hx hb dX10_bits_2 rfl (lv_at hl 1 rfl) ?_
  refine lv_istore_n (lv' := [(2, .int (a0)), (1, .int (0)), (0, .int (a0))]) hx hb dX10_bits_3 rfl hl (by decide) rfl (fun ls hl => ?_)
  have loop4 : ∀ (n : Nat) (x2_4 : Int32) (x1_4 : Int32) (H : Heap) (locs : List Loc) (ls : Array Slot), (0 ≤ x1_4.toInt ∧ x1_4.toInt ≤ 32) → ((x1_4).toInt + (cb (un x2_4) 32 : Int) = (cb (un a0) 32 : Int)) → un x2_4 < n → Mem D A ad ns I L G H → va_S A s.heap H locs → lv_has ls 3 [(2, .int (x2_4)), (1, .int (x1_4)), (0, .int (a0))] → W p l e ({ frames := 0, cells := 0, slots := 0, locals := 0 } : Room) s m args below meth c H locs 0 0 (MQ below (va_Qi (fun r u => u = (ad, ns, I, L, G) ∧ (r.toInt = (cb (un a0) 32 : Int))) (BM D A) A) args s 0 0 A) (F0 m 4 ls []) := by
    intro n
    induction n with
    | zero =>
      intro x2_4 x1_4 H locs ls hr1_4 hcb hmu
      exact absurd hmu (Nat.not_lt_zero _)
    | succ n ih4 =>
      intro x2_4 x1_4 H locs ls hr1_4 hcb hmu4 hM hS hl
      have hle := cb_le (un a0) 32
      refine lv_iload_n hx hb dX10_bits_4 rfl (lv_at hl 0 rfl) ?_
      refine lv_if_eq (tgt := 20) hx hb dX10_bits_5 (by decide) (fun c1 => ?_) (fun c1 => ?_)
      · have hc1 := c1
        have q1 := q_eq hc1
        refine lv_iload_n hx hb dX10_bits_20 rfl (lv_at hl 1 rfl) ?_
        exact m_iret hx hb hr hlocks hM hS (Nat.le_of_ble_eq_true rfl) (Nat.le_of_ble_eq_true rfl) ⟨rfl, (by have hz : x2_4 = 0 := c1; rw [hz] at hcb; have h0 := cb_0; omega)⟩ dX10_bits_21
      · have hc1 := c1
        have q1 := q_ne hc1
        have hcl := cb_clear 32 (un x2_4) (un_nz c1) (un_lt _)
        obtain ⟨v2, ev2⟩ : ∃ z : Int32, z = x1_4 + Int32.ofInt (1) := ⟨_, rfl⟩
        have tv2 := a_inc ev2 (by decide) (by omega) (by omega)
        refine lv_iinc (v := v2) (lv' := [(1, .int (v2)), (2, .int (x2_4)), (0, .int (a0))]) hx hb dX10_bits_8 hl (k := 1) rfl ev2.symm (by decide) rfl (fun ls hl => ?_)
        refine lv_iload_n hx hb dX10_bits_11 rfl (lv_at hl 1 rfl) ?_
        refine lv_iload_n hx hb dX10_bits_12 rfl (lv_at hl 1 rfl) ?_
        refine lv_iconst (v := (1)) hx hb dX10_bits_13 (by decide) ?_
        refine lv_isub hx hb dX10_bits_14 ?_
        refine lv_topi (fun v3 ev3 => ?_)
        refine lv_iand hx hb dX10_bits_15 ?_
        refine lv_topi (fun v4 ev4 => ?_)
        refine lv_istore_n (lv' := [(2, .int (v4)), (1, .int (v2)), (0, .int (a0))]) hx hb dX10_bits_16 rfl hl (by decide) rfl (fun ls hl => ?_)
        refine lv_goto (tgt := 4) hx hb dX10_bits_17 (by decide) ?_
        exact ih4 (v4) (v2) _ _ ls (by first | omega | decide) (by rw [un_step c1 ev3 ev4]; omega) (by rw [un_step c1 ev3 ev4]; have := and_lt (un_nz c1); omega) hM hS (lv_sub hl [0, 1, 2] rfl)
  exact loop4 (_ + 1) (a0) (0) _ _ ls (by first | omega | decide) (by rw [k0]; exact Int.zero_add _) (Nat.lt_succ_self _) hM hS (lv_sub hl [0, 1, 2] rfl)
