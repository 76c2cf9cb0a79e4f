theorem dJ7_fill_53178_0 : decode cJ7_fill_53178 0 = .ok (.iconst 0, 1) := by decide +kernel
theorem dJ7_fill_53178_1 : decode cJ7_fill_53178 1 = .ok (.istore_n 2, 1) := by decide +kernel
theorem dJ7_fill_53178_2 : decode cJ7_fill_53178 2 = .ok (.aload_n 0, 1) := by decide +kernel
theorem dJ7_fill_53178_3 : decode cJ7_fill_53178 3 = .ok (.arraylength, 1) := by decide +kernel
theorem dJ7_fill_53178_4 : decode cJ7_fill_53178 4 = .ok (.istore_n 3, 1) := by decide +kernel
theorem dJ7_fill_53178_5 : decode cJ7_fill_53178 5 = .ok (.iload_n 2, 1) := by decide +kernel
theorem dJ7_fill_53178_6 : decode cJ7_fill_53178 6 = .ok (.iload_n 3, 1) := by decide +kernel
theorem dJ7_fill_53178_7 : decode cJ7_fill_53178 7 = .ok (.if_icmp .ge 13, 3) := by decide +kernel
theorem dJ7_fill_53178_10 : decode cJ7_fill_53178 10 = .ok (.aload_n 0, 1) := by decide +kernel
theorem dJ7_fill_53178_11 : decode cJ7_fill_53178 11 = .ok (.iload_n 2, 1) := by decide +kernel
theorem dJ7_fill_53178_12 : decode cJ7_fill_53178 12 = .ok (.iload_n 1, 1) := by decide +kernel
theorem dJ7_fill_53178_13 : decode cJ7_fill_53178 13 = .ok (.iastore, 1) := by decide +kernel
theorem dJ7_fill_53178_14 : decode cJ7_fill_53178 14 = .ok (.iinc 2 1, 3) := by decide +kernel
theorem dJ7_fill_53178_17 : decode cJ7_fill_53178 17 = .ok (.goto (-12), 3) := by decide +kernel
theorem dJ7_fill_53178_20 : decode cJ7_fill_53178 20 = .ok (.return_, 1) := by decide +kernel
theorem ce_J7_fill_53178 : CeS yJ7_fill_53178 cJ7_fill_53178 4 none 2 := ⟨tb_459, tb_12, tb_460, by decide, by decide, by decide +kernel⟩
set_option maxHeartbeats 4000000 in
set_option maxRecDepth 20000 in
theorem C_J7_fill_53178 (l : Launch) (D : va_G) (A : Nat → Prop) (ad : Nat → Nat) (ns : List Nat) (I : MI) (L : ML) (G : MG) (x : Nat) (N : Nat) (v : Int32) (hn : x ∈ ns) (hk : kd x = (20, N)) (hN : N < 100000) : Met l yJ7_fill_53178 (wd yJ7_fill_53178 cJ7_fill_53178 4 none) ({ frames := 0, cells := 0, slots := 0, locals := 0 }) (va_Pc [.ref (ad x), .int v] (PM D A ad ns I L G)) (va_Qv (fun u => ∃ I2, u = (ad, ns, I2, L, G) ∧ (∀ m, m ≠ x → I2 m = I m) ∧ ∀ j, j < N → I2 x j = v) (BM D A) A) 0 0 A := by
  refine m_ofW (by decide) (Nat.le_of_ble_eq_true rfl) ?_
  intro p e s m below meth c ls args hC hE hM hA hS hl
  obtain ⟨hx, hb, hml, hown, hts, hr, hlocks, hin⟩ := hC
  have k0 : (0 : Int32).toInt = 0 := by decide
  have kN : (Int32.ofNat N).toInt = N := nI_toInt (by omega)
  have hl : lv_has ls 4 [(0, .ref (ad (x))), (1, .int (v))] := hl
  refine lv_iconst (v := (0)) hx hb dJ7_fill_53178_0 (by decide) ?_
  refine lv_istore_n (lv' := [(2, .int (0)), (0, .ref (ad (x))), (1, .int (v))]) hx hb dJ7_fill_53178_1 rfl hl (by decide) rfl (fun ls hl => ?_)
  refine lv_aload_n hx hb dJ7_fill_53178_2 rfl (lv_at hl 1 rfl) ?_
  refine m_alen x (t0 := 0) (v := Int32.ofNat N) hx hb hE hM hn hk (by decide) rfl rfl dJ7_fill_53178_3 ?_
  refine lv_istore_n (lv' := [(3, .int (Int32.ofNat N)), (2, .int (0)), (0, .ref (ad (x))), (1, .int (v))]) hx hb dJ7_fill_53178_4 rfl hl (by decide) rfl (fun ls hl => ?_)
  have loop5 : ∀ (n : Nat) (i : Int32) (Ia : MI) (H : Heap) (locs : List Loc) (ls : Array Slot), (0 ≤ i.toInt ∧ i.toInt ≤ N) → (∀ m, m ≠ x → Ia m = I m) → (∀ j : Nat, (j : Int) < i.toInt → Ia x j = v) → (N - i.toInt).toNat < n → Mem D A ad ns Ia L G H → va_S A s.heap H locs → lv_has ls 4 [(0, .ref (ad (x))), (1, .int (v)), (2, .int (i)), (3, .int (Int32.ofNat N))] → W p l e ({ frames := 0, cells := 0, slots := 0, locals := 0 } : Room) s m args below meth c H locs 0 0 (MQ below (va_Qv (fun u => ∃ I2, u = (ad, ns, I2, L, G) ∧ (∀ m, m ≠ x → I2 m = I m) ∧ ∀ j, j < N → I2 x j = v) (BM D A) A) args s 0 0 A) (F0 m 5 ls []) := by
    intro n
    induction n with
    | zero =>
      intro i Ia H locs ls h1 h2 h3 hmu
      exact absurd hmu (Nat.not_lt_zero _)
    | succ n ih5 =>
      intro i Ia H locs ls h1 h2 h3 hmu5 hM hS hl
      refine lv_iload_n hx hb dJ7_fill_53178_5 rfl (lv_at hl 2 rfl) ?_
      refine lv_iload_n hx hb dJ7_fill_53178_6 rfl (lv_at hl 3 rfl) ?_
      refine lv_icmp_ge (tgt := 20) hx hb dJ7_fill_53178_7 (by decide) (fun c1 => ?_) (fun c1 => ?_)
      · have hc1 := c1
        have q1 := q_le hc1
        exact m_vret hx hb hr hlocks hM hS (Nat.le_of_ble_eq_true rfl) (Nat.le_of_ble_eq_true rfl) ⟨Ia, rfl, h2, fun j hj => h3 j (by omega)⟩ dJ7_fill_53178_20
      · have hc1 := c1
        have q1 := q_nle hc1
        refine lv_aload_n hx hb dJ7_fill_53178_10 rfl (lv_at hl 0 rfl) ?_
        refine lv_iload_n hx hb dJ7_fill_53178_11 rfl (lv_at hl 2 rfl) ?_
        refine lv_iload_n hx hb dJ7_fill_53178_12 rfl (lv_at hl 1 rfl) ?_
        refine m_iast (x) hx hb hE hM hS hn hk (vp_in_iff.mpr (by omega)) dJ7_fill_53178_13 (fun H locs I2 eI2 hM hS => ?_)
        obtain ⟨v3, ev3⟩ : ∃ z : Int32, z = i + Int32.ofInt (1) := ⟨_, rfl⟩
        have tv3 := a_inc ev3 (by decide) (by omega) (by omega)
        refine lv_iinc (v := v3) (lv' := [(2, .int (v3)), (0, .ref (ad (x))), (1, .int (v)), (3, .int (Int32.ofNat N))]) hx hb dJ7_fill_53178_14 hl (k := 2) rfl ev3.symm (by decide) rfl (fun ls hl => ?_)
        refine lv_goto (tgt := 5) hx hb dJ7_fill_53178_17 (by decide) ?_
        exact ih5 (v3) I2 H locs ls (by omega) (fun m hm => by rw [eI2, u2_ne _ _ _ hm]; exact h2 m hm) (by rw [eI2, u2_at]; exact fill_step h1.1 h3 tv3) (by omega) hM hS (lv_sub hl [1, 2, 0, 3] rfl)
  exact loop5 (_ + 1) (0) I _ _ ls (by omega) (fun _ _ => rfl) (fun j hj => absurd hj (by omega)) (Nat.lt_succ_self _) hM hS (lv_sub hl [2, 3, 1, 0] rfl)
