-- images of the reference: what carry does
def imL : List (Nat × Nat × Nat) := [(1023, 2602, 8), (1022, 2594, 8), (1021, 2586, 8), (1020, 2578, 8), (1019, 2570, 8), (1018, 2562, 8), (1017, 2554, 8), (1016, 2530, 24), (1015, 2506, 24), (1014, 2482, 24), (1013, 2458, 24), (1012, 2434, 24), (1011, 2410, 24), (1010, 2386, 24), (1009, 2362, 24), (1008, 2338, 24), (1007, 2314, 24), (1006, 1738, 576), (1005, 1450, 288), (1004, 1162, 288), (1003, 586, 576), (1002, 10, 576), (1001, 0, 10)]
def SV (kk : Nat) (l : List (Nat × Nat × Nat)) (I I2 : MI) : Prop := (∀ t ∈ l, ∀ j, j < t.2.2 → I2 1076 (2720 * kk + t.2.1 + j) = I t.1 j) ∧ (∀ j, (∀ t ∈ l, j < 2720 * kk + t.2.1 ∨ 2720 * kk + t.2.1 + t.2.2 ≤ j) → I2 1076 j = I 1076 j) ∧ ∀ m, m ≠ 1076 → m ≠ 1000 → I2 m = I m
def LD (kk : Nat) (l : List (Nat × Nat × Nat)) (I I2 : MI) : Prop := (∀ t ∈ l, ∀ j, j < t.2.2 → I2 t.1 j = I 1076 (2720 * kk + t.2.1 + j)) ∧ (∀ m, m ≠ 1000 → (∀ t ∈ l, t.1 ≠ m) → I2 m = I m)
theorem SV.nil (kk : Nat) {I I2 : MI} (h : ∀ m, m ≠ 1000 → I2 m = I m) : SV kk [] I I2 := ⟨fun t ht => absurd ht (by simp), fun j _ => congrFun (h 1076 (by decide)) j, fun m _ h2 => h m h2⟩
theorem LD.nil (kk : Nat) {I I2 : MI} (h : ∀ m, m ≠ 1000 → I2 m = I m) : LD kk [] I I2 := ⟨fun t ht => absurd ht (by simp), fun m h1 _ => h m h1⟩
theorem SV.cons {kk : Nat} {l : List (Nat × Nat × Nat)} {t : Nat × Nat × Nat} {I I1 I2 : MI} (h : SV kk l I I1) (h2 : SV kk [t] I1 I2) (ht : t.1 ≠ 1076 ∧ t.1 ≠ 1000) (hd : ∀ u ∈ l, u.2.1 + u.2.2 ≤ t.2.1) : SV kk (t :: l) I I2 := by
  refine ⟨fun u hu j hj => ?_, fun j hj => ?_, fun m h1 h3 => (h2.2.2 m h1 h3).trans (h.2.2 m h1 h3)⟩
  · rcases List.mem_cons.mp hu with e | e
    · subst e
      rw [h2.1 u (by simp) j hj, h.2.2 u.1 ht.1 ht.2]
    · have := hd u e
      rw [h2.2.1 _ (fun v hv => by rw [List.mem_singleton.mp hv]; left; omega)]
      exact h.1 u e j hj
  · rw [h2.2.1 j (fun v hv => by rw [List.mem_singleton.mp hv]; exact hj t (by simp))]
    exact h.2.1 j (fun v hv => hj v (List.mem_cons_of_mem _ hv))
theorem LD.cons {kk : Nat} {l : List (Nat × Nat × Nat)} {t : Nat × Nat × Nat} {I I1 I2 : MI} (h : LD kk l I I1) (h2 : LD kk [t] I1 I2) (ht : t.1 ≠ 1076 ∧ t.1 ≠ 1000) (hd : ∀ u ∈ l, u.1 ≠ t.1 ∧ u.1 ≠ 1076 ∧ u.1 ≠ 1000) : LD kk (t :: l) I I2 := by
  refine ⟨fun u hu j hj => ?_, fun m h1 h3 => ?_⟩
  · rcases List.mem_cons.mp hu with e | e
    · subst e
      rw [h2.1 u (by simp) j hj, h.2 1076 (by decide) (fun v hv => (hd v hv).2.1)]
    · rw [h2.2 u.1 (hd u e).2.2 (fun v hv => by rw [List.mem_singleton.mp hv]; exact (hd u e).1.symm)]
      exact h.1 u e j hj
  · rw [h2.2 m h1 (fun v hv => by rw [List.mem_singleton.mp hv]; exact h3 t (by simp))]
    exact h.2 m h1 (fun v hv => h3 v (List.mem_cons_of_mem _ hv))
theorem SV.step {kk N b : Nat} {k k2 w : Int32} {I Ia : MI} (h : SV kk [(N, b, k.toNatClampNeg)] I Ia) (hk : 0 ≤ k.toInt) (hat : (Ia 1000 78).toInt = 2720 * (kk : Int) + (b : Int) + k.toInt) (hN : N ≠ 1076 ∧ N ≠ 1000) (e : k2.toInt = k.toInt + 1) : SV kk [(N, b, k2.toNatClampNeg)] I (u2 (u2 Ia 1076 (Ia 1000 78).toNatClampNeg (Ia N k.toNatClampNeg)) 1000 78 w) := by
  have t1 := tn hk
  have t2 := tn (i := k2) (by omega)
  have t3 := tn (i := Ia 1000 78) (by omega)
  have e3 : (Ia 1000 78).toNatClampNeg = 2720 * kk + b + k.toNatClampNeg := by omega
  refine ⟨fun t ht j hj => ?_, fun j hj => ?_, fun m h1 h2 => ?_⟩
  · rw [List.mem_singleton.mp ht] at hj ⊢
    simp only at hj ⊢
    rw [u2_v, if_neg (by simp), u2_v]
    by_cases hq : j = k.toNatClampNeg
    · rw [if_pos ⟨rfl, by omega⟩, hq]
      exact congrFun (h.2.2 N hN.1 hN.2) _
    · rw [if_neg (by omega)]
      exact h.1 _ (List.mem_singleton.mpr rfl) j (by simp only; omega)
  · have h1 := hj _ (List.mem_singleton.mpr rfl)
    simp only at h1
    rw [u2_v, if_neg (by simp), u2_v, if_neg (by omega)]
    exact h.2.1 j (fun v hv => by rw [List.mem_singleton.mp hv]; simp only; omega)
  · funext j
    rw [u2_v, if_neg (by omega), u2_v, if_neg (by omega)]
    exact congrFun (h.2.2 m h1 h2) j
theorem LD.step {kk N b : Nat} {k k2 w : Int32} {I Ia : MI} (h : LD kk [(N, b, k.toNatClampNeg)] I Ia) (hk : 0 ≤ k.toInt) (hat : (Ia 1000 78).toInt = 2720 * (kk : Int) + (b : Int) + k.toInt) (hN : N ≠ 1076 ∧ N ≠ 1000) (e : k2.toInt = k.toInt + 1) : LD kk [(N, b, k2.toNatClampNeg)] I (u2 (u2 Ia N k.toNatClampNeg (Ia 1076 (Ia 1000 78).toNatClampNeg)) 1000 78 w) := by
  have t1 := tn hk
  have t2 := tn (i := k2) (by omega)
  have t3 := tn (i := Ia 1000 78) (by omega)
  have e3 : (Ia 1000 78).toNatClampNeg = 2720 * kk + b + k.toNatClampNeg := by omega
  have hi : Ia 1076 = I 1076 := h.2 1076 (by decide) (fun v hv => by rw [List.mem_singleton.mp hv]; exact hN.1)
  refine ⟨fun t ht j hj => ?_, fun m h1 h2 => ?_⟩
  · rw [List.mem_singleton.mp ht] at hj ⊢
    simp only at hj ⊢
    rw [u2_v, if_neg (by omega), u2_v]
    by_cases hq : j = k.toNatClampNeg
    · rw [if_pos ⟨rfl, hq⟩, hi, e3, hq]
    · rw [if_neg (by omega)]
      exact h.1 _ (List.mem_singleton.mpr rfl) j (by simp only; omega)
  · have h3 := h2 _ (List.mem_singleton.mpr rfl)
    simp only at h3
    funext j
    rw [u2_v, if_neg (by omega), u2_v, if_neg (by omega)]
    exact congrFun (h.2 m h1 (fun v hv => by rw [List.mem_singleton.mp hv]; exact h3)) j
theorem SV.z {kk N b : Nat} {k : Int32} {I : MI} (h : k.toInt = 0) : SV kk [(N, b, k.toNatClampNeg)] I I := by
  have := tn (i := k) (by omega)
  refine ⟨fun t ht j hj => ?_, fun _ _ => rfl, fun _ _ _ => rfl⟩
  rw [List.mem_singleton.mp ht] at hj
  simp only at hj
  omega
theorem LD.z {kk N b : Nat} {k : Int32} {I : MI} (h : k.toInt = 0) : LD kk [(N, b, k.toNatClampNeg)] I I := by
  have := tn (i := k) (by omega)
  refine ⟨fun t ht j hj => ?_, fun _ _ _ => rfl⟩
  rw [List.mem_singleton.mp ht] at hj
  simp only at hj
  omega
theorem cl_of {k : Int32} {n : Nat} (h : k.toInt = n) : k.toNatClampNeg = n := by
  have := tn (i := k) (by omega)
  omega
theorem rgim1 {kk : Nat} {a k : Int32} (hat : a.toInt = 2720 * (kk : Int) + 0 + k.toInt) (h0 : 0 ≤ k.toInt) (hn : k.toInt < 10) : rg 1076 a.toNatClampNeg = rg 1001 k.toNatClampNeg := by
  have t1 := tn h0
  have t2 := tn (i := a) (by omega)
  show rgM_76 a.toNatClampNeg = rgM_1 k.toNatClampNeg
  have e : a.toNatClampNeg % 2720 = k.toNatClampNeg := by omega
  unfold rgM_76
  rw [e, if_pos (by omega)]
theorem rgim6 {kk : Nat} {a k : Int32} (hat : a.toInt = 2720 * (kk : Int) + 1738 + k.toInt) (h0 : 0 ≤ k.toInt) (hn : k.toInt < 576) : rg 1076 a.toNatClampNeg = rg 1006 k.toNatClampNeg := by
  have t1 := tn h0
  have t2 := tn (i := a) (by omega)
  show rgM_76 a.toNatClampNeg = (-1, 23)
  have e : a.toNatClampNeg % 2720 = 1738 + k.toNatClampNeg := by omega
  unfold rgM_76
  rw [e, if_neg (by omega), if_pos (by omega)]
theorem rgimF {kk b n N : Nat} {a k : Int32} (hb : 10 ≤ b ∧ b + n ≤ 2720 ∧ (b + n ≤ 1738 ∨ 2314 ≤ b)) (hN : rg N k.toNatClampNeg = (-2147483648, 2147483647)) (hat : a.toInt = 2720 * (kk : Int) + (b : Int) + k.toInt) (h0 : 0 ≤ k.toInt) (hn : k.toInt < (n : Int)) : rg 1076 a.toNatClampNeg = rg N k.toNatClampNeg := by
  have t1 := tn h0
  have t2 := tn (i := a) (by omega)
  rw [hN]
  show rgM_76 a.toNatClampNeg = _
  have e : a.toNatClampNeg % 2720 = b + k.toNatClampNeg := by omega
  unfold rgM_76
  rw [e, if_neg (by omega), if_neg (by omega)]
theorem dX10_carry_0 : decode cX10_carry 0 = .ok (.iconst 0, 1) := by decide +kernel
theorem dX10_carry_1 : decode cX10_carry 1 = .ok (.istore_n 2, 1) := by decide +kernel
theorem dX10_carry_2 : decode cX10_carry 2 = .ok (.iload_n 2, 1) := by decide +kernel
theorem dX10_carry_3 : decode cX10_carry 3 = .ok (.aload_n 1, 1) := by decide +kernel
theorem dX10_carry_4 : decode cX10_carry 4 = .ok (.arraylength, 1) := by decide +kernel
theorem dX10_carry_5 : decode cX10_carry 5 = .ok (.if_icmp .ge 53, 3) := by decide +kernel
theorem dX10_carry_8 : decode cX10_carry 8 = .ok (.aload_n 0, 1) := by decide +kernel
theorem dX10_carry_9 : decode cX10_carry 9 = .ok (.getfield 542, 3) := by decide +kernel
theorem dX10_carry_12 : decode cX10_carry 12 = .ok (.ifCond .eq 18, 3) := by decide +kernel
theorem dX10_carry_15 : decode cX10_carry 15 = .ok (.aload_n 1, 1) := by decide +kernel
theorem dX10_carry_16 : decode cX10_carry 16 = .ok (.iload_n 2, 1) := by decide +kernel
theorem dX10_carry_17 : decode cX10_carry 17 = .ok (.aload_n 0, 1) := by decide +kernel
theorem dX10_carry_18 : decode cX10_carry 18 = .ok (.getfield 179, 3) := by decide +kernel
theorem dX10_carry_21 : decode cX10_carry 21 = .ok (.aload_n 0, 1) := by decide +kernel
theorem dX10_carry_22 : decode cX10_carry 22 = .ok (.getfield 545, 3) := by decide +kernel
theorem dX10_carry_25 : decode cX10_carry 25 = .ok (.iaload, 1) := by decide +kernel
theorem dX10_carry_26 : decode cX10_carry 26 = .ok (.iastore, 1) := by decide +kernel
theorem dX10_carry_27 : decode cX10_carry 27 = .ok (.goto 15, 3) := by decide +kernel
theorem dX10_carry_30 : decode cX10_carry 30 = .ok (.aload_n 0, 1) := by decide +kernel
theorem dX10_carry_31 : decode cX10_carry 31 = .ok (.getfield 179, 3) := by decide +kernel
theorem dX10_carry_34 : decode cX10_carry 34 = .ok (.aload_n 0, 1) := by decide +kernel
theorem dX10_carry_35 : decode cX10_carry 35 = .ok (.getfield 545, 3) := by decide +kernel
theorem dX10_carry_38 : decode cX10_carry 38 = .ok (.aload_n 1, 1) := by decide +kernel
theorem dX10_carry_39 : decode cX10_carry 39 = .ok (.iload_n 2, 1) := by decide +kernel
theorem dX10_carry_40 : decode cX10_carry 40 = .ok (.iaload, 1) := by decide +kernel
theorem dX10_carry_41 : decode cX10_carry 41 = .ok (.iastore, 1) := by decide +kernel
theorem dX10_carry_42 : decode cX10_carry 42 = .ok (.aload_n 0, 1) := by decide +kernel
theorem dX10_carry_43 : decode cX10_carry 43 = .ok (.dup, 1) := by decide +kernel
theorem dX10_carry_44 : decode cX10_carry 44 = .ok (.getfield 545, 3) := by decide +kernel
theorem dX10_carry_47 : decode cX10_carry 47 = .ok (.iconst 1, 1) := by decide +kernel
theorem dX10_carry_48 : decode cX10_carry 48 = .ok (.iadd, 1) := by decide +kernel
theorem dX10_carry_49 : decode cX10_carry 49 = .ok (.putfield 545, 3) := by decide +kernel
theorem dX10_carry_52 : decode cX10_carry 52 = .ok (.iinc 2 1, 3) := by decide +kernel
theorem dX10_carry_55 : decode cX10_carry 55 = .ok (.goto (-53), 3) := by decide +kernel
theorem dX10_carry_58 : decode cX10_carry 58 = .ok (.return_, 1) := by decide +kernel
theorem ce_X10_carry : CeV RX10 yX10_carry cX10_carry 3 none 1 := ⟨tb_1834, tp_110, tb_11, tb_1835, rfl, by decide, by decide, by decide +kernel⟩
set_option maxHeartbeats 4000000 in
set_option maxRecDepth 20000 in
theorem V_X10_carry_1001 (l : Launch) (D : va_G) (A : Nat → Prop) (ad : Nat → Nat) (ns : List Nat) (I : MI) (L : ML) (G : MG) (kk : Nat) (hJ : SGM ns G) (hI : INV I) (hk4 : kk < 4) (hat : (I 1000 78).toInt = 2720 * (kk : Int) + 0) : Met l yX10_carry (wd yX10_carry cX10_carry 3 none) ({ frames := 0, cells := 0, slots := 0, locals := 0 }) (va_Pc [.ref (ad (1000)), .ref (ad (1001))] (PM D A ad ns I L G)) (va_Qv (fun u => ∃ I2 L2, u = (ad, ns, I2, L2, G) ∧ INV I2 ∧ Kp [(1001, 1002), (1076, 1077)] [(1000, 78)] I I2 ∧ ((I2 1000 78).toInt = 2720 * (kk : Int) + 10 ∧ ((I 1000 79).toInt = 0 → SV kk [(1001, 0, 10)] I I2) ∧ ((I 1000 79).toInt ≠ 0 → LD kk [(1001, 0, 10)] I I2))) (BM D A) A) 0 0 A := by
  refine m_ofW (by decide) (Nat.le_of_ble_eq_true rfl) ?_
  intro p e s m below meth c ls args hC hE hM hA hS hl
  obtain ⟨hx, hb, hml, hown, hts, hr, hlocks, hin⟩ := hC
  have k0 : (0 : Int32).toInt = 0 := by decide
  have k1 : (1 : Int32).toInt = 1 := by decide
  have k10 : (10 : Int32).toInt = 10 := by decide
  have hK : Kp [(1001, 1002), (1076, 1077)] [(1000, 78)] I I := Kp.rf
  have hl : lv_has ls 3 [(0, .ref (ad (1000))), (1, .ref (ad (1001)))] := hl
  refine lv_iconst (v := (0)) hx hb dX10_carry_0 (by decide) ?_
  refine lv_istore_n (lv' := [(2, .int (0)), (0, .ref (ad (1000))), (1, .ref (ad (1001)))]) hx hb dX10_carry_1 rfl hl (by decide) rfl (fun ls hl => ?_)
  have loop2 : ∀ (n : Nat) (x2_2 : Int32) (Ia2 : MI) (La2 : ML) (H : Heap) (locs : List Loc) (ls : Array Slot), INV Ia2 → Kp [(1001, 1002), (1076, 1077)] [(1000, 78)] I Ia2 → (0 ≤ x2_2.toInt ∧ x2_2.toInt ≤ 10) → ((Ia2 1000 78).toInt = 2720 * (kk : Int) + 0 + (x2_2).toInt) → ((I 1000 79).toInt = 0 → SV kk [(1001, 0, (x2_2).toNatClampNeg)] I Ia2) → ((I 1000 79).toInt ≠ 0 → LD kk [(1001, 0, (x2_2).toNatClampNeg)] I Ia2) → (10 - x2_2.toInt).toNat < n → Mem D A ad ns Ia2 La2 G H → va_S A s.heap H locs → lv_has ls 3 [(2, .int (x2_2)), (0, .ref (ad (1000))), (1, .ref (ad (1001)))] → W p l e ({ frames := 0, cells := 0, slots := 0, locals := 0 } : Room) s m args below meth c H locs 0 0 (MQ below (va_Qv (fun u => ∃ I2 L2, u = (ad, ns, I2, L2, G) ∧ INV I2 ∧ Kp [(1001, 1002), (1076, 1077)] [(1000, 78)] I I2 ∧ ((I2 1000 78).toInt = 2720 * (kk : Int) + 10 ∧ ((I 1000 79).toInt = 0 → SV kk [(1001, 0, 10)] I I2) ∧ ((I 1000 79).toInt ≠ 0 → LD kk [(1001, 0, 10)] I I2))) (BM D A) A) args s 0 0 A) (F0 m 2 ls []) := by
    intro n
    induction n with
    | zero =>
      intro x2_2 Ia2 La2 H locs ls hI hK hr2_2 hat3 hv2 hw2 hmu
      exact absurd hmu (Nat.not_lt_zero _)
    | succ n ih2 =>
      intro x2_2 Ia2 La2 H locs ls hI hK hr2_2 hat3 hv2 hw2 hmu2 hM hS hl
      have hK0 := hK
      refine lv_iload_n hx hb dX10_carry_2 rfl (lv_at hl 0 rfl) ?_
      refine lv_aload_n hx hb dX10_carry_3 rfl (lv_at hl 2 rfl) ?_
      refine m_alen 1001 (t0 := 0) (v := 10) hx hb hE hM (hJ.2 1 (by decide)).1 rfl (by decide) rfl rfl dX10_carry_4 ?_
      refine lv_icmp_ge (tgt := 58) hx hb dX10_carry_5 (by decide) (fun c1 => ?_) (fun c1 => ?_)
      · have hc1 := c1
        have q1 := q_le hc1
        exact m_vret hx hb hr hlocks hM hS (Nat.le_of_ble_eq_true rfl) (Nat.le_of_ble_eq_true rfl) ⟨_, _, rfl, hI, hK, (by have hz := cl_of (k := x2_2) (n := 10) (by omega); rw [hz] at hv2 hw2; exact ⟨by omega, hv2, hw2⟩)⟩ dX10_carry_58
      · have hc1 := c1
        have q1 := q_nle hc1
        refine lv_aload_n hx hb dX10_carry_8 rfl (lv_at hl 1 rfl) ?_
        refine m_geti (1000) 79 hx hb hts hown hE oc10 hM hJ.1 rfl (by decide) rfl tb_1256 dX10_carry_9 ?_
        have g2 := hI.get (1000) 79 (lo := 0) (hi := 1) rfl
        refine lv_if_eq (tgt := 30) hx hb dX10_carry_12 (by decide) (fun c3 => ?_) (fun c3 => ?_)
        · have hc3 := c3
          have q3 := q_eq hc3
          refine lv_aload_n hx hb dX10_carry_30 rfl (lv_at hl 1 rfl) ?_
          refine m_getr (1000) 76 (1076) hx hb hts hown hE oc10 hM hJ.1 rfl (by decide) rfl (hJ.2 76 (by decide)).2 (by decide) tb_1253 dX10_carry_31 ?_
          refine lv_aload_n hx hb dX10_carry_34 rfl (lv_at hl 1 rfl) ?_
          refine m_geti (1000) 78 hx hb hts hown hE oc10 hM hJ.1 rfl (by decide) rfl tb_1255 dX10_carry_35 ?_
          have g4 := hI.get (1000) 78 (lo := 0) (hi := 10880) rfl
          refine lv_aload_n hx hb dX10_carry_38 rfl (lv_at hl 2 rfl) ?_
          refine lv_iload_n hx hb dX10_carry_39 rfl (lv_at hl 0 rfl) ?_
          refine m_iald (1001) hx hb hE hM (hJ.2 1 (by decide)).1 rfl (vp_in_iff.mpr (by omega)) dX10_carry_40 ?_
          refine m_iast (1076) hx hb hE hM hS (hJ.2 76 (by decide)).1 rfl (vp_in_iff.mpr (by omega)) dX10_carry_41 (fun H locs I5 eI5 hM hS => ?_)
          subst eI5
          have hat2 : (Ia2 1000 78).toInt = 2720 * (kk : Int) + 0 + (x2_2).toInt := hat3
          have hk0 : 0 ≤ (x2_2).toInt := by omega
          have hkn : (x2_2).toInt < 10 := by omega
          have hI := hI.putx (n := 1076) (k := ((Ia2 (1000) 78).toNatClampNeg)) (v := Ia2 (1001) (x2_2).toNatClampNeg) (by rw [rgim1 (kk := kk) (a := Ia2 1000 78) (k := x2_2) (by omega) hk0 hkn]; exact hI _ _)
          have hK := hK.put (n := 1076) (k := ((Ia2 (1000) 78).toNatClampNeg)) (v := Ia2 (1001) (x2_2).toNatClampNeg) (by first | rfl | simp [inR])
          refine lv_aload_n hx hb dX10_carry_42 rfl (lv_at hl 1 rfl) ?_
          refine lv_dup hx hb dX10_carry_43 rfl ?_
          refine m_geti (1000) 78 hx hb hts hown hE oc10 hM hJ.1 rfl (by decide) rfl tb_1255 dX10_carry_44 ?_
          have z6 : (u2 Ia2 (1076) ((Ia2 (1000) 78).toNatClampNeg) (Ia2 (1001) (x2_2).toNatClampNeg)) (1000) 78 = Ia2 (1000) 78 := (show (u2 Ia2 (1076) ((Ia2 (1000) 78).toNatClampNeg) (Ia2 (1001) (x2_2).toNatClampNeg)) (1000) 78 = Ia2 (1000) 78 from by simp [u2_v])
          rw [z6]
          refine lv_iconst (v := (1)) hx hb dX10_carry_47 (by decide) ?_
          refine lv_iadd hx hb dX10_carry_48 ?_
          refine lv_topi (fun v7 ev7 => ?_)
          have tv7 := a_add ev7 (by omega) (by omega)
          refine m_puti (1000) 78 hx hb hts hown hE oc10 hM hS hJ.1 rfl (by decide) rfl rfl rfl rfl tb_1255 dX10_carry_49 (fun H locs I8 eI8 hM hS => ?_)
          subst eI8
          have hI := hI.put (n := 1000) (k := 78) (v := v7) (lo := 0) (hi := 10880) rfl (by first | omega | decide)
          have hK := hK.put (n := 1000) (k := 78) (v := v7) (by first | rfl | simp [inR])
          obtain ⟨v9, ev9⟩ : ∃ z : Int32, z = x2_2 + Int32.ofInt (1) := ⟨_, rfl⟩
          have tv9 := a_inc ev9 (by decide) (by omega) (by omega)
          refine lv_iinc (v := v9) (lv' := [(2, .int (v9)), (0, .ref (ad (1000))), (1, .ref (ad (1001)))]) hx hb dX10_carry_52 hl (k := 0) rfl ev9.symm (by decide) rfl (fun ls hl => ?_)
          refine lv_goto (tgt := 2) hx hb dX10_carry_55 (by decide) ?_
          exact ih2 (v9) (u2 (u2 Ia2 (1076) ((Ia2 (1000) 78).toNatClampNeg) (Ia2 (1001) (x2_2).toNatClampNeg)) (1000) 78 (v7)) La2 _ _ ls hI hK (by first | omega | decide) (by rw [u2_self]; omega) (fun _ => SV.step (hv2 (by have hq := congrArg Int32.toInt (hK0.get 1000 79 rfl); omega)) (by omega) (by omega) (by decide) (by omega)) (fun hz => absurd (show (I 1000 79).toInt = 0 by have hq := congrArg Int32.toInt (hK0.get 1000 79 rfl); omega) hz) (by omega) hM hS (lv_sub hl [0, 1, 2] rfl)
        · have hc3 := c3
          have q3 := q_ne hc3
          refine lv_aload_n hx hb dX10_carry_15 rfl (lv_at hl 2 rfl) ?_
          refine lv_iload_n hx hb dX10_carry_16 rfl (lv_at hl 0 rfl) ?_
          refine lv_aload_n hx hb dX10_carry_17 rfl (lv_at hl 1 rfl) ?_
          refine m_getr (1000) 76 (1076) hx hb hts hown hE oc10 hM hJ.1 rfl (by decide) rfl (hJ.2 76 (by decide)).2 (by decide) tb_1253 dX10_carry_18 ?_
          refine lv_aload_n hx hb dX10_carry_21 rfl (lv_at hl 1 rfl) ?_
          refine m_geti (1000) 78 hx hb hts hown hE oc10 hM hJ.1 rfl (by decide) rfl tb_1255 dX10_carry_22 ?_
          have g10 := hI.get (1000) 78 (lo := 0) (hi := 10880) rfl
          refine m_iald (1076) hx hb hE hM (hJ.2 76 (by decide)).1 rfl (vp_in_iff.mpr (by omega)) dX10_carry_25 ?_
          refine m_iast (1001) hx hb hE hM hS (hJ.2 1 (by decide)).1 rfl (vp_in_iff.mpr (by omega)) dX10_carry_26 (fun H locs I11 eI11 hM hS => ?_)
          subst eI11
          have hat2 : (Ia2 1000 78).toInt = 2720 * (kk : Int) + 0 + (x2_2).toInt := hat3
          have hk0 : 0 ≤ (x2_2).toInt := by omega
          have hkn : (x2_2).toInt < 10 := by omega
          have hI := hI.putx (n := 1001) (k := ((x2_2).toNatClampNeg)) (v := Ia2 (1076) (Ia2 (1000) 78).toNatClampNeg) (by rw [← rgim1 (kk := kk) (a := Ia2 1000 78) (k := x2_2) (by omega) hk0 hkn]; exact hI _ _)
          have hK := hK.put (n := 1001) (k := ((x2_2).toNatClampNeg)) (v := Ia2 (1076) (Ia2 (1000) 78).toNatClampNeg) (by first | rfl | simp [inR])
          refine lv_goto (tgt := 42) hx hb dX10_carry_27 (by decide) ?_
          refine lv_aload_n hx hb dX10_carry_42 rfl (lv_at hl 1 rfl) ?_
          refine lv_dup hx hb dX10_carry_43 rfl ?_
          refine m_geti (1000) 78 hx hb hts hown hE oc10 hM hJ.1 rfl (by decide) rfl tb_1255 dX10_carry_44 ?_
          have z12 : (u2 Ia2 (1001) ((x2_2).toNatClampNeg) (Ia2 (1076) (Ia2 (1000) 78).toNatClampNeg)) (1000) 78 = Ia2 (1000) 78 := (show (u2 Ia2 (1001) ((x2_2).toNatClampNeg) (Ia2 (1076) (Ia2 (1000) 78).toNatClampNeg)) (1000) 78 = Ia2 (1000) 78 from by simp [u2_v])
          rw [z12]
          refine lv_iconst (v := (1)) hx hb dX10_carry_47 (by decide) ?_
          refine lv_iadd hx hb dX10_carry_48 ?_
          refine lv_topi (fun v13 ev13 => ?_)
          have tv13 := a_add ev13 (by omega) (by omega)
          refine m_puti (1000) 78 hx hb hts hown hE oc10 hM hS hJ.1 rfl (by decide) rfl rfl rfl rfl tb_1255 dX10_carry_49 (fun H locs I14 eI14 hM hS => ?_)
          subst eI14
          have hI := hI.put (n := 1000) (k := 78) (v := v13) (lo := 0) (hi := 10880) rfl (by first | omega | decide)
          have hK := hK.put (n := 1000) (k := 78) (v := v13) (by first | rfl | simp [inR])
          obtain ⟨v15, ev15⟩ : ∃ z : Int32, z = x2_2 + Int32.ofInt (1) := ⟨_, rfl⟩
          have tv15 := a_inc ev15 (by decide) (by omega) (by omega)
          refine lv_iinc (v := v15) (lv' := [(2, .int (v15)), (0, .ref (ad (1000))), (1, .ref (ad (1001)))]) hx hb dX10_carry_52 hl (k := 0) rfl ev15.symm (by decide) rfl (fun ls hl => ?_)
          refine lv_goto (tgt := 2) hx hb dX10_carry_55 (by decide) ?_
          exact ih2 (v15) (u2 (u2 Ia2 (1001) ((x2_2).toNatClampNeg) (Ia2 (1076) (Ia2 (1000) 78).toNatClampNeg)) (1000) 78 (v13)) La2 _ _ ls hI hK (by first | omega | decide) (by rw [u2_self]; omega) (fun hz => absurd hz (show (I 1000 79).toInt ≠ 0 by have hq := congrArg Int32.toInt (hK0.get 1000 79 rfl); omega)) (fun hz => LD.step (hw2 hz) (by omega) (by omega) (by decide) (by omega)) (by omega) hM hS (lv_sub hl [0, 1, 2] rfl)
  exact loop2 (_ + 1) (0) I L _ _ ls hI hK (by first | omega | decide) (by omega) (fun _ => SV.z (by decide)) (fun _ => LD.z (by decide)) (Nat.lt_succ_self _) hM hS (lv_sub hl [0, 1, 2] rfl)
set_option maxHeartbeats 4000000 in
set_option maxRecDepth 20000 in
theorem V_X10_carry_1002 (l : Launch) (D : va_G) (A : Nat → Prop) (ad : Nat → Nat) (ns : List Nat) (I : MI) (L : ML) (G : MG) (kk : Nat) (hJ : SGM ns G) (hI : INV I) (hk4 : kk < 4) (hat : (I 1000 78).toInt = 2720 * (kk : Int) + 10) : Met l yX10_carry (wd yX10_carry cX10_carry 3 none) ({ frames := 0, cells := 0, slots := 0, locals := 0 }) (va_Pc [.ref (ad (1000)), .ref (ad (1002))] (PM D A ad ns I L G)) (va_Qv (fun u => ∃ I2 L2, u = (ad, ns, I2, L2, G) ∧ INV I2 ∧ Kp [(1002, 1003), (1076, 1077)] [(1000, 78)] I I2 ∧ ((I2 1000 78).toInt = 2720 * (kk : Int) + 586 ∧ ((I 1000 79).toInt = 0 → SV kk [(1002, 10, 576)] I I2) ∧ ((I 1000 79).toInt ≠ 0 → LD kk [(1002, 10, 576)] I I2))) (BM D A) A) 0 0 A := by
  refine m_ofW (by decide) (Nat.le_of_ble_eq_true rfl) ?_
  intro p e s m below meth c ls args hC hE hM hA hS hl
  obtain ⟨hx, hb, hml, hown, hts, hr, hlocks, hin⟩ := hC
  have k0 : (0 : Int32).toInt = 0 := by decide
  have k1 : (1 : Int32).toInt = 1 := by decide
  have k576 : (576 : Int32).toInt = 576 := by decide
  have hK : Kp [(1002, 1003), (1076, 1077)] [(1000, 78)] I I := Kp.rf
  have hl : lv_has ls 3 [(0, .ref (ad (1000))), (1, .ref (ad (1002)))] := hl
  refine lv_iconst (v := (0)) hx hb dX10_carry_0 (by decide) ?_
  refine lv_istore_n (lv' := [(2, .int (0)), (0, .ref (ad (1000))), (1, .ref (ad (1002)))]) hx hb dX10_carry_1 rfl hl (by decide) rfl (fun ls hl => ?_)
  have loop2 : ∀ (n : Nat) (x2_2 : Int32) (Ia2 : MI) (La2 : ML) (H : Heap) (locs : List Loc) (ls : Array Slot), INV Ia2 → Kp [(1002, 1003), (1076, 1077)] [(1000, 78)] I Ia2 → (0 ≤ x2_2.toInt ∧ x2_2.toInt ≤ 576) → ((Ia2 1000 78).toInt = 2720 * (kk : Int) + 10 + (x2_2).toInt) → ((I 1000 79).toInt = 0 → SV kk [(1002, 10, (x2_2).toNatClampNeg)] I Ia2) → ((I 1000 79).toInt ≠ 0 → LD kk [(1002, 10, (x2_2).toNatClampNeg)] I Ia2) → (576 - x2_2.toInt).toNat < n → Mem D A ad ns Ia2 La2 G H → va_S A s.heap H locs → lv_has ls 3 [(2, .int (x2_2)), (0, .ref (ad (1000))), (1, .ref (ad (1002)))] → W p l e ({ frames := 0, cells := 0, slots := 0, locals := 0 } : Room) s m args below meth c H locs 0 0 (MQ below (va_Qv (fun u => ∃ I2 L2, u = (ad, ns, I2, L2, G) ∧ INV I2 ∧ Kp [(1002, 1003), (1076, 1077)] [(1000, 78)] I I2 ∧ ((I2 1000 78).toInt = 2720 * (kk : Int) + 586 ∧ ((I 1000 79).toInt = 0 → SV kk [(1002, 10, 576)] I I2) ∧ ((I 1000 79).toInt ≠ 0 → LD kk [(1002, 10, 576)] I I2))) (BM D A) A) args s 0 0 A) (F0 m 2 ls []) := by
    intro n
    induction n with
    | zero =>
      intro x2_2 Ia2 La2 H locs ls hI hK hr2_2 hat3 hv2 hw2 hmu
      exact absurd hmu (Nat.not_lt_zero _)
    | succ n ih2 =>
      intro x2_2 Ia2 La2 H locs ls hI hK hr2_2 hat3 hv2 hw2 hmu2 hM hS hl
      have hK0 := hK
      refine lv_iload_n hx hb dX10_carry_2 rfl (lv_at hl 0 rfl) ?_
      refine lv_aload_n hx hb dX10_carry_3 rfl (lv_at hl 2 rfl) ?_
      refine m_alen 1002 (t0 := 0) (v := 576) hx hb hE hM (hJ.2 2 (by decide)).1 rfl (by decide) rfl rfl dX10_carry_4 ?_
      refine lv_icmp_ge (tgt := 58) hx hb dX10_carry_5 (by decide) (fun c1 => ?_) (fun c1 => ?_)
      · have hc1 := c1
        have q1 := q_le hc1
        exact m_vret hx hb hr hlocks hM hS (Nat.le_of_ble_eq_true rfl) (Nat.le_of_ble_eq_true rfl) ⟨_, _, rfl, hI, hK, (by have hz := cl_of (k := x2_2) (n := 576) (by omega); rw [hz] at hv2 hw2; exact ⟨by omega, hv2, hw2⟩)⟩ dX10_carry_58
      · have hc1 := c1
        have q1 := q_nle hc1
        refine lv_aload_n hx hb dX10_carry_8 rfl (lv_at hl 1 rfl) ?_
        refine m_geti (1000) 79 hx hb hts hown hE oc10 hM hJ.1 rfl (by decide) rfl tb_1256 dX10_carry_9 ?_
        have g2 := hI.get (1000) 79 (lo := 0) (hi := 1) rfl
        refine lv_if_eq (tgt := 30) hx hb dX10_carry_12 (by decide) (fun c3 => ?_) (fun c3 => ?_)
        · have hc3 := c3
          have q3 := q_eq hc3
          refine lv_aload_n hx hb dX10_carry_30 rfl (lv_at hl 1 rfl) ?_
          refine m_getr (1000) 76 (1076) hx hb hts hown hE oc10 hM hJ.1 rfl (by decide) rfl (hJ.2 76 (by decide)).2 (by decide) tb_1253 dX10_carry_31 ?_
          refine lv_aload_n hx hb dX10_carry_34 rfl (lv_at hl 1 rfl) ?_
          refine m_geti (1000) 78 hx hb hts hown hE oc10 hM hJ.1 rfl (by decide) rfl tb_1255 dX10_carry_35 ?_
          have g4 := hI.get (1000) 78 (lo := 0) (hi := 10880) rfl
          refine lv_aload_n hx hb dX10_carry_38 rfl (lv_at hl 2 rfl) ?_
          refine lv_iload_n hx hb dX10_carry_39 rfl (lv_at hl 0 rfl) ?_
          refine m_iald (1002) hx hb hE hM (hJ.2 2 (by decide)).1 rfl (vp_in_iff.mpr (by omega)) dX10_carry_40 ?_
          refine m_iast (1076) hx hb hE hM hS (hJ.2 76 (by decide)).1 rfl (vp_in_iff.mpr (by omega)) dX10_carry_41 (fun H locs I5 eI5 hM hS => ?_)
          subst eI5
          have hat2 : (Ia2 1000 78).toInt = 2720 * (kk : Int) + 10 + (x2_2).toInt := hat3
          have hk0 : 0 ≤ (x2_2).toInt := by omega
          have hkn : (x2_2).toInt < 576 := by omega
          have hI := hI.putx (n := 1076) (k := ((Ia2 (1000) 78).toNatClampNeg)) (v := Ia2 (1002) (x2_2).toNatClampNeg) (by rw [rgimF (kk := kk) (b := 10) (n := 576) (N := 1002) (a := Ia2 1000 78) (k := x2_2) (by decide) rfl (by omega) hk0 (by omega)]; exact hI _ _)
          have hK := hK.put (n := 1076) (k := ((Ia2 (1000) 78).toNatClampNeg)) (v := Ia2 (1002) (x2_2).toNatClampNeg) (by first | rfl | simp [inR])
          refine lv_aload_n hx hb dX10_carry_42 rfl (lv_at hl 1 rfl) ?_
          refine lv_dup hx hb dX10_carry_43 rfl ?_
          refine m_geti (1000) 78 hx hb hts hown hE oc10 hM hJ.1 rfl (by decide) rfl tb_1255 dX10_carry_44 ?_
          have z6 : (u2 Ia2 (1076) ((Ia2 (1000) 78).toNatClampNeg) (Ia2 (1002) (x2_2).toNatClampNeg)) (1000) 78 = Ia2 (1000) 78 := (show (u2 Ia2 (1076) ((Ia2 (1000) 78).toNatClampNeg) (Ia2 (1002) (x2_2).toNatClampNeg)) (1000) 78 = Ia2 (1000) 78 from by simp [u2_v])
          rw [z6]
          refine lv_iconst (v := (1)) hx hb dX10_carry_47 (by decide) ?_
          refine lv_iadd hx hb dX10_carry_48 ?_
          refine lv_topi (fun v7 ev7 => ?_)
          have tv7 := a_add ev7 (by omega) (by omega)
          refine m_puti (1000) 78 hx hb hts hown hE oc10 hM hS hJ.1 rfl (by decide) rfl rfl rfl rfl tb_1255 dX10_carry_49 (fun H locs I8 eI8 hM hS => ?_)
          subst eI8
          have hI := hI.put (n := 1000) (k := 78) (v := v7) (lo := 0) (hi := 10880) rfl (by first | omega | decide)
          have hK := hK.put (n := 1000) (k := 78) (v := v7) (by first | rfl | simp [inR])
          obtain ⟨v9, ev9⟩ : ∃ z : Int32, z = x2_2 + Int32.ofInt (1) := ⟨_, rfl⟩
          have tv9 := a_inc ev9 (by decide) (by omega) (by omega)
          refine lv_iinc (v := v9) (lv' := [(2, .int (v9)), (0, .ref (ad (1000))), (1, .ref (ad (1002)))]) hx hb dX10_carry_52 hl (k := 0) rfl ev9.symm (by decide) rfl (fun ls hl => ?_)
          refine lv_goto (tgt := 2) hx hb dX10_carry_55 (by decide) ?_
          exact ih2 (v9) (u2 (u2 Ia2 (1076) ((Ia2 (1000) 78).toNatClampNeg) (Ia2 (1002) (x2_2).toNatClampNeg)) (1000) 78 (v7)) La2 _ _ ls hI hK (by first | omega | decide) (by rw [u2_self]; omega) (fun _ => SV.step (hv2 (by have hq := congrArg Int32.toInt (hK0.get 1000 79 rfl); omega)) (by omega) (by omega) (by decide) (by omega)) (fun hz => absurd (show (I 1000 79).toInt = 0 by have hq := congrArg Int32.toInt (hK0.get 1000 79 rfl); omega) hz) (by omega) hM hS (lv_sub hl [0, 1, 2] rfl)
        · have hc3 := c3
          have q3 := q_ne hc3
          refine lv_aload_n hx hb dX10_carry_15 rfl (lv_at hl 2 rfl) ?_
          refine lv_iload_n hx hb dX10_carry_16 rfl (lv_at hl 0 rfl) ?_
          refine lv_aload_n hx hb dX10_carry_17 rfl (lv_at hl 1 rfl) ?_
          refine m_getr (1000) 76 (1076) hx hb hts hown hE oc10 hM hJ.1 rfl (by decide) rfl (hJ.2 76 (by decide)).2 (by decide) tb_1253 dX10_carry_18 ?_
          refine lv_aload_n hx hb dX10_carry_21 rfl (lv_at hl 1 rfl) ?_
          refine m_geti (1000) 78 hx hb hts hown hE oc10 hM hJ.1 rfl (by decide) rfl tb_1255 dX10_carry_22 ?_
          have g10 := hI.get (1000) 78 (lo := 0) (hi := 10880) rfl
          refine m_iald (1076) hx hb hE hM (hJ.2 76 (by decide)).1 rfl (vp_in_iff.mpr (by omega)) dX10_carry_25 ?_
          refine m_iast (1002) hx hb hE hM hS (hJ.2 2 (by decide)).1 rfl (vp_in_iff.mpr (by omega)) dX10_carry_26 (fun H locs I11 eI11 hM hS => ?_)
          subst eI11
          have hat2 : (Ia2 1000 78).toInt = 2720 * (kk : Int) + 10 + (x2_2).toInt := hat3
          have hk0 : 0 ≤ (x2_2).toInt := by omega
          have hkn : (x2_2).toInt < 576 := by omega
          have hI := hI.putx (n := 1002) (k := ((x2_2).toNatClampNeg)) (v := Ia2 (1076) (Ia2 (1000) 78).toNatClampNeg) (by rw [← rgimF (kk := kk) (b := 10) (n := 576) (N := 1002) (a := Ia2 1000 78) (k := x2_2) (by decide) rfl (by omega) hk0 (by omega)]; exact hI _ _)
          have hK := hK.put (n := 1002) (k := ((x2_2).toNatClampNeg)) (v := Ia2 (1076) (Ia2 (1000) 78).toNatClampNeg) (by first | rfl | simp [inR])
          refine lv_goto (tgt := 42) hx hb dX10_carry_27 (by decide) ?_
          refine lv_aload_n hx hb dX10_carry_42 rfl (lv_at hl 1 rfl) ?_
          refine lv_dup hx hb dX10_carry_43 rfl ?_
          refine m_geti (1000) 78 hx hb hts hown hE oc10 hM hJ.1 rfl (by decide) rfl tb_1255 dX10_carry_44 ?_
          have z12 : (u2 Ia2 (1002) ((x2_2).toNatClampNeg) (Ia2 (1076) (Ia2 (1000) 78).toNatClampNeg)) (1000) 78 = Ia2 (1000) 78 := (show (u2 Ia2 (1002) ((x2_2).toNatClampNeg) (Ia2 (1076) (Ia2 (1000) 78).toNatClampNeg)) (1000) 78 = Ia2 (1000) 78 from by simp [u2_v])
          rw [z12]
          refine lv_iconst (v := (1)) hx hb dX10_carry_47 (by decide) ?_
          refine lv_iadd hx hb dX10_carry_48 ?_
          refine lv_topi (fun v13 ev13 => ?_)
          have tv13 := a_add ev13 (by omega) (by omega)
          refine m_puti (1000) 78 hx hb hts hown hE oc10 hM hS hJ.1 rfl (by decide) rfl rfl rfl rfl tb_1255 dX10_carry_49 (fun H locs I14 eI14 hM hS => ?_)
          subst eI14
          have hI := hI.put (n := 1000) (k := 78) (v := v13) (lo := 0) (hi := 10880) rfl (by first | omega | decide)
          have hK := hK.put (n := 1000) (k := 78) (v := v13) (by first | rfl | simp [inR])
          obtain ⟨v15, ev15⟩ : ∃ z : Int32, z = x2_2 + Int32.ofInt (1) := ⟨_, rfl⟩
          have tv15 := a_inc ev15 (by decide) (by omega) (by omega)
          refine lv_iinc (v := v15) (lv' := [(2, .int (v15)), (0, .ref (ad (1000))), (1, .ref (ad (1002)))]) hx hb dX10_carry_52 hl (k := 0) rfl ev15.symm (by decide) rfl (fun ls hl => ?_)
          refine lv_goto (tgt := 2) hx hb dX10_carry_55 (by decide) ?_
          exact ih2 (v15) (u2 (u2 Ia2 (1002) ((x2_2).toNatClampNeg) (Ia2 (1076) (Ia2 (1000) 78).toNatClampNeg)) (1000) 78 (v13)) La2 _ _ ls hI hK (by first | omega | decide) (by rw [u2_self]; omega) (fun hz => absurd hz (show (I 1000 79).toInt ≠ 0 by have hq := congrArg Int32.toInt (hK0.get 1000 79 rfl); omega)) (fun hz => LD.step (hw2 hz) (by omega) (by omega) (by decide) (by omega)) (by omega) hM hS (lv_sub hl [0, 1, 2] rfl)
  exact loop2 (_ + 1) (0) I L _ _ ls hI hK (by first | omega | decide) (by omega) (fun _ => SV.z (by decide)) (fun _ => LD.z (by decide)) (Nat.lt_succ_self _) hM hS (lv_sub hl [0, 1, 2] rfl)
set_option maxHeartbeats 4000000 in
set_option maxRecDepth 20000 in
theorem V_X10_carry_1003 (l : Launch) (D : va_G) (A : Nat → Prop) (ad : Nat → Nat) (ns : List Nat) (I : MI) (L : ML) (G : MG) (kk : Nat) (hJ : SGM ns G) (hI : INV I) (hk4 : kk < 4) (hat : (I 1000 78).toInt = 2720 * (kk : Int) + 586) : Met l yX10_carry (wd yX10_carry cX10_carry 3 none) ({ frames := 0, cells := 0, slots := 0, locals := 0 }) (va_Pc [.ref (ad (1000)), .ref (ad (1003))] (PM D A ad ns I L G)) (va_Qv (fun u => ∃ I2 L2, u = (ad, ns, I2, L2, G) ∧ INV I2 ∧ Kp [(1003, 1004), (1076, 1077)] [(1000, 78)] I I2 ∧ ((I2 1000 78).toInt = 2720 * (kk : Int) + 1162 ∧ ((I 1000 79).toInt = 0 → SV kk [(1003, 586, 576)] I I2) ∧ ((I 1000 79).toInt ≠ 0 → LD kk [(1003, 586, 576)] I I2))) (BM D A) A) 0 0 A := by
  refine m_ofW (by decide) (Nat.le_of_ble_eq_true rfl) ?_
  intro p e s m below meth c ls args hC hE hM hA hS hl
  obtain ⟨hx, hb, hml, hown, hts, hr, hlocks, hin⟩ := hC
  have k0 : (0 : Int32).toInt = 0 := by decide
  have k1 : (1 : Int32).toInt = 1 := by decide
  have k576 : (576 : Int32).toInt = 576 := by decide
  have hK : Kp [(1003, 1004), (1076, 1077)] [(1000, 78)] I I := Kp.rf
  have hl : lv_has ls 3 [(0, .ref (ad (1000))), (1, .ref (ad (1003)))] := hl
  refine lv_iconst (v := (0)) hx hb dX10_carry_0 (by decide) ?_
  refine lv_istore_n (lv' := [(2, .int (0)), (0, .ref (ad (1000))), (1, .ref (ad (1003)))]) hx hb dX10_carry_1 rfl hl (by decide) rfl (fun ls hl => ?_)
  have loop2 : ∀ (n : Nat) (x2_2 : Int32) (Ia2 : MI) (La2 : ML) (H : Heap) (locs : List Loc) (ls : Array Slot), INV Ia2 → Kp [(1003, 1004), (1076, 1077)] [(1000, 78)] I Ia2 → (0 ≤ x2_2.toInt ∧ x2_2.toInt ≤ 576) → ((Ia2 1000 78).toInt = 2720 * (kk : Int) + 586 + (x2_2).toInt) → ((I 1000 79).toInt = 0 → SV kk [(1003, 586, (x2_2).toNatClampNeg)] I Ia2) → ((I 1000 79).toInt ≠ 0 → LD kk [(1003, 586, (x2_2).toNatClampNeg)] I Ia2) → (576 - x2_2.toInt).toNat < n → Mem D A ad ns Ia2 La2 G H → va_S A s.heap H locs → lv_has ls 3 [(2, .int (x2_2)), (0, .ref (ad (1000))), (1, .ref (ad (1003)))] → W p l e ({ frames := 0, cells := 0, slots := 0, locals := 0 } : Room) s m args below meth c H locs 0 0 (MQ below (va_Qv (fun u => ∃ I2 L2, u = (ad, ns, I2, L2, G) ∧ INV I2 ∧ Kp [(1003, 1004), (1076, 1077)] [(1000, 78)] I I2 ∧ ((I2 1000 78).toInt = 2720 * (kk : Int) + 1162 ∧ ((I 1000 79).toInt = 0 → SV kk [(1003, 586, 576)] I I2) ∧ ((I 1000 79).toInt ≠ 0 → LD kk [(1003, 586, 576)] I I2))) (BM D A) A) args s 0 0 A) (F0 m 2 ls []) := by
    intro n
    induction n with
    | zero =>
      intro x2_2 Ia2 La2 H locs ls hI hK hr2_2 hat3 hv2 hw2 hmu
      exact absurd hmu (Nat.not_lt_zero _)
    | succ n ih2 =>
      intro x2_2 Ia2 La2 H locs ls hI hK hr2_2 hat3 hv2 hw2 hmu2 hM hS hl
      have hK0 := hK
      refine lv_iload_n hx hb dX10_carry_2 rfl (lv_at hl 0 rfl) ?_
      refine lv_aload_n hx hb dX10_carry_3 rfl (lv_at hl 2 rfl) ?_
      refine m_alen 1003 (t0 := 0) (v := 576) hx hb hE hM (hJ.2 3 (by decide)).1 rfl (by decide) rfl rfl dX10_carry_4 ?_
      refine lv_icmp_ge (tgt := 58) hx hb dX10_carry_5 (by decide) (fun c1 => ?_) (fun c1 => ?_)
      · have hc1 := c1
        have q1 := q_le hc1
        exact m_vret hx hb hr hlocks hM hS (Nat.le_of_ble_eq_true rfl) (Nat.le_of_ble_eq_true rfl) ⟨_, _, rfl, hI, hK, (by have hz := cl_of (k := x2_2) (n := 576) (by omega); rw [hz] at hv2 hw2; exact ⟨by omega, hv2, hw2⟩)⟩ dX10_carry_58
      · have hc1 := c1
        have q1 := q_nle hc1
        refine lv_aload_n hx hb dX10_carry_8 rfl (lv_at hl 1 rfl) ?_
        refine m_geti (1000) 79 hx hb hts hown hE oc10 hM hJ.1 rfl (by decide) rfl tb_1256 dX10_carry_9 ?_
        have g2 := hI.get (1000) 79 (lo := 0) (hi := 1) rfl
        refine lv_if_eq (tgt := 30) hx hb dX10_carry_12 (by decide) (fun c3 => ?_) (fun c3 => ?_)
        · have hc3 := c3
          have q3 := q_eq hc3
          refine lv_aload_n hx hb dX10_carry_30 rfl (lv_at hl 1 rfl) ?_
          refine m_getr (1000) 76 (1076) hx hb hts hown hE oc10 hM hJ.1 rfl (by decide) rfl (hJ.2 76 (by decide)).2 (by decide) tb_1253 dX10_carry_31 ?_
          refine lv_aload_n hx hb dX10_carry_34 rfl (lv_at hl 1 rfl) ?_
          refine m_geti (1000) 78 hx hb hts hown hE oc10 hM hJ.1 rfl (by decide) rfl tb_1255 dX10_carry_35 ?_
          have g4 := hI.get (1000) 78 (lo := 0) (hi := 10880) rfl
          refine lv_aload_n hx hb dX10_carry_38 rfl (lv_at hl 2 rfl) ?_
          refine lv_iload_n hx hb dX10_carry_39 rfl (lv_at hl 0 rfl) ?_
          refine m_iald (1003) hx hb hE hM (hJ.2 3 (by decide)).1 rfl (vp_in_iff.mpr (by omega)) dX10_carry_40 ?_
          refine m_iast (1076) hx hb hE hM hS (hJ.2 76 (by decide)).1 rfl (vp_in_iff.mpr (by omega)) dX10_carry_41 (fun H locs I5 eI5 hM hS => ?_)
          subst eI5
          have hat2 : (Ia2 1000 78).toInt = 2720 * (kk : Int) + 586 + (x2_2).toInt := hat3
          have hk0 : 0 ≤ (x2_2).toInt := by omega
          have hkn : (x2_2).toInt < 576 := by omega
          have hI := hI.putx (n := 1076) (k := ((Ia2 (1000) 78).toNatClampNeg)) (v := Ia2 (1003) (x2_2).toNatClampNeg) (by rw [rgimF (kk := kk) (b := 586) (n := 576) (N := 1003) (a := Ia2 1000 78) (k := x2_2) (by decide) rfl (by omega) hk0 (by omega)]; exact hI _ _)
          have hK := hK.put (n := 1076) (k := ((Ia2 (1000) 78).toNatClampNeg)) (v := Ia2 (1003) (x2_2).toNatClampNeg) (by first | rfl | simp [inR])
          refine lv_aload_n hx hb dX10_carry_42 rfl (lv_at hl 1 rfl) ?_
          refine lv_dup hx hb dX10_carry_43 rfl ?_
          refine m_geti (1000) 78 hx hb hts hown hE oc10 hM hJ.1 rfl (by decide) rfl tb_1255 dX10_carry_44 ?_
          have z6 : (u2 Ia2 (1076) ((Ia2 (1000) 78).toNatClampNeg) (Ia2 (1003) (x2_2).toNatClampNeg)) (1000) 78 = Ia2 (1000) 78 := (show (u2 Ia2 (1076) ((Ia2 (1000) 78).toNatClampNeg) (Ia2 (1003) (x2_2).toNatClampNeg)) (1000) 78 = Ia2 (1000) 78 from by simp [u2_v])
          rw [z6]
          refine lv_iconst (v := (1)) hx hb dX10_carry_47 (by decide) ?_
          refine lv_iadd hx hb dX10_carry_48 ?_
          refine lv_topi (fun v7 ev7 => ?_)
          have tv7 := a_add ev7 (by omega) (by omega)
          refine m_puti (1000) 78 hx hb hts hown hE oc10 hM hS hJ.1 rfl (by decide) rfl rfl rfl rfl tb_1255 dX10_carry_49 (fun H locs I8 eI8 hM hS => ?_)
          subst eI8
          have hI := hI.put (n := 1000) (k := 78) (v := v7) (lo := 0) (hi := 10880) rfl (by first | omega | decide)
          have hK := hK.put (n := 1000) (k := 78) (v := v7) (by first | rfl | simp [inR])
          obtain ⟨v9, ev9⟩ : ∃ z : Int32, z = x2_2 + Int32.ofInt (1) := ⟨_, rfl⟩
          have tv9 := a_inc ev9 (by decide) (by omega) (by omega)
          refine lv_iinc (v := v9) (lv' := [(2, .int (v9)), (0, .ref (ad (1000))), (1, .ref (ad (1003)))]) hx hb dX10_carry_52 hl (k := 0) rfl ev9.symm (by decide) rfl (fun ls hl => ?_)
          refine lv_goto (tgt := 2) hx hb dX10_carry_55 (by decide) ?_
          exact ih2 (v9) (u2 (u2 Ia2 (1076) ((Ia2 (1000) 78).toNatClampNeg) (Ia2 (1003) (x2_2).toNatClampNeg)) (1000) 78 (v7)) La2 _ _ ls hI hK (by first | omega | decide) (by rw [u2_self]; omega) (fun _ => SV.step (hv2 (by have hq := congrArg Int32.toInt (hK0.get 1000 79 rfl); omega)) (by omega) (by omega) (by decide) (by omega)) (fun hz => absurd (show (I 1000 79).toInt = 0 by have hq := congrArg Int32.toInt (hK0.get 1000 79 rfl); omega) hz) (by omega) hM hS (lv_sub hl [0, 1, 2] rfl)
        · have hc3 := c3
          have q3 := q_ne hc3
          refine lv_aload_n hx hb dX10_carry_15 rfl (lv_at hl 2 rfl) ?_
          refine lv_iload_n hx hb dX10_carry_16 rfl (lv_at hl 0 rfl) ?_
          refine lv_aload_n hx hb dX10_carry_17 rfl (lv_at hl 1 rfl) ?_
          refine m_getr (1000) 76 (1076) hx hb hts hown hE oc10 hM hJ.1 rfl (by decide) rfl (hJ.2 76 (by decide)).2 (by decide) tb_1253 dX10_carry_18 ?_
          refine lv_aload_n hx hb dX10_carry_21 rfl (lv_at hl 1 rfl) ?_
          refine m_geti (1000) 78 hx hb hts hown hE oc10 hM hJ.1 rfl (by decide) rfl tb_1255 dX10_carry_22 ?_
          have g10 := hI.get (1000) 78 (lo := 0) (hi := 10880) rfl
          refine m_iald (1076) hx hb hE hM (hJ.2 76 (by decide)).1 rfl (vp_in_iff.mpr (by omega)) dX10_carry_25 ?_
          refine m_iast (1003) hx hb hE hM hS (hJ.2 3 (by decide)).1 rfl (vp_in_iff.mpr (by omega)) dX10_carry_26 (fun H locs I11 eI11 hM hS => ?_)
          subst eI11
          have hat2 : (Ia2 1000 78).toInt = 2720 * (kk : Int) + 586 + (x2_2).toInt := hat3
          have hk0 : 0 ≤ (x2_2).toInt := by omega
          have hkn : (x2_2).toInt < 576 := by omega
          have hI := hI.putx (n := 1003) (k := ((x2_2).toNatClampNeg)) (v := Ia2 (1076) (Ia2 (1000) 78).toNatClampNeg) (by rw [← rgimF (kk := kk) (b := 586) (n := 576) (N := 1003) (a := Ia2 1000 78) (k := x2_2) (by decide) rfl (by omega) hk0 (by omega)]; exact hI _ _)
          have hK := hK.put (n := 1003) (k := ((x2_2).toNatClampNeg)) (v := Ia2 (1076) (Ia2 (1000) 78).toNatClampNeg) (by first | rfl | simp [inR])
          refine lv_goto (tgt := 42) hx hb dX10_carry_27 (by decide) ?_
          refine lv_aload_n hx hb dX10_carry_42 rfl (lv_at hl 1 rfl) ?_
          refine lv_dup hx hb dX10_carry_43 rfl ?_
          refine m_geti (1000) 78 hx hb hts hown hE oc10 hM hJ.1 rfl (by decide) rfl tb_1255 dX10_carry_44 ?_
          have z12 : (u2 Ia2 (1003) ((x2_2).toNatClampNeg) (Ia2 (1076) (Ia2 (1000) 78).toNatClampNeg)) (1000) 78 = Ia2 (1000) 78 := (show (u2 Ia2 (1003) ((x2_2).toNatClampNeg) (Ia2 (1076) (Ia2 (1000) 78).toNatClampNeg)) (1000) 78 = Ia2 (1000) 78 from by simp [u2_v])
          rw [z12]
          refine lv_iconst (v := (1)) hx hb dX10_carry_47 (by decide) ?_
          refine lv_iadd hx hb dX10_carry_48 ?_
          refine lv_topi (fun v13 ev13 => ?_)
          have tv13 := a_add ev13 (by omega) (by omega)
          refine m_puti (1000) 78 hx hb hts hown hE oc10 hM hS hJ.1 rfl (by decide) rfl rfl rfl rfl tb_1255 dX10_carry_49 (fun H locs I14 eI14 hM hS => ?_)
          subst eI14
          have hI := hI.put (n := 1000) (k := 78) (v := v13) (lo := 0) (hi := 10880) rfl (by first | omega | decide)
          have hK := hK.put (n := 1000) (k := 78) (v := v13) (by first | rfl | simp [inR])
          obtain ⟨v15, ev15⟩ : ∃ z : Int32, z = x2_2 + Int32.ofInt (1) := ⟨_, rfl⟩
          have tv15 := a_inc ev15 (by decide) (by omega) (by omega)
          refine lv_iinc (v := v15) (lv' := [(2, .int (v15)), (0, .ref (ad (1000))), (1, .ref (ad (1003)))]) hx hb dX10_carry_52 hl (k := 0) rfl ev15.symm (by decide) rfl (fun ls hl => ?_)
          refine lv_goto (tgt := 2) hx hb dX10_carry_55 (by decide) ?_
          exact ih2 (v15) (u2 (u2 Ia2 (1003) ((x2_2).toNatClampNeg) (Ia2 (1076) (Ia2 (1000) 78).toNatClampNeg)) (1000) 78 (v13)) La2 _ _ ls hI hK (by first | omega | decide) (by rw [u2_self]; omega) (fun hz => absurd hz (show (I 1000 79).toInt ≠ 0 by have hq := congrArg Int32.toInt (hK0.get 1000 79 rfl); omega)) (fun hz => LD.step (hw2 hz) (by omega) (by omega) (by decide) (by omega)) (by omega) hM hS (lv_sub hl [0, 1, 2] rfl)
  exact loop2 (_ + 1) (0) I L _ _ ls hI hK (by first | omega | decide) (by omega) (fun _ => SV.z (by decide)) (fun _ => LD.z (by decide)) (Nat.lt_succ_self _) hM hS (lv_sub hl [0, 1, 2] rfl)
set_option maxHeartbeats 4000000 in
set_option maxRecDepth 20000 in
theorem V_X10_carry_1004 (l : Launch) (D : va_G) (A : Nat → Prop) (ad : Nat → Nat) (ns : List Nat) (I : MI) (L : ML) (G : MG) (kk : Nat) (hJ : SGM ns G) (hI : INV I) (hk4 : kk < 4) (hat : (I 1000 78).toInt = 2720 * (kk : Int) + 1162) : Met l yX10_carry (wd yX10_carry cX10_carry 3 none) ({ frames := 0, cells := 0, slots := 0, locals := 0 }) (va_Pc [.ref (ad (1000)), .ref (ad (1004))] (PM D A ad ns I L G)) (va_Qv (fun u => ∃ I2 L2, u = (ad, ns, I2, L2, G) ∧ INV I2 ∧ Kp [(1004, 1005), (1076, 1077)] [(1000, 78)] I I2 ∧ ((I2 1000 78).toInt = 2720 * (kk : Int) + 1450 ∧ ((I 1000 79).toInt = 0 → SV kk [(1004, 1162, 288)] I I2) ∧ ((I 1000 79).toInt ≠ 0 → LD kk [(1004, 1162, 288)] I I2))) (BM D A) A) 0 0 A := by
  refine m_ofW (by decide) (Nat.le_of_ble_eq_true rfl) ?_
  intro p e s m below meth c ls args hC hE hM hA hS hl
  obtain ⟨hx, hb, hml, hown, hts, hr, hlocks, hin⟩ := hC
  have k0 : (0 : Int32).toInt = 0 := by decide
  have k1 : (1 : Int32).toInt = 1 := by decide
  have k288 : (288 : Int32).toInt = 288 := by decide
  have hK : Kp [(1004, 1005), (1076, 1077)] [(1000, 78)] I I := Kp.rf
  have hl : lv_has ls 3 [(0, .ref (ad (1000))), (1, .ref (ad (1004)))] := hl
  refine lv_iconst (v := (0)) hx hb dX10_carry_0 (by decide) ?_
  refine lv_istore_n (lv' := [(2, .int (0)), (0, .ref (ad (1000))), (1, .ref (ad (1004)))]) hx hb dX10_carry_1 rfl hl (by decide) rfl (fun ls hl => ?_)
  have loop2 : ∀ (n : Nat) (x2_2 : Int32) (Ia2 : MI) (La2 : ML) (H : Heap) (locs : List Loc) (ls : Array Slot), INV Ia2 → Kp [(1004, 1005), (1076, 1077)] [(1000, 78)] I Ia2 → (0 ≤ x2_2.toInt ∧ x2_2.toInt ≤ 288) → ((Ia2 1000 78).toInt = 2720 * (kk : Int) + 1162 + (x2_2).toInt) → ((I 1000 79).toInt = 0 → SV kk [(1004, 1162, (x2_2).toNatClampNeg)] I Ia2) → ((I 1000 79).toInt ≠ 0 → LD kk [(1004, 1162, (x2_2).toNatClampNeg)] I Ia2) → (288 - x2_2.toInt).toNat < n → Mem D A ad ns Ia2 La2 G H → va_S A s.heap H locs → lv_has ls 3 [(2, .int (x2_2)), (0, .ref (ad (1000))), (1, .ref (ad (1004)))] → W p l e ({ frames := 0, cells := 0, slots := 0, locals := 0 } : Room) s m args below meth c H locs 0 0 (MQ below (va_Qv (fun u => ∃ I2 L2, u = (ad, ns, I2, L2, G) ∧ INV I2 ∧ Kp [(1004, 1005), (1076, 1077)] [(1000, 78)] I I2 ∧ ((I2 1000 78).toInt = 2720 * (kk : Int) + 1450 ∧ ((I 1000 79).toInt = 0 → SV kk [(1004, 1162, 288)] I I2) ∧ ((I 1000 79).toInt ≠ 0 → LD kk [(1004, 1162, 288)] I I2))) (BM D A) A) args s 0 0 A) (F0 m 2 ls []) := by
    intro n
    induction n with
    | zero =>
      intro x2_2 Ia2 La2 H locs ls hI hK hr2_2 hat3 hv2 hw2 hmu
      exact absurd hmu (Nat.not_lt_zero _)
    | succ n ih2 =>
      intro x2_2 Ia2 La2 H locs ls hI hK hr2_2 hat3 hv2 hw2 hmu2 hM hS hl
      have hK0 := hK
      refine lv_iload_n hx hb dX10_carry_2 rfl (lv_at hl 0 rfl) ?_
      refine lv_aload_n hx hb dX10_carry_3 rfl (lv_at hl 2 rfl) ?_
      refine m_alen 1004 (t0 := 0) (v := 288) hx hb hE hM (hJ.2 4 (by decide)).1 rfl (by decide) rfl rfl dX10_carry_4 ?_
      refine lv_icmp_ge (tgt := 58) hx hb dX10_carry_5 (by decide) (fun c1 => ?_) (fun c1 => ?_)
      · have hc1 := c1
        have q1 := q_le hc1
        exact m_vret hx hb hr hlocks hM hS (Nat.le_of_ble_eq_true rfl) (Nat.le_of_ble_eq_true rfl) ⟨_, _, rfl, hI, hK, (by have hz := cl_of (k := x2_2) (n := 288) (by omega); rw [hz] at hv2 hw2; exact ⟨by omega, hv2, hw2⟩)⟩ dX10_carry_58
      · have hc1 := c1
        have q1 := q_nle hc1
        refine lv_aload_n hx hb dX10_carry_8 rfl (lv_at hl 1 rfl) ?_
        refine m_geti (1000) 79 hx hb hts hown hE oc10 hM hJ.1 rfl (by decide) rfl tb_1256 dX10_carry_9 ?_
        have g2 := hI.get (1000) 79 (lo := 0) (hi := 1) rfl
        refine lv_if_eq (tgt := 30) hx hb dX10_carry_12 (by decide) (fun c3 => ?_) (fun c3 => ?_)
        · have hc3 := c3
          have q3 := q_eq hc3
          refine lv_aload_n hx hb dX10_carry_30 rfl (lv_at hl 1 rfl) ?_
          refine m_getr (1000) 76 (1076) hx hb hts hown hE oc10 hM hJ.1 rfl (by decide) rfl (hJ.2 76 (by decide)).2 (by decide) tb_1253 dX10_carry_31 ?_
          refine lv_aload_n hx hb dX10_carry_34 rfl (lv_at hl 1 rfl) ?_
          refine m_geti (1000) 78 hx hb hts hown hE oc10 hM hJ.1 rfl (by decide) rfl tb_1255 dX10_carry_35 ?_
          have g4 := hI.get (1000) 78 (lo := 0) (hi := 10880) rfl
          refine lv_aload_n hx hb dX10_carry_38 rfl (lv_at hl 2 rfl) ?_
          refine lv_iload_n hx hb dX10_carry_39 rfl (lv_at hl 0 rfl) ?_
          refine m_iald (1004) hx hb hE hM (hJ.2 4 (by decide)).1 rfl (vp_in_iff.mpr (by omega)) dX10_carry_40 ?_
          refine m_iast (1076) hx hb hE hM hS (hJ.2 76 (by decide)).1 rfl (vp_in_iff.mpr (by omega)) dX10_carry_41 (fun H locs I5 eI5 hM hS => ?_)
          subst eI5
          have hat2 : (Ia2 1000 78).toInt = 2720 * (kk : Int) + 1162 + (x2_2).toInt := hat3
          have hk0 : 0 ≤ (x2_2).toInt := by omega
          have hkn : (x2_2).toInt < 288 := by omega
          have hI := hI.putx (n := 1076) (k := ((Ia2 (1000) 78).toNatClampNeg)) (v := Ia2 (1004) (x2_2).toNatClampNeg) (by rw [rgimF (kk := kk) (b := 1162) (n := 288) (N := 1004) (a := Ia2 1000 78) (k := x2_2) (by decide) rfl (by omega) hk0 (by omega)]; exact hI _ _)
          have hK := hK.put (n := 1076) (k := ((Ia2 (1000) 78).toNatClampNeg)) (v := Ia2 (1004) (x2_2).toNatClampNeg) (by first | rfl | simp [inR])
          refine lv_aload_n hx hb dX10_carry_42 rfl (lv_at hl 1 rfl) ?_
          refine lv_dup hx hb dX10_carry_43 rfl ?_
          refine m_geti (1000) 78 hx hb hts hown hE oc10 hM hJ.1 rfl (by decide) rfl tb_1255 dX10_carry_44 ?_
          have z6 : (u2 Ia2 (1076) ((Ia2 (1000) 78).toNatClampNeg) (Ia2 (1004) (x2_2).toNatClampNeg)) (1000) 78 = Ia2 (1000) 78 := (show (u2 Ia2 (1076) ((Ia2 (1000) 78).toNatClampNeg) (Ia2 (1004) (x2_2).toNatClampNeg)) (1000) 78 = Ia2 (1000) 78 from by simp [u2_v])
          rw [z6]
          refine lv_iconst (v := (1)) hx hb dX10_carry_47 (by decide) ?_
          refine lv_iadd hx hb dX10_carry_48 ?_
          refine lv_topi (fun v7 ev7 => ?_)
          have tv7 := a_add ev7 (by omega) (by omega)
          refine m_puti (1000) 78 hx hb hts hown hE oc10 hM hS hJ.1 rfl (by decide) rfl rfl rfl rfl tb_1255 dX10_carry_49 (fun H locs I8 eI8 hM hS => ?_)
          subst eI8
          have hI := hI.put (n := 1000) (k := 78) (v := v7) (lo := 0) (hi := 10880) rfl (by first | omega | decide)
          have hK := hK.put (n := 1000) (k := 78) (v := v7) (by first | rfl | simp [inR])
          obtain ⟨v9, ev9⟩ : ∃ z : Int32, z = x2_2 + Int32.ofInt (1) := ⟨_, rfl⟩
          have tv9 := a_inc ev9 (by decide) (by omega) (by omega)
          refine lv_iinc (v := v9) (lv' := [(2, .int (v9)), (0, .ref (ad (1000))), (1, .ref (ad (1004)))]) hx hb dX10_carry_52 hl (k := 0) rfl ev9.symm (by decide) rfl (fun ls hl => ?_)
          refine lv_goto (tgt := 2) hx hb dX10_carry_55 (by decide) ?_
          exact ih2 (v9) (u2 (u2 Ia2 (1076) ((Ia2 (1000) 78).toNatClampNeg) (Ia2 (1004) (x2_2).toNatClampNeg)) (1000) 78 (v7)) La2 _ _ ls hI hK (by first | omega | decide) (by rw [u2_self]; omega) (fun _ => SV.step (hv2 (by have hq := congrArg Int32.toInt (hK0.get 1000 79 rfl); omega)) (by omega) (by omega) (by decide) (by omega)) (fun hz => absurd (show (I 1000 79).toInt = 0 by have hq := congrArg Int32.toInt (hK0.get 1000 79 rfl); omega) hz) (by omega) hM hS (lv_sub hl [0, 1, 2] rfl)
        · have hc3 := c3
          have q3 := q_ne hc3
          refine lv_aload_n hx hb dX10_carry_15 rfl (lv_at hl 2 rfl) ?_
          refine lv_iload_n hx hb dX10_carry_16 rfl (lv_at hl 0 rfl) ?_
          refine lv_aload_n hx hb dX10_carry_17 rfl (lv_at hl 1 rfl) ?_
          refine m_getr (1000) 76 (1076) hx hb hts hown hE oc10 hM hJ.1 rfl (by decide) rfl (hJ.2 76 (by decide)).2 (by decide) tb_1253 dX10_carry_18 ?_
          refine lv_aload_n hx hb dX10_carry_21 rfl (lv_at hl 1 rfl) ?_
          refine m_geti (1000) 78 hx hb hts hown hE oc10 hM hJ.1 rfl (by decide) rfl tb_1255 dX10_carry_22 ?_
          have g10 := hI.get (1000) 78 (lo := 0) (hi := 10880) rfl
          refine m_iald (1076) hx hb hE hM (hJ.2 76 (by decide)).1 rfl (vp_in_iff.mpr (by omega)) dX10_carry_25 ?_
          refine m_iast (1004) hx hb hE hM hS (hJ.2 4 (by decide)).1 rfl (vp_in_iff.mpr (by omega)) dX10_carry_26 (fun H locs I11 eI11 hM hS => ?_)
          subst eI11
          have hat2 : (Ia2 1000 78).toInt = 2720 * (kk : Int) + 1162 + (x2_2).toInt := hat3
          have hk0 : 0 ≤ (x2_2).toInt := by omega
          have hkn : (x2_2).toInt < 288 := by omega
          have hI := hI.putx (n := 1004) (k := ((x2_2).toNatClampNeg)) (v := Ia2 (1076) (Ia2 (1000) 78).toNatClampNeg) (by rw [← rgimF (kk := kk) (b := 1162) (n := 288) (N := 1004) (a := Ia2 1000 78) (k := x2_2) (by decide) rfl (by omega) hk0 (by omega)]; exact hI _ _)
          have hK := hK.put (n := 1004) (k := ((x2_2).toNatClampNeg)) (v := Ia2 (1076) (Ia2 (1000) 78).toNatClampNeg) (by first | rfl | simp [inR])
          refine lv_goto (tgt := 42) hx hb dX10_carry_27 (by decide) ?_
          refine lv_aload_n hx hb dX10_carry_42 rfl (lv_at hl 1 rfl) ?_
          refine lv_dup hx hb dX10_carry_43 rfl ?_
          refine m_geti (1000) 78 hx hb hts hown hE oc10 hM hJ.1 rfl (by decide) rfl tb_1255 dX10_carry_44 ?_
          have z12 : (u2 Ia2 (1004) ((x2_2).toNatClampNeg) (Ia2 (1076) (Ia2 (1000) 78).toNatClampNeg)) (1000) 78 = Ia2 (1000) 78 := (show (u2 Ia2 (1004) ((x2_2).toNatClampNeg) (Ia2 (1076) (Ia2 (1000) 78).toNatClampNeg)) (1000) 78 = Ia2 (1000) 78 from by simp [u2_v])
          rw [z12]
          refine lv_iconst (v := (1)) hx hb dX10_carry_47 (by decide) ?_
          refine lv_iadd hx hb dX10_carry_48 ?_
          refine lv_topi (fun v13 ev13 => ?_)
          have tv13 := a_add ev13 (by omega) (by omega)
          refine m_puti (1000) 78 hx hb hts hown hE oc10 hM hS hJ.1 rfl (by decide) rfl rfl rfl rfl tb_1255 dX10_carry_49 (fun H locs I14 eI14 hM hS => ?_)
          subst eI14
          have hI := hI.put (n := 1000) (k := 78) (v := v13) (lo := 0) (hi := 10880) rfl (by first | omega | decide)
          have hK := hK.put (n := 1000) (k := 78) (v := v13) (by first | rfl | simp [inR])
          obtain ⟨v15, ev15⟩ : ∃ z : Int32, z = x2_2 + Int32.ofInt (1) := ⟨_, rfl⟩
          have tv15 := a_inc ev15 (by decide) (by omega) (by omega)
          refine lv_iinc (v := v15) (lv' := [(2, .int (v15)), (0, .ref (ad (1000))), (1, .ref (ad (1004)))]) hx hb dX10_carry_52 hl (k := 0) rfl ev15.symm (by decide) rfl (fun ls hl => ?_)
          refine lv_goto (tgt := 2) hx hb dX10_carry_55 (by decide) ?_
          exact ih2 (v15) (u2 (u2 Ia2 (1004) ((x2_2).toNatClampNeg) (Ia2 (1076) (Ia2 (1000) 78).toNatClampNeg)) (1000) 78 (v13)) La2 _ _ ls hI hK (by first | omega | decide) (by rw [u2_self]; omega) (fun hz => absurd hz (show (I 1000 79).toInt ≠ 0 by have hq := congrArg Int32.toInt (hK0.get 1000 79 rfl); omega)) (fun hz => LD.step (hw2 hz) (by omega) (by omega) (by decide) (by omega)) (by omega) hM hS (lv_sub hl [0, 1, 2] rfl)
  exact loop2 (_ + 1) (0) I L _ _ ls hI hK (by first | omega | decide) (by omega) (fun _ => SV.z (by decide)) (fun _ => LD.z (by decide)) (Nat.lt_succ_self _) hM hS (lv_sub hl [0, 1, 2] rfl)
set_option maxHeartbeats 4000000 in
set_option maxRecDepth 20000 in
theorem V_X10_carry_1005 (l : Launch) (D : va_G) (A : Nat → Prop) (ad : Nat → Nat) (ns : List Nat) (I : MI) (L : ML) (G : MG) (kk : Nat) (hJ : SGM ns G) (hI : INV I) (hk4 : kk < 4) (hat : (I 1000 78).toInt = 2720 * (kk : Int) + 1450) : Met l yX10_carry (wd yX10_carry cX10_carry 3 none) ({ frames := 0, cells := 0, slots := 0, locals := 0 }) (va_Pc [.ref (ad (1000)), .ref (ad (1005))] (PM D A ad ns I L G)) (va_Qv (fun u => ∃ I2 L2, u = (ad, ns, I2, L2, G) ∧ INV I2 ∧ Kp [(1005, 1006), (1076, 1077)] [(1000, 78)] I I2 ∧ ((I2 1000 78).toInt = 2720 * (kk : Int) + 1738 ∧ ((I 1000 79).toInt = 0 → SV kk [(1005, 1450, 288)] I I2) ∧ ((I 1000 79).toInt ≠ 0 → LD kk [(1005, 1450, 288)] I I2))) (BM D A) A) 0 0 A := by
  refine m_ofW (by decide) (Nat.le_of_ble_eq_true rfl) ?_
  intro p e s m below meth c ls args hC hE hM hA hS hl
  obtain ⟨hx, hb, hml, hown, hts, hr, hlocks, hin⟩ := hC
  have k0 : (0 : Int32).toInt = 0 := by decide
  have k1 : (1 : Int32).toInt = 1 := by decide
  have k288 : (288 : Int32).toInt = 288 := by decide
  have hK : Kp [(1005, 1006), (1076, 1077)] [(1000, 78)] I I := Kp.rf
  have hl : lv_has ls 3 [(0, .ref (ad (1000))), (1, .ref (ad (1005)))] := hl
  refine lv_iconst (v := (0)) hx hb dX10_carry_0 (by decide) ?_
  refine lv_istore_n (lv' := [(2, .int (0)), (0, .ref (ad (1000))), (1, .ref (ad (1005)))]) hx hb dX10_carry_1 rfl hl (by decide) rfl (fun ls hl => ?_)
  have loop2 : ∀ (n : Nat) (x2_2 : Int32) (Ia2 : MI) (La2 : ML) (H : Heap) (locs : List Loc) (ls : Array Slot), INV Ia2 → Kp [(1005, 1006), (1076, 1077)] [(1000, 78)] I Ia2 → (0 ≤ x2_2.toInt ∧ x2_2.toInt ≤ 288) → ((Ia2 1000 78).toInt = 2720 * (kk : Int) + 1450 + (x2_2).toInt) → ((I 1000 79).toInt = 0 → SV kk [(1005, 1450, (x2_2).toNatClampNeg)] I Ia2) → ((I 1000 79).toInt ≠ 0 → LD kk [(1005, 1450, (x2_2).toNatClampNeg)] I Ia2) → (288 - x2_2.toInt).toNat < n → Mem D A ad ns Ia2 La2 G H → va_S A s.heap H locs → lv_has ls 3 [(2, .int (x2_2)), (0, .ref (ad (1000))), (1, .ref (ad (1005)))] → W p l e ({ frames := 0, cells := 0, slots := 0, locals := 0 } : Room) s m args below meth c H locs 0 0 (MQ below (va_Qv (fun u => ∃ I2 L2, u = (ad, ns, I2, L2, G) ∧ INV I2 ∧ Kp [(1005, 1006), (1076, 1077)] [(1000, 78)] I I2 ∧ ((I2 1000 78).toInt = 2720 * (kk : Int) + 1738 ∧ ((I 1000 79).toInt = 0 → SV kk [(1005, 1450, 288)] I I2) ∧ ((I 1000 79).toInt ≠ 0 → LD kk [(1005, 1450, 288)] I I2))) (BM D A) A) args s 0 0 A) (F0 m 2 ls []) := by
    intro n
    induction n with
    | zero =>
      intro x2_2 Ia2 La2 H locs ls hI hK hr2_2 hat3 hv2 hw2 hmu
      exact absurd hmu (Nat.not_lt_zero _)
    | succ n ih2 =>
      intro x2_2 Ia2 La2 H locs ls hI hK hr2_2 hat3 hv2 hw2 hmu2 hM hS hl
      have hK0 := hK
      refine lv_iload_n hx hb dX10_carry_2 rfl (lv_at hl 0 rfl) ?_
      refine lv_aload_n hx hb dX10_carry_3 rfl (lv_at hl 2 rfl) ?_
      refine m_alen 1005 (t0 := 0) (v := 288) hx hb hE hM (hJ.2 5 (by decide)).1 rfl (by decide) rfl rfl dX10_carry_4 ?_
      refine lv_icmp_ge (tgt := 58) hx hb dX10_carry_5 (by decide) (fun c1 => ?_) (fun c1 => ?_)
      · have hc1 := c1
        have q1 := q_le hc1
        exact m_vret hx hb hr hlocks hM hS (Nat.le_of_ble_eq_true rfl) (Nat.le_of_ble_eq_true rfl) ⟨_, _, rfl, hI, hK, (by have hz := cl_of (k := x2_2) (n := 288) (by omega); rw [hz] at hv2 hw2; exact ⟨by omega, hv2, hw2⟩)⟩ dX10_carry_58
      · have hc1 := c1
        have q1 := q_nle hc1
        refine lv_aload_n hx hb dX10_carry_8 rfl (lv_at hl 1 rfl) ?_
        refine m_geti (1000) 79 hx hb hts hown hE oc10 hM hJ.1 rfl (by decide) rfl tb_1256 dX10_carry_9 ?_
        have g2 := hI.get (1000) 79 (lo := 0) (hi := 1) rfl
        refine lv_if_eq (tgt := 30) hx hb dX10_carry_12 (by decide) (fun c3 => ?_) (fun c3 => ?_)
        · have hc3 := c3
          have q3 := q_eq hc3
          refine lv_aload_n hx hb dX10_carry_30 rfl (lv_at hl 1 rfl) ?_
          refine m_getr (1000) 76 (1076) hx hb hts hown hE oc10 hM hJ.1 rfl (by decide) rfl (hJ.2 76 (by decide)).2 (by decide) tb_1253 dX10_carry_31 ?_
          refine lv_aload_n hx hb dX10_carry_34 rfl (lv_at hl 1 rfl) ?_
          refine m_geti (1000) 78 hx hb hts hown hE oc10 hM hJ.1 rfl (by decide) rfl tb_1255 dX10_carry_35 ?_
          have g4 := hI.get (1000) 78 (lo := 0) (hi := 10880) rfl
          refine lv_aload_n hx hb dX10_carry_38 rfl (lv_at hl 2 rfl) ?_
          refine lv_iload_n hx hb dX10_carry_39 rfl (lv_at hl 0 rfl) ?_
          refine m_iald (1005) hx hb hE hM (hJ.2 5 (by decide)).1 rfl (vp_in_iff.mpr (by omega)) dX10_carry_40 ?_
          refine m_iast (1076) hx hb hE hM hS (hJ.2 76 (by decide)).1 rfl (vp_in_iff.mpr (by omega)) dX10_carry_41 (fun H locs I5 eI5 hM hS => ?_)
          subst eI5
          have hat2 : (Ia2 1000 78).toInt = 2720 * (kk : Int) + 1450 + (x2_2).toInt := hat3
          have hk0 : 0 ≤ (x2_2).toInt := by omega
          have hkn : (x2_2).toInt < 288 := by omega
          have hI := hI.putx (n := 1076) (k := ((Ia2 (1000) 78).toNatClampNeg)) (v := Ia2 (1005) (x2_2).toNatClampNeg) (by rw [rgimF (kk := kk) (b := 1450) (n := 288) (N := 1005) (a := Ia2 1000 78) (k := x2_2) (by decide) rfl (by omega) hk0 (by omega)]; exact hI _ _)
          have hK := hK.put (n := 1076) (k := ((Ia2 (1000) 78).toNatClampNeg)) (v := Ia2 (1005) (x2_2).toNatClampNeg) (by first | rfl | simp [inR])
          refine lv_aload_n hx hb dX10_carry_42 rfl (lv_at hl 1 rfl) ?_
          refine lv_dup hx hb dX10_carry_43 rfl ?_
          refine m_geti (1000) 78 hx hb hts hown hE oc10 hM hJ.1 rfl (by decide) rfl tb_1255 dX10_carry_44 ?_
          have z6 : (u2 Ia2 (1076) ((Ia2 (1000) 78).toNatClampNeg) (Ia2 (1005) (x2_2).toNatClampNeg)) (1000) 78 = Ia2 (1000) 78 := (show (u2 Ia2 (1076) ((Ia2 (1000) 78).toNatClampNeg) (Ia2 (1005) (x2_2).toNatClampNeg)) (1000) 78 = Ia2 (1000) 78 from by simp [u2_v])
          rw [z6]
          refine lv_iconst (v := (1)) hx hb dX10_carry_47 (by decide) ?_
          refine lv_iadd hx hb dX10_carry_48 ?_
          refine lv_topi (fun v7 ev7 => ?_)
          have tv7 := a_add ev7 (by omega) (by omega)
          refine m_puti (1000) 78 hx hb hts hown hE oc10 hM hS hJ.1 rfl (by decide) rfl rfl rfl rfl tb_1255 dX10_carry_49 (fun H locs I8 eI8 hM hS => ?_)
          subst eI8
          have hI := hI.put (n := 1000) (k := 78) (v := v7) (lo := 0) (hi := 10880) rfl (by first | omega | decide)
          have hK := hK.put (n := 1000) (k := 78) (v := v7) (by first | rfl | simp [inR])
          obtain ⟨v9, ev9⟩ : ∃ z : Int32, z = x2_2 + Int32.ofInt (1) := ⟨_, rfl⟩
          have tv9 := a_inc ev9 (by decide) (by omega) (by omega)
          refine lv_iinc (v := v9) (lv' := [(2, .int (v9)), (0, .ref (ad (1000))), (1, .ref (ad (1005)))]) hx hb dX10_carry_52 hl (k := 0) rfl ev9.symm (by decide) rfl (fun ls hl => ?_)
          refine lv_goto (tgt := 2) hx hb dX10_carry_55 (by decide) ?_
          exact ih2 (v9) (u2 (u2 Ia2 (1076) ((Ia2 (1000) 78).toNatClampNeg) (Ia2 (1005) (x2_2).toNatClampNeg)) (1000) 78 (v7)) La2 _ _ ls hI hK (by first | omega | decide) (by rw [u2_self]; omega) (fun _ => SV.step (hv2 (by have hq := congrArg Int32.toInt (hK0.get 1000 79 rfl); omega)) (by omega) (by omega) (by decide) (by omega)) (fun hz => absurd (show (I 1000 79).toInt = 0 by have hq := congrArg Int32.toInt (hK0.get 1000 79 rfl); omega) hz) (by omega) hM hS (lv_sub hl [0, 1, 2] rfl)
        · have hc3 := c3
          have q3 := q_ne hc3
          refine lv_aload_n hx hb dX10_carry_15 rfl (lv_at hl 2 rfl) ?_
          refine lv_iload_n hx hb dX10_carry_16 rfl (lv_at hl 0 rfl) ?_
          refine lv_aload_n hx hb dX10_carry_17 rfl (lv_at hl 1 rfl) ?_
          refine m_getr (1000) 76 (1076) hx hb hts hown hE oc10 hM hJ.1 rfl (by decide) rfl (hJ.2 76 (by decide)).2 (by decide) tb_1253 dX10_carry_18 ?_
          refine lv_aload_n hx hb dX10_carry_21 rfl (lv_at hl 1 rfl) ?_
          refine m_geti (1000) 78 hx hb hts hown hE oc10 hM hJ.1 rfl (by decide) rfl tb_1255 dX10_carry_22 ?_
          have g10 := hI.get (1000) 78 (lo := 0) (hi := 10880) rfl
          refine m_iald (1076) hx hb hE hM (hJ.2 76 (by decide)).1 rfl (vp_in_iff.mpr (by omega)) dX10_carry_25 ?_
          refine m_iast (1005) hx hb hE hM hS (hJ.2 5 (by decide)).1 rfl (vp_in_iff.mpr (by omega)) dX10_carry_26 (fun H locs I11 eI11 hM hS => ?_)
          subst eI11
          have hat2 : (Ia2 1000 78).toInt = 2720 * (kk : Int) + 1450 + (x2_2).toInt := hat3
          have hk0 : 0 ≤ (x2_2).toInt := by omega
          have hkn : (x2_2).toInt < 288 := by omega
          have hI := hI.putx (n := 1005) (k := ((x2_2).toNatClampNeg)) (v := Ia2 (1076) (Ia2 (1000) 78).toNatClampNeg) (by rw [← rgimF (kk := kk) (b := 1450) (n := 288) (N := 1005) (a := Ia2 1000 78) (k := x2_2) (by decide) rfl (by omega) hk0 (by omega)]; exact hI _ _)
          have hK := hK.put (n := 1005) (k := ((x2_2).toNatClampNeg)) (v := Ia2 (1076) (Ia2 (1000) 78).toNatClampNeg) (by first | rfl | simp [inR])
          refine lv_goto (tgt := 42) hx hb dX10_carry_27 (by decide) ?_
          refine lv_aload_n hx hb dX10_carry_42 rfl (lv_at hl 1 rfl) ?_
          refine lv_dup hx hb dX10_carry_43 rfl ?_
          refine m_geti (1000) 78 hx hb hts hown hE oc10 hM hJ.1 rfl (by decide) rfl tb_1255 dX10_carry_44 ?_
          have z12 : (u2 Ia2 (1005) ((x2_2).toNatClampNeg) (Ia2 (1076) (Ia2 (1000) 78).toNatClampNeg)) (1000) 78 = Ia2 (1000) 78 := (show (u2 Ia2 (1005) ((x2_2).toNatClampNeg) (Ia2 (1076) (Ia2 (1000) 78).toNatClampNeg)) (1000) 78 = Ia2 (1000) 78 from by simp [u2_v])
          rw [z12]
          refine lv_iconst (v := (1)) hx hb dX10_carry_47 (by decide) ?_
          refine lv_iadd hx hb dX10_carry_48 ?_
          refine lv_topi (fun v13 ev13 => ?_)
          have tv13 := a_add ev13 (by omega) (by omega)
          refine m_puti (1000) 78 hx hb hts hown hE oc10 hM hS hJ.1 rfl (by decide) rfl rfl rfl rfl tb_1255 dX10_carry_49 (fun H locs I14 eI14 hM hS => ?_)
          subst eI14
          have hI := hI.put (n := 1000) (k := 78) (v := v13) (lo := 0) (hi := 10880) rfl (by first | omega | decide)
          have hK := hK.put (n := 1000) (k := 78) (v := v13) (by first | rfl | simp [inR])
          obtain ⟨v15, ev15⟩ : ∃ z : Int32, z = x2_2 + Int32.ofInt (1) := ⟨_, rfl⟩
          have tv15 := a_inc ev15 (by decide) (by omega) (by omega)
          refine lv_iinc (v := v15) (lv' := [(2, .int (v15)), (0, .ref (ad (1000))), (1, .ref (ad (1005)))]) hx hb dX10_carry_52 hl (k := 0) rfl ev15.symm (by decide) rfl (fun ls hl => ?_)
          refine lv_goto (tgt := 2) hx hb dX10_carry_55 (by decide) ?_
          exact ih2 (v15) (u2 (u2 Ia2 (1005) ((x2_2).toNatClampNeg) (Ia2 (1076) (Ia2 (1000) 78).toNatClampNeg)) (1000) 78 (v13)) La2 _ _ ls hI hK (by first | omega | decide) (by rw [u2_self]; omega) (fun hz => absurd hz (show (I 1000 79).toInt ≠ 0 by have hq := congrArg Int32.toInt (hK0.get 1000 79 rfl); omega)) (fun hz => LD.step (hw2 hz) (by omega) (by omega) (by decide) (by omega)) (by omega) hM hS (lv_sub hl [0, 1, 2] rfl)
  exact loop2 (_ + 1) (0) I L _ _ ls hI hK (by first | omega | decide) (by omega) (fun _ => SV.z (by decide)) (fun _ => LD.z (by decide)) (Nat.lt_succ_self _) hM hS (lv_sub hl [0, 1, 2] rfl)
set_option maxHeartbeats 4000000 in
set_option maxRecDepth 20000 in
theorem V_X10_carry_1006 (l : Launch) (D : va_G) (A : Nat → Prop) (ad : Nat → Nat) (ns : List Nat) (I : MI) (L : ML) (G : MG) (kk : Nat) (hJ : SGM ns G) (hI : INV I) (hk4 : kk < 4) (hat : (I 1000 78).toInt = 2720 * (kk : Int) + 1738) : Met l yX10_carry (wd yX10_carry cX10_carry 3 none) ({ frames := 0, cells := 0, slots := 0, locals := 0 }) (va_Pc [.ref (ad (1000)), .ref (ad (1006))] (PM D A ad ns I L G)) (va_Qv (fun u => ∃ I2 L2, u = (ad, ns, I2, L2, G) ∧ INV I2 ∧ Kp [(1006, 1007), (1076, 1077)] [(1000, 78)] I I2 ∧ ((I2 1000 78).toInt = 2720 * (kk : Int) + 2314 ∧ ((I 1000 79).toInt = 0 → SV kk [(1006, 1738, 576)] I I2) ∧ ((I 1000 79).toInt ≠ 0 → LD kk [(1006, 1738, 576)] I I2))) (BM D A) A) 0 0 A := by
  refine m_ofW (by decide) (Nat.le_of_ble_eq_true rfl) ?_
  intro p e s m below meth c ls args hC hE hM hA hS hl
  obtain ⟨hx, hb, hml, hown, hts, hr, hlocks, hin⟩ := hC
  have k0 : (0 : Int32).toInt = 0 := by decide
  have k1 : (1 : Int32).toInt = 1 := by decide
  have k576 : (576 : Int32).toInt = 576 := by decide
  have hK : Kp [(1006, 1007), (1076, 1077)] [(1000, 78)] I I := Kp.rf
  have hl : lv_has ls 3 [(0, .ref (ad (1000))), (1, .ref (ad (1006)))] := hl
  refine lv_iconst (v := (0)) hx hb dX10_carry_0 (by decide) ?_
  refine lv_istore_n (lv' := [(2, .int (0)), (0, .ref (ad (1000))), (1, .ref (ad (1006)))]) hx hb dX10_carry_1 rfl hl (by decide) rfl (fun ls hl => ?_)
  have loop2 : ∀ (n : Nat) (x2_2 : Int32) (Ia2 : MI) (La2 : ML) (H : Heap) (locs : List Loc) (ls : Array Slot), INV Ia2 → Kp [(1006, 1007), (1076, 1077)] [(1000, 78)] I Ia2 → (0 ≤ x2_2.toInt ∧ x2_2.toInt ≤ 576) → ((Ia2 1000 78).toInt = 2720 * (kk : Int) + 1738 + (x2_2).toInt) → ((I 1000 79).toInt = 0 → SV kk [(1006, 1738, (x2_2).toNatClampNeg)] I Ia2) → ((I 1000 79).toInt ≠ 0 → LD kk [(1006, 1738, (x2_2).toNatClampNeg)] I Ia2) → (576 - x2_2.toInt).toNat < n → Mem D A ad ns Ia2 La2 G H → va_S A s.heap H locs → lv_has ls 3 [(2, .int (x2_2)), (0, .ref (ad (1000))), (1, .ref (ad (1006)))] → W p l e ({ frames := 0, cells := 0, slots := 0, locals := 0 } : Room) s m args below meth c H locs 0 0 (MQ below (va_Qv (fun u => ∃ I2 L2, u = (ad, ns, I2, L2, G) ∧ INV I2 ∧ Kp [(1006, 1007), (1076, 1077)] [(1000, 78)] I I2 ∧ ((I2 1000 78).toInt = 2720 * (kk : Int) + 2314 ∧ ((I 1000 79).toInt = 0 → SV kk [(1006, 1738, 576)] I I2) ∧ ((I 1000 79).toInt ≠ 0 → LD kk [(1006, 1738, 576)] I I2))) (BM D A) A) args s 0 0 A) (F0 m 2 ls []) := by
    intro n
    induction n with
    | zero =>
      intro x2_2 Ia2 La2 H locs ls hI hK hr2_2 hat3 hv2 hw2 hmu
      exact absurd hmu (Nat.not_lt_zero _)
    | succ n ih2 =>
      intro x2_2 Ia2 La2 H locs ls hI hK hr2_2 hat3 hv2 hw2 hmu2 hM hS hl
      have hK0 := hK
      refine lv_iload_n hx hb dX10_carry_2 rfl (lv_at hl 0 rfl) ?_
      refine lv_aload_n hx hb dX10_carry_3 rfl (lv_at hl 2 rfl) ?_
      refine m_alen 1006 (t0 := 0) (v := 576) hx hb hE hM (hJ.2 6 (by decide)).1 rfl (by decide) rfl rfl dX10_carry_4 ?_
      refine lv_icmp_ge (tgt := 58) hx hb dX10_carry_5 (by decide) (fun c1 => ?_) (fun c1 => ?_)
      · have hc1 := c1
        have q1 := q_le hc1
        exact m_vret hx hb hr hlocks hM hS (Nat.le_of_ble_eq_true rfl) (Nat.le_of_ble_eq_true rfl) ⟨_, _, rfl, hI, hK, (by have hz := cl_of (k := x2_2) (n := 576) (by omega); rw [hz] at hv2 hw2; exact ⟨by omega, hv2, hw2⟩)⟩ dX10_carry_58
      · have hc1 := c1
        have q1 := q_nle hc1
        refine lv_aload_n hx hb dX10_carry_8 rfl (lv_at hl 1 rfl) ?_
        refine m_geti (1000) 79 hx hb hts hown hE oc10 hM hJ.1 rfl (by decide) rfl tb_1256 dX10_carry_9 ?_
        have g2 := hI.get (1000) 79 (lo := 0) (hi := 1) rfl
        refine lv_if_eq (tgt := 30) hx hb dX10_carry_12 (by decide) (fun c3 => ?_) (fun c3 => ?_)
        · have hc3 := c3
          have q3 := q_eq hc3
          refine lv_aload_n hx hb dX10_carry_30 rfl (lv_at hl 1 rfl) ?_
          refine m_getr (1000) 76 (1076) hx hb hts hown hE oc10 hM hJ.1 rfl (by decide) rfl (hJ.2 76 (by decide)).2 (by decide) tb_1253 dX10_carry_31 ?_
          refine lv_aload_n hx hb dX10_carry_34 rfl (lv_at hl 1 rfl) ?_
          refine m_geti (1000) 78 hx hb hts hown hE oc10 hM hJ.1 rfl (by decide) rfl tb_1255 dX10_carry_35 ?_
          have g4 := hI.get (1000) 78 (lo := 0) (hi := 10880) rfl
          refine lv_aload_n hx hb dX10_carry_38 rfl (lv_at hl 2 rfl) ?_
          refine lv_iload_n hx hb dX10_carry_39 rfl (lv_at hl 0 rfl) ?_
          refine m_iald (1006) hx hb hE hM (hJ.2 6 (by decide)).1 rfl (vp_in_iff.mpr (by omega)) dX10_carry_40 ?_
          have g5 := hI.get (1006) ((x2_2).toNatClampNeg) (lo := -1) (hi := 23) rfl
          refine m_iast (1076) hx hb hE hM hS (hJ.2 76 (by decide)).1 rfl (vp_in_iff.mpr (by omega)) dX10_carry_41 (fun H locs I6 eI6 hM hS => ?_)
          subst eI6
          have hat2 : (Ia2 1000 78).toInt = 2720 * (kk : Int) + 1738 + (x2_2).toInt := hat3
          have hk0 : 0 ≤ (x2_2).toInt := by omega
          have hkn : (x2_2).toInt < 576 := by omega
          have hI := hI.putx (n := 1076) (k := ((Ia2 (1000) 78).toNatClampNeg)) (v := Ia2 (1006) (x2_2).toNatClampNeg) (by rw [rgim6 (kk := kk) (a := Ia2 1000 78) (k := x2_2) (by omega) hk0 hkn]; exact hI _ _)
          have hK := hK.put (n := 1076) (k := ((Ia2 (1000) 78).toNatClampNeg)) (v := Ia2 (1006) (x2_2).toNatClampNeg) (by first | rfl | simp [inR])
          refine lv_aload_n hx hb dX10_carry_42 rfl (lv_at hl 1 rfl) ?_
          refine lv_dup hx hb dX10_carry_43 rfl ?_
          refine m_geti (1000) 78 hx hb hts hown hE oc10 hM hJ.1 rfl (by decide) rfl tb_1255 dX10_carry_44 ?_
          have z7 : (u2 Ia2 (1076) ((Ia2 (1000) 78).toNatClampNeg) (Ia2 (1006) (x2_2).toNatClampNeg)) (1000) 78 = Ia2 (1000) 78 := (show (u2 Ia2 (1076) ((Ia2 (1000) 78).toNatClampNeg) (Ia2 (1006) (x2_2).toNatClampNeg)) (1000) 78 = Ia2 (1000) 78 from by simp [u2_v])
          rw [z7]
          refine lv_iconst (v := (1)) hx hb dX10_carry_47 (by decide) ?_
          refine lv_iadd hx hb dX10_carry_48 ?_
          refine lv_topi (fun v8 ev8 => ?_)
          have tv8 := a_add ev8 (by omega) (by omega)
          refine m_puti (1000) 78 hx hb hts hown hE oc10 hM hS hJ.1 rfl (by decide) rfl rfl rfl rfl tb_1255 dX10_carry_49 (fun H locs I9 eI9 hM hS => ?_)
          subst eI9
          have hI := hI.put (n := 1000) (k := 78) (v := v8) (lo := 0) (hi := 10880) rfl (by first | omega | decide)
          have hK := hK.put (n := 1000) (k := 78) (v := v8) (by first | rfl | simp [inR])
          obtain ⟨v10, ev10⟩ : ∃ z : Int32, z = x2_2 + Int32.ofInt (1) := ⟨_, rfl⟩
          have tv10 := a_inc ev10 (by decide) (by omega) (by omega)
          refine lv_iinc (v := v10) (lv' := [(2, .int (v10)), (0, .ref (ad (1000))), (1, .ref (ad (1006)))]) hx hb dX10_carry_52 hl (k := 0) rfl ev10.symm (by decide) rfl (fun ls hl => ?_)
          refine lv_goto (tgt := 2) hx hb dX10_carry_55 (by decide) ?_
          exact ih2 (v10) (u2 (u2 Ia2 (1076) ((Ia2 (1000) 78).toNatClampNeg) (Ia2 (1006) (x2_2).toNatClampNeg)) (1000) 78 (v8)) La2 _ _ ls hI hK (by first | omega | decide) (by rw [u2_self]; omega) (fun _ => SV.step (hv2 (by have hq := congrArg Int32.toInt (hK0.get 1000 79 rfl); omega)) (by omega) (by omega) (by decide) (by omega)) (fun hz => absurd (show (I 1000 79).toInt = 0 by have hq := congrArg Int32.toInt (hK0.get 1000 79 rfl); omega) hz) (by omega) hM hS (lv_sub hl [0, 1, 2] rfl)
        · have hc3 := c3
          have q3 := q_ne hc3
          refine lv_aload_n hx hb dX10_carry_15 rfl (lv_at hl 2 rfl) ?_
          refine lv_iload_n hx hb dX10_carry_16 rfl (lv_at hl 0 rfl) ?_
          refine lv_aload_n hx hb dX10_carry_17 rfl (lv_at hl 1 rfl) ?_
          refine m_getr (1000) 76 (1076) hx hb hts hown hE oc10 hM hJ.1 rfl (by decide) rfl (hJ.2 76 (by decide)).2 (by decide) tb_1253 dX10_carry_18 ?_
          refine lv_aload_n hx hb dX10_carry_21 rfl (lv_at hl 1 rfl) ?_
          refine m_geti (1000) 78 hx hb hts hown hE oc10 hM hJ.1 rfl (by decide) rfl tb_1255 dX10_carry_22 ?_
          have g11 := hI.get (1000) 78 (lo := 0) (hi := 10880) rfl
          refine m_iald (1076) hx hb hE hM (hJ.2 76 (by decide)).1 rfl (vp_in_iff.mpr (by omega)) dX10_carry_25 ?_
          refine m_iast (1006) hx hb hE hM hS (hJ.2 6 (by decide)).1 rfl (vp_in_iff.mpr (by omega)) dX10_carry_26 (fun H locs I12 eI12 hM hS => ?_)
          subst eI12
          have hat2 : (Ia2 1000 78).toInt = 2720 * (kk : Int) + 1738 + (x2_2).toInt := hat3
          have hk0 : 0 ≤ (x2_2).toInt := by omega
          have hkn : (x2_2).toInt < 576 := by omega
          have hI := hI.putx (n := 1006) (k := ((x2_2).toNatClampNeg)) (v := Ia2 (1076) (Ia2 (1000) 78).toNatClampNeg) (by rw [← rgim6 (kk := kk) (a := Ia2 1000 78) (k := x2_2) (by omega) hk0 hkn]; exact hI _ _)
          have hK := hK.put (n := 1006) (k := ((x2_2).toNatClampNeg)) (v := Ia2 (1076) (Ia2 (1000) 78).toNatClampNeg) (by first | rfl | simp [inR])
          refine lv_goto (tgt := 42) hx hb dX10_carry_27 (by decide) ?_
          refine lv_aload_n hx hb dX10_carry_42 rfl (lv_at hl 1 rfl) ?_
          refine lv_dup hx hb dX10_carry_43 rfl ?_
          refine m_geti (1000) 78 hx hb hts hown hE oc10 hM hJ.1 rfl (by decide) rfl tb_1255 dX10_carry_44 ?_
          have z13 : (u2 Ia2 (1006) ((x2_2).toNatClampNeg) (Ia2 (1076) (Ia2 (1000) 78).toNatClampNeg)) (1000) 78 = Ia2 (1000) 78 := (show (u2 Ia2 (1006) ((x2_2).toNatClampNeg) (Ia2 (1076) (Ia2 (1000) 78).toNatClampNeg)) (1000) 78 = Ia2 (1000) 78 from by simp [u2_v])
          rw [z13]
          refine lv_iconst (v := (1)) hx hb dX10_carry_47 (by decide) ?_
          refine lv_iadd hx hb dX10_carry_48 ?_
          refine lv_topi (fun v14 ev14 => ?_)
          have tv14 := a_add ev14 (by omega) (by omega)
          refine m_puti (1000) 78 hx hb hts hown hE oc10 hM hS hJ.1 rfl (by decide) rfl rfl rfl rfl tb_1255 dX10_carry_49 (fun H locs I15 eI15 hM hS => ?_)
          subst eI15
          have hI := hI.put (n := 1000) (k := 78) (v := v14) (lo := 0) (hi := 10880) rfl (by first | omega | decide)
          have hK := hK.put (n := 1000) (k := 78) (v := v14) (by first | rfl | simp [inR])
          obtain ⟨v16, ev16⟩ : ∃ z : Int32, z = x2_2 + Int32.ofInt (1) := ⟨_, rfl⟩
          have tv16 := a_inc ev16 (by decide) (by omega) (by omega)
          refine lv_iinc (v := v16) (lv' := [(2, .int (v16)), (0, .ref (ad (1000))), (1, .ref (ad (1006)))]) hx hb dX10_carry_52 hl (k := 0) rfl ev16.symm (by decide) rfl (fun ls hl => ?_)
          refine lv_goto (tgt := 2) hx hb dX10_carry_55 (by decide) ?_
          exact ih2 (v16) (u2 (u2 Ia2 (1006) ((x2_2).toNatClampNeg) (Ia2 (1076) (Ia2 (1000) 78).toNatClampNeg)) (1000) 78 (v14)) La2 _ _ ls hI hK (by first | omega | decide) (by rw [u2_self]; omega) (fun hz => absurd hz (show (I 1000 79).toInt ≠ 0 by have hq := congrArg Int32.toInt (hK0.get 1000 79 rfl); omega)) (fun hz => LD.step (hw2 hz) (by omega) (by omega) (by decide) (by omega)) (by omega) hM hS (lv_sub hl [0, 1, 2] rfl)
  exact loop2 (_ + 1) (0) I L _ _ ls hI hK (by first | omega | decide) (by omega) (fun _ => SV.z (by decide)) (fun _ => LD.z (by decide)) (Nat.lt_succ_self _) hM hS (lv_sub hl [0, 1, 2] rfl)
set_option maxHeartbeats 4000000 in
set_option maxRecDepth 20000 in
theorem V_X10_carry_1007 (l : Launch) (D : va_G) (A : Nat → Prop) (ad : Nat → Nat) (ns : List Nat) (I : MI) (L : ML) (G : MG) (kk : Nat) (hJ : SGM ns G) (hI : INV I) (hk4 : kk < 4) (hat : (I 1000 78).toInt = 2720 * (kk : Int) + 2314) : Met l yX10_carry (wd yX10_carry cX10_carry 3 none) ({ frames := 0, cells := 0, slots := 0, locals := 0 }) (va_Pc [.ref (ad (1000)), .ref (ad (1007))] (PM D A ad ns I L G)) (va_Qv (fun u => ∃ I2 L2, u = (ad, ns, I2, L2, G) ∧ INV I2 ∧ Kp [(1007, 1008), (1076, 1077)] [(1000, 78)] I I2 ∧ ((I2 1000 78).toInt = 2720 * (kk : Int) + 2338 ∧ ((I 1000 79).toInt = 0 → SV kk [(1007, 2314, 24)] I I2) ∧ ((I 1000 79).toInt ≠ 0 → LD kk [(1007, 2314, 24)] I I2))) (BM D A) A) 0 0 A := by
  refine m_ofW (by decide) (Nat.le_of_ble_eq_true rfl) ?_
  intro p e s m below meth c ls args hC hE hM hA hS hl
  obtain ⟨hx, hb, hml, hown, hts, hr, hlocks, hin⟩ := hC
  have k0 : (0 : Int32).toInt = 0 := by decide
  have k1 : (1 : Int32).toInt = 1 := by decide
  have k24 : (24 : Int32).toInt = 24 := by decide
  have hK : Kp [(1007, 1008), (1076, 1077)] [(1000, 78)] I I := Kp.rf
  have hl : lv_has ls 3 [(0, .ref (ad (1000))), (1, .ref (ad (1007)))] := hl
  refine lv_iconst (v := (0)) hx hb dX10_carry_0 (by decide) ?_
  refine lv_istore_n (lv' := [(2, .int (0)), (0, .ref (ad (1000))), (1, .ref (ad (1007)))]) hx hb dX10_carry_1 rfl hl (by decide) rfl (fun ls hl => ?_)
  have loop2 : ∀ (n : Nat) (x2_2 : Int32) (Ia2 : MI) (La2 : ML) (H : Heap) (locs : List Loc) (ls : Array Slot), INV Ia2 → Kp [(1007, 1008), (1076, 1077)] [(1000, 78)] I Ia2 → (0 ≤ x2_2.toInt ∧ x2_2.toInt ≤ 24) → ((Ia2 1000 78).toInt = 2720 * (kk : Int) + 2314 + (x2_2).toInt) → ((I 1000 79).toInt = 0 → SV kk [(1007, 2314, (x2_2).toNatClampNeg)] I Ia2) → ((I 1000 79).toInt ≠ 0 → LD kk [(1007, 2314, (x2_2).toNatClampNeg)] I Ia2) → (24 - x2_2.toInt).toNat < n → Mem D A ad ns Ia2 La2 G H → va_S A s.heap H locs → lv_has ls 3 [(2, .int (x2_2)), (0, .ref (ad (1000))), (1, .ref (ad (1007)))] → W p l e ({ frames := 0, cells := 0, slots := 0, locals := 0 } : Room) s m args below meth c H locs 0 0 (MQ below (va_Qv (fun u => ∃ I2 L2, u = (ad, ns, I2, L2, G) ∧ INV I2 ∧ Kp [(1007, 1008), (1076, 1077)] [(1000, 78)] I I2 ∧ ((I2 1000 78).toInt = 2720 * (kk : Int) + 2338 ∧ ((I 1000 79).toInt = 0 → SV kk [(1007, 2314, 24)] I I2) ∧ ((I 1000 79).toInt ≠ 0 → LD kk [(1007, 2314, 24)] I I2))) (BM D A) A) args s 0 0 A) (F0 m 2 ls []) := by
    intro n
    induction n with
    | zero =>
      intro x2_2 Ia2 La2 H locs ls hI hK hr2_2 hat3 hv2 hw2 hmu
      exact absurd hmu (Nat.not_lt_zero _)
    | succ n ih2 =>
      intro x2_2 Ia2 La2 H locs ls hI hK hr2_2 hat3 hv2 hw2 hmu2 hM hS hl
      have hK0 := hK
      refine lv_iload_n hx hb dX10_carry_2 rfl (lv_at hl 0 rfl) ?_
      refine lv_aload_n hx hb dX10_carry_3 rfl (lv_at hl 2 rfl) ?_
      refine m_alen 1007 (t0 := 0) (v := 24) hx hb hE hM (hJ.2 7 (by decide)).1 rfl (by decide) rfl rfl dX10_carry_4 ?_
      refine lv_icmp_ge (tgt := 58) hx hb dX10_carry_5 (by decide) (fun c1 => ?_) (fun c1 => ?_)
      · have hc1 := c1
        have q1 := q_le hc1
        exact m_vret hx hb hr hlocks hM hS (Nat.le_of_ble_eq_true rfl) (Nat.le_of_ble_eq_true rfl) ⟨_, _, rfl, hI, hK, (by have hz := cl_of (k := x2_2) (n := 24) (by omega); rw [hz] at hv2 hw2; exact ⟨by omega, hv2, hw2⟩)⟩ dX10_carry_58
      · have hc1 := c1
        have q1 := q_nle hc1
        refine lv_aload_n hx hb dX10_carry_8 rfl (lv_at hl 1 rfl) ?_
        refine m_geti (1000) 79 hx hb hts hown hE oc10 hM hJ.1 rfl (by decide) rfl tb_1256 dX10_carry_9 ?_
        have g2 := hI.get (1000) 79 (lo := 0) (hi := 1) rfl
        refine lv_if_eq (tgt := 30) hx hb dX10_carry_12 (by decide) (fun c3 => ?_) (fun c3 => ?_)
        · have hc3 := c3
          have q3 := q_eq hc3
          refine lv_aload_n hx hb dX10_carry_30 rfl (lv_at hl 1 rfl) ?_
          refine m_getr (1000) 76 (1076) hx hb hts hown hE oc10 hM hJ.1 rfl (by decide) rfl (hJ.2 76 (by decide)).2 (by decide) tb_1253 dX10_carry_31 ?_
          refine lv_aload_n hx hb dX10_carry_34 rfl (lv_at hl 1 rfl) ?_
          refine m_geti (1000) 78 hx hb hts hown hE oc10 hM hJ.1 rfl (by decide) rfl tb_1255 dX10_carry_35 ?_
          have g4 := hI.get (1000) 78 (lo := 0) (hi := 10880) rfl
          refine lv_aload_n hx hb dX10_carry_38 rfl (lv_at hl 2 rfl) ?_
          refine lv_iload_n hx hb dX10_carry_39 rfl (lv_at hl 0 rfl) ?_
          refine m_iald (1007) hx hb hE hM (hJ.2 7 (by decide)).1 rfl (vp_in_iff.mpr (by omega)) dX10_carry_40 ?_
          refine m_iast (1076) hx hb hE hM hS (hJ.2 76 (by decide)).1 rfl (vp_in_iff.mpr (by omega)) dX10_carry_41 (fun H locs I5 eI5 hM hS => ?_)
          subst eI5
          have hat2 : (Ia2 1000 78).toInt = 2720 * (kk : Int) + 2314 + (x2_2).toInt := hat3
          have hk0 : 0 ≤ (x2_2).toInt := by omega
          have hkn : (x2_2).toInt < 24 := by omega
          have hI := hI.putx (n := 1076) (k := ((Ia2 (1000) 78).toNatClampNeg)) (v := Ia2 (1007) (x2_2).toNatClampNeg) (by rw [rgimF (kk := kk) (b := 2314) (n := 24) (N := 1007) (a := Ia2 1000 78) (k := x2_2) (by decide) rfl (by omega) hk0 (by omega)]; exact hI _ _)
          have hK := hK.put (n := 1076) (k := ((Ia2 (1000) 78).toNatClampNeg)) (v := Ia2 (1007) (x2_2).toNatClampNeg) (by first | rfl | simp [inR])
          refine lv_aload_n hx hb dX10_carry_42 rfl (lv_at hl 1 rfl) ?_
          refine lv_dup hx hb dX10_carry_43 rfl ?_
          refine m_geti (1000) 78 hx hb hts hown hE oc10 hM hJ.1 rfl (by decide) rfl tb_1255 dX10_carry_44 ?_
          have z6 : (u2 Ia2 (1076) ((Ia2 (1000) 78).toNatClampNeg) (Ia2 (1007) (x2_2).toNatClampNeg)) (1000) 78 = Ia2 (1000) 78 := (show (u2 Ia2 (1076) ((Ia2 (1000) 78).toNatClampNeg) (Ia2 (1007) (x2_2).toNatClampNeg)) (1000) 78 = Ia2 (1000) 78 from by simp [u2_v])
          rw [z6]
          refine lv_iconst (v := (1)) hx hb dX10_carry_47 (by decide) ?_
          refine lv_iadd hx hb dX10_carry_48 ?_
          refine lv_topi (fun v7 ev7 => ?_)
          have tv7 := a_add ev7 (by omega) (by omega)
          refine m_puti (1000) 78 hx hb hts hown hE oc10 hM hS hJ.1 rfl (by decide) rfl rfl rfl rfl tb_1255 dX10_carry_49 (fun H locs I8 eI8 hM hS => ?_)
          subst eI8
          have hI := hI.put (n := 1000) (k := 78) (v := v7) (lo := 0) (hi := 10880) rfl (by first | omega | decide)
          have hK := hK.put (n := 1000) (k := 78) (v := v7) (by first | rfl | simp [inR])
          obtain ⟨v9, ev9⟩ : ∃ z : Int32, z = x2_2 + Int32.ofInt (1) := ⟨_, rfl⟩
          have tv9 := a_inc ev9 (by decide) (by omega) (by omega)
          refine lv_iinc (v := v9) (lv' := [(2, .int (v9)), (0, .ref (ad (1000))), (1, .ref (ad (1007)))]) hx hb dX10_carry_52 hl (k := 0) rfl ev9.symm (by decide) rfl (fun ls hl => ?_)
          refine lv_goto (tgt := 2) hx hb dX10_carry_55 (by decide) ?_
          exact ih2 (v9) (u2 (u2 Ia2 (1076) ((Ia2 (1000) 78).toNatClampNeg) (Ia2 (1007) (x2_2).toNatClampNeg)) (1000) 78 (v7)) La2 _ _ ls hI hK (by first | omega | decide) (by rw [u2_self]; omega) (fun _ => SV.step (hv2 (by have hq := congrArg Int32.toInt (hK0.get 1000 79 rfl); omega)) (by omega) (by omega) (by decide) (by omega)) (fun hz => absurd (show (I 1000 79).toInt = 0 by have hq := congrArg Int32.toInt (hK0.get 1000 79 rfl); omega) hz) (by omega) hM hS (lv_sub hl [0, 1, 2] rfl)
        · have hc3 := c3
          have q3 := q_ne hc3
          refine lv_aload_n hx hb dX10_carry_15 rfl (lv_at hl 2 rfl) ?_
          refine lv_iload_n hx hb dX10_carry_16 rfl (lv_at hl 0 rfl) ?_
          refine lv_aload_n hx hb dX10_carry_17 rfl (lv_at hl 1 rfl) ?_
          refine m_getr (1000) 76 (1076) hx hb hts hown hE oc10 hM hJ.1 rfl (by decide) rfl (hJ.2 76 (by decide)).2 (by decide) tb_1253 dX10_carry_18 ?_
          refine lv_aload_n hx hb dX10_carry_21 rfl (lv_at hl 1 rfl) ?_
          refine m_geti (1000) 78 hx hb hts hown hE oc10 hM hJ.1 rfl (by decide) rfl tb_1255 dX10_carry_22 ?_
          have g10 := hI.get (1000) 78 (lo := 0) (hi := 10880) rfl
          refine m_iald (1076) hx hb hE hM (hJ.2 76 (by decide)).1 rfl (vp_in_iff.mpr (by omega)) dX10_carry_25 ?_
          refine m_iast (1007) hx hb hE hM hS (hJ.2 7 (by decide)).1 rfl (vp_in_iff.mpr (by omega)) dX10_carry_26 (fun H locs I11 eI11 hM hS => ?_)
          subst eI11
          have hat2 : (Ia2 1000 78).toInt = 2720 * (kk : Int) + 2314 + (x2_2).toInt := hat3
          have hk0 : 0 ≤ (x2_2).toInt := by omega
          have hkn : (x2_2).toInt < 24 := by omega
          have hI := hI.putx (n := 1007) (k := ((x2_2).toNatClampNeg)) (v := Ia2 (1076) (Ia2 (1000) 78).toNatClampNeg) (by rw [← rgimF (kk := kk) (b := 2314) (n := 24) (N := 1007) (a := Ia2 1000 78) (k := x2_2) (by decide) rfl (by omega) hk0 (by omega)]; exact hI _ _)
          have hK := hK.put (n := 1007) (k := ((x2_2).toNatClampNeg)) (v := Ia2 (1076) (Ia2 (1000) 78).toNatClampNeg) (by first | rfl | simp [inR])
          refine lv_goto (tgt := 42) hx hb dX10_carry_27 (by decide) ?_
          refine lv_aload_n hx hb dX10_carry_42 rfl (lv_at hl 1 rfl) ?_
          refine lv_dup hx hb dX10_carry_43 rfl ?_
          refine m_geti (1000) 78 hx hb hts hown hE oc10 hM hJ.1 rfl (by decide) rfl tb_1255 dX10_carry_44 ?_
          have z12 : (u2 Ia2 (1007) ((x2_2).toNatClampNeg) (Ia2 (1076) (Ia2 (1000) 78).toNatClampNeg)) (1000) 78 = Ia2 (1000) 78 := (show (u2 Ia2 (1007) ((x2_2).toNatClampNeg) (Ia2 (1076) (Ia2 (1000) 78).toNatClampNeg)) (1000) 78 = Ia2 (1000) 78 from by simp [u2_v])
          rw [z12]
          refine lv_iconst (v := (1)) hx hb dX10_carry_47 (by decide) ?_
          refine lv_iadd hx hb dX10_carry_48 ?_
          refine lv_topi (fun v13 ev13 => ?_)
          have tv13 := a_add ev13 (by omega) (by omega)
          refine m_puti (1000) 78 hx hb hts hown hE oc10 hM hS hJ.1 rfl (by decide) rfl rfl rfl rfl tb_1255 dX10_carry_49 (fun H locs I14 eI14 hM hS => ?_)
          subst eI14
          have hI := hI.put (n := 1000) (k := 78) (v := v13) (lo := 0) (hi := 10880) rfl (by first | omega | decide)
          have hK := hK.put (n := 1000) (k := 78) (v := v13) (by first | rfl | simp [inR])
          obtain ⟨v15, ev15⟩ : ∃ z : Int32, z = x2_2 + Int32.ofInt (1) := ⟨_, rfl⟩
          have tv15 := a_inc ev15 (by decide) (by omega) (by omega)
          refine lv_iinc (v := v15) (lv' := [(2, .int (v15)), (0, .ref (ad (1000))), (1, .ref (ad (1007)))]) hx hb dX10_carry_52 hl (k := 0) rfl ev15.symm (by decide) rfl (fun ls hl => ?_)
          refine lv_goto (tgt := 2) hx hb dX10_carry_55 (by decide) ?_
          exact ih2 (v15) (u2 (u2 Ia2 (1007) ((x2_2).toNatClampNeg) (Ia2 (1076) (Ia2 (1000) 78).toNatClampNeg)) (1000) 78 (v13)) La2 _ _ ls hI hK (by first | omega | decide) (by rw [u2_self]; omega) (fun hz => absurd hz (show (I 1000 79).toInt ≠ 0 by have hq := congrArg Int32.toInt (hK0.get 1000 79 rfl); omega)) (fun hz => LD.step (hw2 hz) (by omega) (by omega) (by decide) (by omega)) (by omega) hM hS (lv_sub hl [0, 1, 2] rfl)
  exact loop2 (_ + 1) (0) I L _ _ ls hI hK (by first | omega | decide) (by omega) (fun _ => SV.z (by decide)) (fun _ => LD.z (by decide)) (Nat.lt_succ_self _) hM hS (lv_sub hl [0, 1, 2] rfl)
set_option maxHeartbeats 4000000 in
set_option maxRecDepth 20000 in
theorem V_X10_carry_1008 (l : Launch) (D : va_G) (A : Nat → Prop) (ad : Nat → Nat) (ns : List Nat) (I : MI) (L : ML) (G : MG) (kk : Nat) (hJ : SGM ns G) (hI : INV I) (hk4 : kk < 4) (hat : (I 1000 78).toInt = 2720 * (kk : Int) + 2338) : Met l yX10_carry (wd yX10_carry cX10_carry 3 none) ({ frames := 0, cells := 0, slots := 0, locals := 0 }) (va_Pc [.ref (ad (1000)), .ref (ad (1008))] (PM D A ad ns I L G)) (va_Qv (fun u => ∃ I2 L2, u = (ad, ns, I2, L2, G) ∧ INV I2 ∧ Kp [(1008, 1009), (1076, 1077)] [(1000, 78)] I I2 ∧ ((I2 1000 78).toInt = 2720 * (kk : Int) + 2362 ∧ ((I 1000 79).toInt = 0 → SV kk [(1008, 2338, 24)] I I2) ∧ ((I 1000 79).toInt ≠ 0 → LD kk [(1008, 2338, 24)] I I2))) (BM D A) A) 0 0 A := by
  refine m_ofW (by decide) (Nat.le_of_ble_eq_true rfl) ?_
  intro p e s m below meth c ls args hC hE hM hA hS hl
  obtain ⟨hx, hb, hml, hown, hts, hr, hlocks, hin⟩ := hC
  have k0 : (0 : Int32).toInt = 0 := by decide
  have k1 : (1 : Int32).toInt = 1 := by decide
  have k24 : (24 : Int32).toInt = 24 := by decide
  have hK : Kp [(1008, 1009), (1076, 1077)] [(1000, 78)] I I := Kp.rf
  have hl : lv_has ls 3 [(0, .ref (ad (1000))), (1, .ref (ad (1008)))] := hl
  refine lv_iconst (v := (0)) hx hb dX10_carry_0 (by decide) ?_
  refine lv_istore_n (lv' := [(2, .int (0)), (0, .ref (ad (1000))), (1, .ref (ad (1008)))]) hx hb dX10_carry_1 rfl hl (by decide) rfl (fun ls hl => ?_)
  have loop2 : ∀ (n : Nat) (x2_2 : Int32) (Ia2 : MI) (La2 : ML) (H : Heap) (locs : List Loc) (ls : Array Slot), INV Ia2 → Kp [(1008, 1009), (1076, 1077)] [(1000, 78)] I Ia2 → (0 ≤ x2_2.toInt ∧ x2_2.toInt ≤ 24) → ((Ia2 1000 78).toInt = 2720 * (kk : Int) + 2338 + (x2_2).toInt) → ((I 1000 79).toInt = 0 → SV kk [(1008, 2338, (x2_2).toNatClampNeg)] I Ia2) → ((I 1000 79).toInt ≠ 0 → LD kk [(1008, 2338, (x2_2).toNatClampNeg)] I Ia2) → (24 - x2_2.toInt).toNat < n → Mem D A ad ns Ia2 La2 G H → va_S A s.heap H locs → lv_has ls 3 [(2, .int (x2_2)), (0, .ref (ad (1000))), (1, .ref (ad (1008)))] → W p l e ({ frames := 0, cells := 0, slots := 0, locals := 0 } : Room) s m args below meth c H locs 0 0 (MQ below (va_Qv (fun u => ∃ I2 L2, u = (ad, ns, I2, L2, G) ∧ INV I2 ∧ Kp [(1008, 1009), (1076, 1077)] [(1000, 78)] I I2 ∧ ((I2 1000 78).toInt = 2720 * (kk : Int) + 2362 ∧ ((I 1000 79).toInt = 0 → SV kk [(1008, 2338, 24)] I I2) ∧ ((I 1000 79).toInt ≠ 0 → LD kk [(1008, 2338, 24)] I I2))) (BM D A) A) args s 0 0 A) (F0 m 2 ls []) := by
    intro n
    induction n with
    | zero =>
      intro x2_2 Ia2 La2 H locs ls hI hK hr2_2 hat3 hv2 hw2 hmu
      exact absurd hmu (Nat.not_lt_zero _)
    | succ n ih2 =>
      intro x2_2 Ia2 La2 H locs ls hI hK hr2_2 hat3 hv2 hw2 hmu2 hM hS hl
      have hK0 := hK
      refine lv_iload_n hx hb dX10_carry_2 rfl (lv_at hl 0 rfl) ?_
      refine lv_aload_n hx hb dX10_carry_3 rfl (lv_at hl 2 rfl) ?_
      refine m_alen 1008 (t0 := 0) (v := 24) hx hb hE hM (hJ.2 8 (by decide)).1 rfl (by decide) rfl rfl dX10_carry_4 ?_
      refine lv_icmp_ge (tgt := 58) hx hb dX10_carry_5 (by decide) (fun c1 => ?_) (fun c1 => ?_)
      · have hc1 := c1
        have q1 := q_le hc1
        exact m_vret hx hb hr hlocks hM hS (Nat.le_of_ble_eq_true rfl) (Nat.le_of_ble_eq_true rfl) ⟨_, _, rfl, hI, hK, (by have hz := cl_of (k := x2_2) (n := 24) (by omega); rw [hz] at hv2 hw2; exact ⟨by omega, hv2, hw2⟩)⟩ dX10_carry_58
      · have hc1 := c1
        have q1 := q_nle hc1
        refine lv_aload_n hx hb dX10_carry_8 rfl (lv_at hl 1 rfl) ?_
        refine m_geti (1000) 79 hx hb hts hown hE oc10 hM hJ.1 rfl (by decide) rfl tb_1256 dX10_carry_9 ?_
        have g2 := hI.get (1000) 79 (lo := 0) (hi := 1) rfl
        refine lv_if_eq (tgt := 30) hx hb dX10_carry_12 (by decide) (fun c3 => ?_) (fun c3 => ?_)
        · have hc3 := c3
          have q3 := q_eq hc3
          refine lv_aload_n hx hb dX10_carry_30 rfl (lv_at hl 1 rfl) ?_
          refine m_getr (1000) 76 (1076) hx hb hts hown hE oc10 hM hJ.1 rfl (by decide) rfl (hJ.2 76 (by decide)).2 (by decide) tb_1253 dX10_carry_31 ?_
          refine lv_aload_n hx hb dX10_carry_34 rfl (lv_at hl 1 rfl) ?_
          refine m_geti (1000) 78 hx hb hts hown hE oc10 hM hJ.1 rfl (by decide) rfl tb_1255 dX10_carry_35 ?_
          have g4 := hI.get (1000) 78 (lo := 0) (hi := 10880) rfl
          refine lv_aload_n hx hb dX10_carry_38 rfl (lv_at hl 2 rfl) ?_
          refine lv_iload_n hx hb dX10_carry_39 rfl (lv_at hl 0 rfl) ?_
          refine m_iald (1008) hx hb hE hM (hJ.2 8 (by decide)).1 rfl (vp_in_iff.mpr (by omega)) dX10_carry_40 ?_
          refine m_iast (1076) hx hb hE hM hS (hJ.2 76 (by decide)).1 rfl (vp_in_iff.mpr (by omega)) dX10_carry_41 (fun H locs I5 eI5 hM hS => ?_)
          subst eI5
          have hat2 : (Ia2 1000 78).toInt = 2720 * (kk : Int) + 2338 + (x2_2).toInt := hat3
          have hk0 : 0 ≤ (x2_2).toInt := by omega
          have hkn : (x2_2).toInt < 24 := by omega
          have hI := hI.putx (n := 1076) (k := ((Ia2 (1000) 78).toNatClampNeg)) (v := Ia2 (1008) (x2_2).toNatClampNeg) (by rw [rgimF (kk := kk) (b := 2338) (n := 24) (N := 1008) (a := Ia2 1000 78) (k := x2_2) (by decide) rfl (by omega) hk0 (by omega)]; exact hI _ _)
          have hK := hK.put (n := 1076) (k := ((Ia2 (1000) 78).toNatClampNeg)) (v := Ia2 (1008) (x2_2).toNatClampNeg) (by first | rfl | simp [inR])
          refine lv_aload_n hx hb dX10_carry_42 rfl (lv_at hl 1 rfl) ?_
          refine lv_dup hx hb dX10_carry_43 rfl ?_
          refine m_geti (1000) 78 hx hb hts hown hE oc10 hM hJ.1 rfl (by decide) rfl tb_1255 dX10_carry_44 ?_
          have z6 : (u2 Ia2 (1076) ((Ia2 (1000) 78).toNatClampNeg) (Ia2 (1008) (x2_2).toNatClampNeg)) (1000) 78 = Ia2 (1000) 78 := (show (u2 Ia2 (1076) ((Ia2 (1000) 78).toNatClampNeg) (Ia2 (1008) (x2_2).toNatClampNeg)) (1000) 78 = Ia2 (1000) 78 from by simp [u2_v])
          rw [z6]
          refine lv_iconst (v := (1)) hx hb dX10_carry_47 (by decide) ?_
          refine lv_iadd hx hb dX10_carry_48 ?_
          refine lv_topi (fun v7 ev7 => ?_)
          have tv7 := a_add ev7 (by omega) (by omega)
          refine m_puti (1000) 78 hx hb hts hown hE oc10 hM hS hJ.1 rfl (by decide) rfl rfl rfl rfl tb_1255 dX10_carry_49 (fun H locs I8 eI8 hM hS => ?_)
          subst eI8
          have hI := hI.put (n := 1000) (k := 78) (v := v7) (lo := 0) (hi := 10880) rfl (by first | omega | decide)
          have hK := hK.put (n := 1000) (k := 78) (v := v7) (by first | rfl | simp [inR])
          obtain ⟨v9, ev9⟩ : ∃ z : Int32, z = x2_2 + Int32.ofInt (1) := ⟨_, rfl⟩
          have tv9 := a_inc ev9 (by decide) (by omega) (by omega)
          refine lv_iinc (v := v9) (lv' := [(2, .int (v9)), (0, .ref (ad (1000))), (1, .ref (ad (1008)))]) hx hb dX10_carry_52 hl (k := 0) rfl ev9.symm (by decide) rfl (fun ls hl => ?_)
          refine lv_goto (tgt := 2) hx hb dX10_carry_55 (by decide) ?_
          exact ih2 (v9) (u2 (u2 Ia2 (1076) ((Ia2 (1000) 78).toNatClampNeg) (Ia2 (1008) (x2_2).toNatClampNeg)) (1000) 78 (v7)) La2 _ _ ls hI hK (by first | omega | decide) (by rw [u2_self]; omega) (fun _ => SV.step (hv2 (by have hq := congrArg Int32.toInt (hK0.get 1000 79 rfl); omega)) (by omega) (by omega) (by decide) (by omega)) (fun hz => absurd (show (I 1000 79).toInt = 0 by have hq := congrArg Int32.toInt (hK0.get 1000 79 rfl); omega) hz) (by omega) hM hS (lv_sub hl [0, 1, 2] rfl)
        · have hc3 := c3
          have q3 := q_ne hc3
          refine lv_aload_n hx hb dX10_carry_15 rfl (lv_at hl 2 rfl) ?_
          refine lv_iload_n hx hb dX10_carry_16 rfl (lv_at hl 0 rfl) ?_
          refine lv_aload_n hx hb dX10_carry_17 rfl (lv_at hl 1 rfl) ?_
          refine m_getr (1000) 76 (1076) hx hb hts hown hE oc10 hM hJ.1 rfl (by decide) rfl (hJ.2 76 (by decide)).2 (by decide) tb_1253 dX10_carry_18 ?_
          refine lv_aload_n hx hb dX10_carry_21 rfl (lv_at hl 1 rfl) ?_
          refine m_geti (1000) 78 hx hb hts hown hE oc10 hM hJ.1 rfl (by decide) rfl tb_1255 dX10_carry_22 ?_
          have g10 := hI.get (1000) 78 (lo := 0) (hi := 10880) rfl
          refine m_iald (1076) hx hb hE hM (hJ.2 76 (by decide)).1 rfl (vp_in_iff.mpr (by omega)) dX10_carry_25 ?_
          refine m_iast (1008) hx hb hE hM hS (hJ.2 8 (by decide)).1 rfl (vp_in_iff.mpr (by omega)) dX10_carry_26 (fun H locs I11 eI11 hM hS => ?_)
          subst eI11
          have hat2 : (Ia2 1000 78).toInt = 2720 * (kk : Int) + 2338 + (x2_2).toInt := hat3
          have hk0 : 0 ≤ (x2_2).toInt := by omega
          have hkn : (x2_2).toInt < 24 := by omega
          have hI := hI.putx (n := 1008) (k := ((x2_2).toNatClampNeg)) (v := Ia2 (1076) (Ia2 (1000) 78).toNatClampNeg) (by rw [← rgimF (kk := kk) (b := 2338) (n := 24) (N := 1008) (a := Ia2 1000 78) (k := x2_2) (by decide) rfl (by omega) hk0 (by omega)]; exact hI _ _)
          have hK := hK.put (n := 1008) (k := ((x2_2).toNatClampNeg)) (v := Ia2 (1076) (Ia2 (1000) 78).toNatClampNeg) (by first | rfl | simp [inR])
          refine lv_goto (tgt := 42) hx hb dX10_carry_27 (by decide) ?_
          refine lv_aload_n hx hb dX10_carry_42 rfl (lv_at hl 1 rfl) ?_
          refine lv_dup hx hb dX10_carry_43 rfl ?_
          refine m_geti (1000) 78 hx hb hts hown hE oc10 hM hJ.1 rfl (by decide) rfl tb_1255 dX10_carry_44 ?_
          have z12 : (u2 Ia2 (1008) ((x2_2).toNatClampNeg) (Ia2 (1076) (Ia2 (1000) 78).toNatClampNeg)) (1000) 78 = Ia2 (1000) 78 := (show (u2 Ia2 (1008) ((x2_2).toNatClampNeg) (Ia2 (1076) (Ia2 (1000) 78).toNatClampNeg)) (1000) 78 = Ia2 (1000) 78 from by simp [u2_v])
          rw [z12]
          refine lv_iconst (v := (1)) hx hb dX10_carry_47 (by decide) ?_
          refine lv_iadd hx hb dX10_carry_48 ?_
          refine lv_topi (fun v13 ev13 => ?_)
          have tv13 := a_add ev13 (by omega) (by omega)
          refine m_puti (1000) 78 hx hb hts hown hE oc10 hM hS hJ.1 rfl (by decide) rfl rfl rfl rfl tb_1255 dX10_carry_49 (fun H locs I14 eI14 hM hS => ?_)
          subst eI14
          have hI := hI.put (n := 1000) (k := 78) (v := v13) (lo := 0) (hi := 10880) rfl (by first | omega | decide)
          have hK := hK.put (n := 1000) (k := 78) (v := v13) (by first | rfl | simp [inR])
          obtain ⟨v15, ev15⟩ : ∃ z : Int32, z = x2_2 + Int32.ofInt (1) := ⟨_, rfl⟩
          have tv15 := a_inc ev15 (by decide) (by omega) (by omega)
          refine lv_iinc (v := v15) (lv' := [(2, .int (v15)), (0, .ref (ad (1000))), (1, .ref (ad (1008)))]) hx hb dX10_carry_52 hl (k := 0) rfl ev15.symm (by decide) rfl (fun ls hl => ?_)
          refine lv_goto (tgt := 2) hx hb dX10_carry_55 (by decide) ?_
          exact ih2 (v15) (u2 (u2 Ia2 (1008) ((x2_2).toNatClampNeg) (Ia2 (1076) (Ia2 (1000) 78).toNatClampNeg)) (1000) 78 (v13)) La2 _ _ ls hI hK (by first | omega | decide) (by rw [u2_self]; omega) (fun hz => absurd hz (show (I 1000 79).toInt ≠ 0 by have hq := congrArg Int32.toInt (hK0.get 1000 79 rfl); omega)) (fun hz => LD.step (hw2 hz) (by omega) (by omega) (by decide) (by omega)) (by omega) hM hS (lv_sub hl [0, 1, 2] rfl)
  exact loop2 (_ + 1) (0) I L _ _ ls hI hK (by first | omega | decide) (by omega) (fun _ => SV.z (by decide)) (fun _ => LD.z (by decide)) (Nat.lt_succ_self _) hM hS (lv_sub hl [0, 1, 2] rfl)
set_option maxHeartbeats 4000000 in
set_option maxRecDepth 20000 in
theorem V_X10_carry_1009 (l : Launch) (D : va_G) (A : Nat → Prop) (ad : Nat → Nat) (ns : List Nat) (I : MI) (L : ML) (G : MG) (kk : Nat) (hJ : SGM ns G) (hI : INV I) (hk4 : kk < 4) (hat : (I 1000 78).toInt = 2720 * (kk : Int) + 2362) : Met l yX10_carry (wd yX10_carry cX10_carry 3 none) ({ frames := 0, cells := 0, slots := 0, locals := 0 }) (va_Pc [.ref (ad (1000)), .ref (ad (1009))] (PM D A ad ns I L G)) (va_Qv (fun u => ∃ I2 L2, u = (ad, ns, I2, L2, G) ∧ INV I2 ∧ Kp [(1009, 1010), (1076, 1077)] [(1000, 78)] I I2 ∧ ((I2 1000 78).toInt = 2720 * (kk : Int) + 2386 ∧ ((I 1000 79).toInt = 0 → SV kk [(1009, 2362, 24)] I I2) ∧ ((I 1000 79).toInt ≠ 0 → LD kk [(1009, 2362, 24)] I I2))) (BM D A) A) 0 0 A := by
  refine m_ofW (by decide) (Nat.le_of_ble_eq_true rfl) ?_
  intro p e s m below meth c ls args hC hE hM hA hS hl
  obtain ⟨hx, hb, hml, hown, hts, hr, hlocks, hin⟩ := hC
  have k0 : (0 : Int32).toInt = 0 := by decide
  have k1 : (1 : Int32).toInt = 1 := by decide
  have k24 : (24 : Int32).toInt = 24 := by decide
  have hK : Kp [(1009, 1010), (1076, 1077)] [(1000, 78)] I I := Kp.rf
  have hl : lv_has ls 3 [(0, .ref (ad (1000))), (1, .ref (ad (1009)))] := hl
  refine lv_iconst (v := (0)) hx hb dX10_carry_0 (by decide) ?_
  refine lv_istore_n (lv' := [(2, .int (0)), (0, .ref (ad (1000))), (1, .ref (ad (1009)))]) hx hb dX10_carry_1 rfl hl (by decide) rfl (fun ls hl => ?_)
  have loop2 : ∀ (n : Nat) (x2_2 : Int32) (Ia2 : MI) (La2 : ML) (H : Heap) (locs : List Loc) (ls : Array Slot), INV Ia2 → Kp [(1009, 1010), (1076, 1077)] [(1000, 78)] I Ia2 → (0 ≤ x2_2.toInt ∧ x2_2.toInt ≤ 24) → ((Ia2 1000 78).toInt = 2720 * (kk : Int) + 2362 + (x2_2).toInt) → ((I 1000 79).toInt = 0 → SV kk [(1009, 2362, (x2_2).toNatClampNeg)] I Ia2) → ((I 1000 79).toInt ≠ 0 → LD kk [(1009, 2362, (x2_2).toNatClampNeg)] I Ia2) → (24 - x2_2.toInt).toNat < n → Mem D A ad ns Ia2 La2 G H → va_S A s.heap H locs → lv_has ls 3 [(2, .int (x2_2)), (0, .ref (ad (1000))), (1, .ref (ad (1009)))] → W p l e ({ frames := 0, cells := 0, slots := 0, locals := 0 } : Room) s m args below meth c H locs 0 0 (MQ below (va_Qv (fun u => ∃ I2 L2, u = (ad, ns, I2, L2, G) ∧ INV I2 ∧ Kp [(1009, 1010), (1076, 1077)] [(1000, 78)] I I2 ∧ ((I2 1000 78).toInt = 2720 * (kk : Int) + 2386 ∧ ((I 1000 79).toInt = 0 → SV kk [(1009, 2362, 24)] I I2) ∧ ((I 1000 79).toInt ≠ 0 → LD kk [(1009, 2362, 24)] I I2))) (BM D A) A) args s 0 0 A) (F0 m 2 ls []) := by
    intro n
    induction n with
    | zero =>
      intro x2_2 Ia2 La2 H locs ls hI hK hr2_2 hat3 hv2 hw2 hmu
      exact absurd hmu (Nat.not_lt_zero _)
    | succ n ih2 =>
      intro x2_2 Ia2 La2 H locs ls hI hK hr2_2 hat3 hv2 hw2 hmu2 hM hS hl
      have hK0 := hK
      refine lv_iload_n hx hb dX10_carry_2 rfl (lv_at hl 0 rfl) ?_
      refine lv_aload_n hx hb dX10_carry_3 rfl (lv_at hl 2 rfl) ?_
      refine m_alen 1009 (t0 := 0) (v := 24) hx hb hE hM (hJ.2 9 (by decide)).1 rfl (by decide) rfl rfl dX10_carry_4 ?_
      refine lv_icmp_ge (tgt := 58) hx hb dX10_carry_5 (by decide) (fun c1 => ?_) (fun c1 => ?_)
      · have hc1 := c1
        have q1 := q_le hc1
        exact m_vret hx hb hr hlocks hM hS (Nat.le_of_ble_eq_true rfl) (Nat.le_of_ble_eq_true rfl) ⟨_, _, rfl, hI, hK, (by have hz := cl_of (k := x2_2) (n := 24) (by omega); rw [hz] at hv2 hw2; exact ⟨by omega, hv2, hw2⟩)⟩ dX10_carry_58
      · have hc1 := c1
        have q1 := q_nle hc1
        refine lv_aload_n hx hb dX10_carry_8 rfl (lv_at hl 1 rfl) ?_
        refine m_geti (1000) 79 hx hb hts hown hE oc10 hM hJ.1 rfl (by decide) rfl tb_1256 dX10_carry_9 ?_
        have g2 := hI.get (1000) 79 (lo := 0) (hi := 1) rfl
        refine lv_if_eq (tgt := 30) hx hb dX10_carry_12 (by decide) (fun c3 => ?_) (fun c3 => ?_)
        · have hc3 := c3
          have q3 := q_eq hc3
          refine lv_aload_n hx hb dX10_carry_30 rfl (lv_at hl 1 rfl) ?_
          refine m_getr (1000) 76 (1076) hx hb hts hown hE oc10 hM hJ.1 rfl (by decide) rfl (hJ.2 76 (by decide)).2 (by decide) tb_1253 dX10_carry_31 ?_
          refine lv_aload_n hx hb dX10_carry_34 rfl (lv_at hl 1 rfl) ?_
          refine m_geti (1000) 78 hx hb hts hown hE oc10 hM hJ.1 rfl (by decide) rfl tb_1255 dX10_carry_35 ?_
          have g4 := hI.get (1000) 78 (lo := 0) (hi := 10880) rfl
          refine lv_aload_n hx hb dX10_carry_38 rfl (lv_at hl 2 rfl) ?_
          refine lv_iload_n hx hb dX10_carry_39 rfl (lv_at hl 0 rfl) ?_
          refine m_iald (1009) hx hb hE hM (hJ.2 9 (by decide)).1 rfl (vp_in_iff.mpr (by omega)) dX10_carry_40 ?_
          refine m_iast (1076) hx hb hE hM hS (hJ.2 76 (by decide)).1 rfl (vp_in_iff.mpr (by omega)) dX10_carry_41 (fun H locs I5 eI5 hM hS => ?_)
          subst eI5
          have hat2 : (Ia2 1000 78).toInt = 2720 * (kk : Int) + 2362 + (x2_2).toInt := hat3
          have hk0 : 0 ≤ (x2_2).toInt := by omega
          have hkn : (x2_2).toInt < 24 := by omega
          have hI := hI.putx (n := 1076) (k := ((Ia2 (1000) 78).toNatClampNeg)) (v := Ia2 (1009) (x2_2).toNatClampNeg) (by rw [rgimF (kk := kk) (b := 2362) (n := 24) (N := 1009) (a := Ia2 1000 78) (k := x2_2) (by decide) rfl (by omega) hk0 (by omega)]; exact hI _ _)
          have hK := hK.put (n := 1076) (k := ((Ia2 (1000) 78).toNatClampNeg)) (v := Ia2 (1009) (x2_2).toNatClampNeg) (by first | rfl | simp [inR])
          refine lv_aload_n hx hb dX10_carry_42 rfl (lv_at hl 1 rfl) ?_
          refine lv_dup hx hb dX10_carry_43 rfl ?_
          refine m_geti (1000) 78 hx hb hts hown hE oc10 hM hJ.1 rfl (by decide) rfl tb_1255 dX10_carry_44 ?_
          have z6 : (u2 Ia2 (1076) ((Ia2 (1000) 78).toNatClampNeg) (Ia2 (1009) (x2_2).toNatClampNeg)) (1000) 78 = Ia2 (1000) 78 := (show (u2 Ia2 (1076) ((Ia2 (1000) 78).toNatClampNeg) (Ia2 (1009) (x2_2).toNatClampNeg)) (1000) 78 = Ia2 (1000) 78 from by simp [u2_v])
          rw [z6]
          refine lv_iconst (v := (1)) hx hb dX10_carry_47 (by decide) ?_
          refine lv_iadd hx hb dX10_carry_48 ?_
          refine lv_topi (fun v7 ev7 => ?_)
          have tv7 := a_add ev7 (by omega) (by omega)
          refine m_puti (1000) 78 hx hb hts hown hE oc10 hM hS hJ.1 rfl (by decide) rfl rfl rfl rfl tb_1255 dX10_carry_49 (fun H locs I8 eI8 hM hS => ?_)
          subst eI8
          have hI := hI.put (n := 1000) (k := 78) (v := v7) (lo := 0) (hi := 10880) rfl (by first | omega | decide)
          have hK := hK.put (n := 1000) (k := 78) (v := v7) (by first | rfl | simp [inR])
          obtain ⟨v9, ev9⟩ : ∃ z : Int32, z = x2_2 + Int32.ofInt (1) := ⟨_, rfl⟩
          have tv9 := a_inc ev9 (by decide) (by omega) (by omega)
          refine lv_iinc (v := v9) (lv' := [(2, .int (v9)), (0, .ref (ad (1000))), (1, .ref (ad (1009)))]) hx hb dX10_carry_52 hl (k := 0) rfl ev9.symm (by decide) rfl (fun ls hl => ?_)
          refine lv_goto (tgt := 2) hx hb dX10_carry_55 (by decide) ?_
          exact ih2 (v9) (u2 (u2 Ia2 (1076) ((Ia2 (1000) 78).toNatClampNeg) (Ia2 (1009) (x2_2).toNatClampNeg)) (1000) 78 (v7)) La2 _ _ ls hI hK (by first | omega | decide) (by rw [u2_self]; omega) (fun _ => SV.step (hv2 (by have hq := congrArg Int32.toInt (hK0.get 1000 79 rfl); omega)) (by omega) (by omega) (by decide) (by omega)) (fun hz => absurd (show (I 1000 79).toInt = 0 by have hq := congrArg Int32.toInt (hK0.get 1000 79 rfl); omega) hz) (by omega) hM hS (lv_sub hl [0, 1, 2] rfl)
        · have hc3 := c3
          have q3 := q_ne hc3
          refine lv_aload_n hx hb dX10_carry_15 rfl (lv_at hl 2 rfl) ?_
          refine lv_iload_n hx hb dX10_carry_16 rfl (lv_at hl 0 rfl) ?_
          refine lv_aload_n hx hb dX10_carry_17 rfl (lv_at hl 1 rfl) ?_
          refine m_getr (1000) 76 (1076) hx hb hts hown hE oc10 hM hJ.1 rfl (by decide) rfl (hJ.2 76 (by decide)).2 (by decide) tb_1253 dX10_carry_18 ?_
          refine lv_aload_n hx hb dX10_carry_21 rfl (lv_at hl 1 rfl) ?_
          refine m_geti (1000) 78 hx hb hts hown hE oc10 hM hJ.1 rfl (by decide) rfl tb_1255 dX10_carry_22 ?_
          have g10 := hI.get (1000) 78 (lo := 0) (hi := 10880) rfl
          refine m_iald (1076) hx hb hE hM (hJ.2 76 (by decide)).1 rfl (vp_in_iff.mpr (by omega)) dX10_carry_25 ?_
          refine m_iast (1009) hx hb hE hM hS (hJ.2 9 (by decide)).1 rfl (vp_in_iff.mpr (by omega)) dX10_carry_26 (fun H locs I11 eI11 hM hS => ?_)
          subst eI11
          have hat2 : (Ia2 1000 78).toInt = 2720 * (kk : Int) + 2362 + (x2_2).toInt := hat3
          have hk0 : 0 ≤ (x2_2).toInt := by omega
          have hkn : (x2_2).toInt < 24 := by omega
          have hI := hI.putx (n := 1009) (k := ((x2_2).toNatClampNeg)) (v := Ia2 (1076) (Ia2 (1000) 78).toNatClampNeg) (by rw [← rgimF (kk := kk) (b := 2362) (n := 24) (N := 1009) (a := Ia2 1000 78) (k := x2_2) (by decide) rfl (by omega) hk0 (by omega)]; exact hI _ _)
          have hK := hK.put (n := 1009) (k := ((x2_2).toNatClampNeg)) (v := Ia2 (1076) (Ia2 (1000) 78).toNatClampNeg) (by first | rfl | simp [inR])
          refine lv_goto (tgt := 42) hx hb dX10_carry_27 (by decide) ?_
          refine lv_aload_n hx hb dX10_carry_42 rfl (lv_at hl 1 rfl) ?_
          refine lv_dup hx hb dX10_carry_43 rfl ?_
          refine m_geti (1000) 78 hx hb hts hown hE oc10 hM hJ.1 rfl (by decide) rfl tb_1255 dX10_carry_44 ?_
          have z12 : (u2 Ia2 (1009) ((x2_2).toNatClampNeg) (Ia2 (1076) (Ia2 (1000) 78).toNatClampNeg)) (1000) 78 = Ia2 (1000) 78 := (show (u2 Ia2 (1009) ((x2_2).toNatClampNeg) (Ia2 (1076) (Ia2 (1000) 78).toNatClampNeg)) (1000) 78 = Ia2 (1000) 78 from by simp [u2_v])
          rw [z12]
          refine lv_iconst (v := (1)) hx hb dX10_carry_47 (by decide) ?_
          refine lv_iadd hx hb dX10_carry_48 ?_
          refine lv_topi (fun v13 ev13 => ?_)
          have tv13 := a_add ev13 (by omega) (by omega)
          refine m_puti (1000) 78 hx hb hts hown hE oc10 hM hS hJ.1 rfl (by decide) rfl rfl rfl rfl tb_1255 dX10_carry_49 (fun H locs I14 eI14 hM hS => ?_)
          subst eI14
          have hI := hI.put (n := 1000) (k := 78) (v := v13) (lo := 0) (hi := 10880) rfl (by first | omega | decide)
          have hK := hK.put (n := 1000) (k := 78) (v := v13) (by first | rfl | simp [inR])
          obtain ⟨v15, ev15⟩ : ∃ z : Int32, z = x2_2 + Int32.ofInt (1) := ⟨_, rfl⟩
          have tv15 := a_inc ev15 (by decide) (by omega) (by omega)
          refine lv_iinc (v := v15) (lv' := [(2, .int (v15)), (0, .ref (ad (1000))), (1, .ref (ad (1009)))]) hx hb dX10_carry_52 hl (k := 0) rfl ev15.symm (by decide) rfl (fun ls hl => ?_)
          refine lv_goto (tgt := 2) hx hb dX10_carry_55 (by decide) ?_
          exact ih2 (v15) (u2 (u2 Ia2 (1009) ((x2_2).toNatClampNeg) (Ia2 (1076) (Ia2 (1000) 78).toNatClampNeg)) (1000) 78 (v13)) La2 _ _ ls hI hK (by first | omega | decide) (by rw [u2_self]; omega) (fun hz => absurd hz (show (I 1000 79).toInt ≠ 0 by have hq := congrArg Int32.toInt (hK0.get 1000 79 rfl); omega)) (fun hz => LD.step (hw2 hz) (by omega) (by omega) (by decide) (by omega)) (by omega) hM hS (lv_sub hl [0, 1, 2] rfl)
  exact loop2 (_ + 1) (0) I L _ _ ls hI hK (by first | omega | decide) (by omega) (fun _ => SV.z (by decide)) (fun _ => LD.z (by decide)) (Nat.lt_succ_self _) hM hS (lv_sub hl [0, 1, 2] rfl)
set_option maxHeartbeats 4000000 in
set_option maxRecDepth 20000 in
theorem V_X10_carry_1010 (l : Launch) (D : va_G) (A : Nat → Prop) (ad : Nat → Nat) (ns : List Nat) (I : MI) (L : ML) (G : MG) (kk : Nat) (hJ : SGM ns G) (hI : INV I) (hk4 : kk < 4) (hat : (I 1000 78).toInt = 2720 * (kk : Int) + 2386) : Met l yX10_carry (wd yX10_carry cX10_carry 3 none) ({ frames := 0, cells := 0, slots := 0, locals := 0 }) (va_Pc [.ref (ad (1000)), .ref (ad (1010))] (PM D A ad ns I L G)) (va_Qv (fun u => ∃ I2 L2, u = (ad, ns, I2, L2, G) ∧ INV I2 ∧ Kp [(1010, 1011), (1076, 1077)] [(1000, 78)] I I2 ∧ ((I2 1000 78).toInt = 2720 * (kk : Int) + 2410 ∧ ((I 1000 79).toInt = 0 → SV kk [(1010, 2386, 24)] I I2) ∧ ((I 1000 79).toInt ≠ 0 → LD kk [(1010, 2386, 24)] I I2))) (BM D A) A) 0 0 A := by
  refine m_ofW (by decide) (Nat.le_of_ble_eq_true rfl) ?_
  intro p e s m below meth c ls args hC hE hM hA hS hl
  obtain ⟨hx, hb, hml, hown, hts, hr, hlocks, hin⟩ := hC
  have k0 : (0 : Int32).toInt = 0 := by decide
  have k1 : (1 : Int32).toInt = 1 := by decide
  have k24 : (24 : Int32).toInt = 24 := by decide
  have hK : Kp [(1010, 1011), (1076, 1077)] [(1000, 78)] I I := Kp.rf
  have hl : lv_has ls 3 [(0, .ref (ad (1000))), (1, .ref (ad (1010)))] := hl
  refine lv_iconst (v := (0)) hx hb dX10_carry_0 (by decide) ?_
  refine lv_istore_n (lv' := [(2, .int (0)), (0, .ref (ad (1000))), (1, .ref (ad (1010)))]) hx hb dX10_carry_1 rfl hl (by decide) rfl (fun ls hl => ?_)
  have loop2 : ∀ (n : Nat) (x2_2 : Int32) (Ia2 : MI) (La2 : ML) (H : Heap) (locs : List Loc) (ls : Array Slot), INV Ia2 → Kp [(1010, 1011), (1076, 1077)] [(1000, 78)] I Ia2 → (0 ≤ x2_2.toInt ∧ x2_2.toInt ≤ 24) → ((Ia2 1000 78).toInt = 2720 * (kk : Int) + 2386 + (x2_2).toInt) → ((I 1000 79).toInt = 0 → SV kk [(1010, 2386, (x2_2).toNatClampNeg)] I Ia2) → ((I 1000 79).toInt ≠ 0 → LD kk [(1010, 2386, (x2_2).toNatClampNeg)] I Ia2) → (24 - x2_2.toInt).toNat < n → Mem D A ad ns Ia2 La2 G H → va_S A s.heap H locs → lv_has ls 3 [(2, .int (x2_2)), (0, .ref (ad (1000))), (1, .ref (ad (1010)))] → W p l e ({ frames := 0, cells := 0, slots := 0, locals := 0 } : Room) s m args below meth c H locs 0 0 (MQ below (va_Qv (fun u => ∃ I2 L2, u = (ad, ns, I2, L2, G) ∧ INV I2 ∧ Kp [(1010, 1011), (1076, 1077)] [(1000, 78)] I I2 ∧ ((I2 1000 78).toInt = 2720 * (kk : Int) + 2410 ∧ ((I 1000 79).toInt = 0 → SV kk [(1010, 2386, 24)] I I2) ∧ ((I 1000 79).toInt ≠ 0 → LD kk [(1010, 2386, 24)] I I2))) (BM D A) A) args s 0 0 A) (F0 m 2 ls []) := by
    intro n
    induction n with
    | zero =>
      intro x2_2 Ia2 La2 H locs ls hI hK hr2_2 hat3 hv2 hw2 hmu
      exact absurd hmu (Nat.not_lt_zero _)
    | succ n ih2 =>
      intro x2_2 Ia2 La2 H locs ls hI hK hr2_2 hat3 hv2 hw2 hmu2 hM hS hl
      have hK0 := hK
      refine lv_iload_n hx hb dX10_carry_2 rfl (lv_at hl 0 rfl) ?_
      refine lv_aload_n hx hb dX10_carry_3 rfl (lv_at hl 2 rfl) ?_
      refine m_alen 1010 (t0 := 0) (v := 24) hx hb hE hM (hJ.2 10 (by decide)).1 rfl (by decide) rfl rfl dX10_carry_4 ?_
      refine lv_icmp_ge (tgt := 58) hx hb dX10_carry_5 (by decide) (fun c1 => ?_) (fun c1 => ?_)
      · have hc1 := c1
        have q1 := q_le hc1
        exact m_vret hx hb hr hlocks hM hS (Nat.le_of_ble_eq_true rfl) (Nat.le_of_ble_eq_true rfl) ⟨_, _, rfl, hI, hK, (by have hz := cl_of (k := x2_2) (n := 24) (by omega); rw [hz] at hv2 hw2; exact ⟨by omega, hv2, hw2⟩)⟩ dX10_carry_58
      · have hc1 := c1
        have q1 := q_nle hc1
        refine lv_aload_n hx hb dX10_carry_8 rfl (lv_at hl 1 rfl) ?_
        refine m_geti (1000) 79 hx hb hts hown hE oc10 hM hJ.1 rfl (by decide) rfl tb_1256 dX10_carry_9 ?_
        have g2 := hI.get (1000) 79 (lo := 0) (hi := 1) rfl
        refine lv_if_eq (tgt := 30) hx hb dX10_carry_12 (by decide) (fun c3 => ?_) (fun c3 => ?_)
        · have hc3 := c3
          have q3 := q_eq hc3
          refine lv_aload_n hx hb dX10_carry_30 rfl (lv_at hl 1 rfl) ?_
          refine m_getr (1000) 76 (1076) hx hb hts hown hE oc10 hM hJ.1 rfl (by decide) rfl (hJ.2 76 (by decide)).2 (by decide) tb_1253 dX10_carry_31 ?_
          refine lv_aload_n hx hb dX10_carry_34 rfl (lv_at hl 1 rfl) ?_
          refine m_geti (1000) 78 hx hb hts hown hE oc10 hM hJ.1 rfl (by decide) rfl tb_1255 dX10_carry_35 ?_
          have g4 := hI.get (1000) 78 (lo := 0) (hi := 10880) rfl
          refine lv_aload_n hx hb dX10_carry_38 rfl (lv_at hl 2 rfl) ?_
          refine lv_iload_n hx hb dX10_carry_39 rfl (lv_at hl 0 rfl) ?_
          refine m_iald (1010) hx hb hE hM (hJ.2 10 (by decide)).1 rfl (vp_in_iff.mpr (by omega)) dX10_carry_40 ?_
          refine m_iast (1076) hx hb hE hM hS (hJ.2 76 (by decide)).1 rfl (vp_in_iff.mpr (by omega)) dX10_carry_41 (fun H locs I5 eI5 hM hS => ?_)
          subst eI5
          have hat2 : (Ia2 1000 78).toInt = 2720 * (kk : Int) + 2386 + (x2_2).toInt := hat3
          have hk0 : 0 ≤ (x2_2).toInt := by omega
          have hkn : (x2_2).toInt < 24 := by omega
          have hI := hI.putx (n := 1076) (k := ((Ia2 (1000) 78).toNatClampNeg)) (v := Ia2 (1010) (x2_2).toNatClampNeg) (by rw [rgimF (kk := kk) (b := 2386) (n := 24) (N := 1010) (a := Ia2 1000 78) (k := x2_2) (by decide) rfl (by omega) hk0 (by omega)]; exact hI _ _)
          have hK := hK.put (n := 1076) (k := ((Ia2 (1000) 78).toNatClampNeg)) (v := Ia2 (1010) (x2_2).toNatClampNeg) (by first | rfl | simp [inR])
          refine lv_aload_n hx hb dX10_carry_42 rfl (lv_at hl 1 rfl) ?_
          refine lv_dup hx hb dX10_carry_43 rfl ?_
          refine m_geti (1000) 78 hx hb hts hown hE oc10 hM hJ.1 rfl (by decide) rfl tb_1255 dX10_carry_44 ?_
          have z6 : (u2 Ia2 (1076) ((Ia2 (1000) 78).toNatClampNeg) (Ia2 (1010) (x2_2).toNatClampNeg)) (1000) 78 = Ia2 (1000) 78 := (show (u2 Ia2 (1076) ((Ia2 (1000) 78).toNatClampNeg) (Ia2 (1010) (x2_2).toNatClampNeg)) (1000) 78 = Ia2 (1000) 78 from by simp [u2_v])
          rw [z6]
          refine lv_iconst (v := (1)) hx hb dX10_carry_47 (by decide) ?_
          refine lv_iadd hx hb dX10_carry_48 ?_
          refine lv_topi (fun v7 ev7 => ?_)
          have tv7 := a_add ev7 (by omega) (by omega)
          refine m_puti (1000) 78 hx hb hts hown hE oc10 hM hS hJ.1 rfl (by decide) rfl rfl rfl rfl tb_1255 dX10_carry_49 (fun H locs I8 eI8 hM hS => ?_)
          subst eI8
          have hI := hI.put (n := 1000) (k := 78) (v := v7) (lo := 0) (hi := 10880) rfl (by first | omega | decide)
          have hK := hK.put (n := 1000) (k := 78) (v := v7) (by first | rfl | simp [inR])
          obtain ⟨v9, ev9⟩ : ∃ z : Int32, z = x2_2 + Int32.ofInt (1) := ⟨_, rfl⟩
          have tv9 := a_inc ev9 (by decide) (by omega) (by omega)
          refine lv_iinc (v := v9) (lv' := [(2, .int (v9)), (0, .ref (ad (1000))), (1, .ref (ad (1010)))]) hx hb dX10_carry_52 hl (k := 0) rfl ev9.symm (by decide) rfl (fun ls hl => ?_)
          refine lv_goto (tgt := 2) hx hb dX10_carry_55 (by decide) ?_
          exact ih2 (v9) (u2 (u2 Ia2 (1076) ((Ia2 (1000) 78).toNatClampNeg) (Ia2 (1010) (x2_2).toNatClampNeg)) (1000) 78 (v7)) La2 _ _ ls hI hK (by first | omega | decide) (by rw [u2_self]; omega) (fun _ => SV.step (hv2 (by have hq := congrArg Int32.toInt (hK0.get 1000 79 rfl); omega)) (by omega) (by omega) (by decide) (by omega)) (fun hz => absurd (show (I 1000 79).toInt = 0 by have hq := congrArg Int32.toInt (hK0.get 1000 79 rfl); omega) hz) (by omega) hM hS (lv_sub hl [0, 1, 2] rfl)
        · have hc3 := c3
          have q3 := q_ne hc3
          refine lv_aload_n hx hb dX10_carry_15 rfl (lv_at hl 2 rfl) ?_
          refine lv_iload_n hx hb dX10_carry_16 rfl (lv_at hl 0 rfl) ?_
          refine lv_aload_n hx hb dX10_carry_17 rfl (lv_at hl 1 rfl) ?_
          refine m_getr (1000) 76 (1076) hx hb hts hown hE oc10 hM hJ.1 rfl (by decide) rfl (hJ.2 76 (by decide)).2 (by decide) tb_1253 dX10_carry_18 ?_
          refine lv_aload_n hx hb dX10_carry_21 rfl (lv_at hl 1 rfl) ?_
          refine m_geti (1000) 78 hx hb hts hown hE oc10 hM hJ.1 rfl (by decide) rfl tb_1255 dX10_carry_22 ?_
          have g10 := hI.get (1000) 78 (lo := 0) (hi := 10880) rfl
          refine m_iald (1076) hx hb hE hM (hJ.2 76 (by decide)).1 rfl (vp_in_iff.mpr (by omega)) dX10_carry_25 ?_
          refine m_iast (1010) hx hb hE hM hS (hJ.2 10 (by decide)).1 rfl (vp_in_iff.mpr (by omega)) dX10_carry_26 (fun H locs I11 eI11 hM hS => ?_)
          subst eI11
          have hat2 : (Ia2 1000 78).toInt = 2720 * (kk : Int) + 2386 + (x2_2).toInt := hat3
          have hk0 : 0 ≤ (x2_2).toInt := by omega
          have hkn : (x2_2).toInt < 24 := by omega
          have hI := hI.putx (n := 1010) (k := ((x2_2).toNatClampNeg)) (v := Ia2 (1076) (Ia2 (1000) 78).toNatClampNeg) (by rw [← rgimF (kk := kk) (b := 2386) (n := 24) (N := 1010) (a := Ia2 1000 78) (k := x2_2) (by decide) rfl (by omega) hk0 (by omega)]; exact hI _ _)
          have hK := hK.put (n := 1010) (k := ((x2_2).toNatClampNeg)) (v := Ia2 (1076) (Ia2 (1000) 78).toNatClampNeg) (by first | rfl | simp [inR])
          refine lv_goto (tgt := 42) hx hb dX10_carry_27 (by decide) ?_
          refine lv_aload_n hx hb dX10_carry_42 rfl (lv_at hl 1 rfl) ?_
          refine lv_dup hx hb dX10_carry_43 rfl ?_
          refine m_geti (1000) 78 hx hb hts hown hE oc10 hM hJ.1 rfl (by decide) rfl tb_1255 dX10_carry_44 ?_
          have z12 : (u2 Ia2 (1010) ((x2_2).toNatClampNeg) (Ia2 (1076) (Ia2 (1000) 78).toNatClampNeg)) (1000) 78 = Ia2 (1000) 78 := (show (u2 Ia2 (1010) ((x2_2).toNatClampNeg) (Ia2 (1076) (Ia2 (1000) 78).toNatClampNeg)) (1000) 78 = Ia2 (1000) 78 from by simp [u2_v])
          rw [z12]
          refine lv_iconst (v := (1)) hx hb dX10_carry_47 (by decide) ?_
          refine lv_iadd hx hb dX10_carry_48 ?_
          refine lv_topi (fun v13 ev13 => ?_)
          have tv13 := a_add ev13 (by omega) (by omega)
          refine m_puti (1000) 78 hx hb hts hown hE oc10 hM hS hJ.1 rfl (by decide) rfl rfl rfl rfl tb_1255 dX10_carry_49 (fun H locs I14 eI14 hM hS => ?_)
          subst eI14
          have hI := hI.put (n := 1000) (k := 78) (v := v13) (lo := 0) (hi := 10880) rfl (by first | omega | decide)
          have hK := hK.put (n := 1000) (k := 78) (v := v13) (by first | rfl | simp [inR])
          obtain ⟨v15, ev15⟩ : ∃ z : Int32, z = x2_2 + Int32.ofInt (1) := ⟨_, rfl⟩
          have tv15 := a_inc ev15 (by decide) (by omega) (by omega)
          refine lv_iinc (v := v15) (lv' := [(2, .int (v15)), (0, .ref (ad (1000))), (1, .ref (ad (1010)))]) hx hb dX10_carry_52 hl (k := 0) rfl ev15.symm (by decide) rfl (fun ls hl => ?_)
          refine lv_goto (tgt := 2) hx hb dX10_carry_55 (by decide) ?_
          exact ih2 (v15) (u2 (u2 Ia2 (1010) ((x2_2).toNatClampNeg) (Ia2 (1076) (Ia2 (1000) 78).toNatClampNeg)) (1000) 78 (v13)) La2 _ _ ls hI hK (by first | omega | decide) (by rw [u2_self]; omega) (fun hz => absurd hz (show (I 1000 79).toInt ≠ 0 by have hq := congrArg Int32.toInt (hK0.get 1000 79 rfl); omega)) (fun hz => LD.step (hw2 hz) (by omega) (by omega) (by decide) (by omega)) (by omega) hM hS (lv_sub hl [0, 1, 2] rfl)
  exact loop2 (_ + 1) (0) I L _ _ ls hI hK (by first | omega | decide) (by omega) (fun _ => SV.z (by decide)) (fun _ => LD.z (by decide)) (Nat.lt_succ_self _) hM hS (lv_sub hl [0, 1, 2] rfl)
set_option maxHeartbeats 4000000 in
set_option maxRecDepth 20000 in
theorem V_X10_carry_1011 (l : Launch) (D : va_G) (A : Nat → Prop) (ad : Nat → Nat) (ns : List Nat) (I : MI) (L : ML) (G : MG) (kk : Nat) (hJ : SGM ns G) (hI : INV I) (hk4 : kk < 4) (hat : (I 1000 78).toInt = 2720 * (kk : Int) + 2410) : Met l yX10_carry (wd yX10_carry cX10_carry 3 none) ({ frames := 0, cells := 0, slots := 0, locals := 0 }) (va_Pc [.ref (ad (1000)), .ref (ad (1011))] (PM D A ad ns I L G)) (va_Qv (fun u => ∃ I2 L2, u = (ad, ns, I2, L2, G) ∧ INV I2 ∧ Kp [(1011, 1012), (1076, 1077)] [(1000, 78)] I I2 ∧ ((I2 1000 78).toInt = 2720 * (kk : Int) + 2434 ∧ ((I 1000 79).toInt = 0 → SV kk [(1011, 2410, 24)] I I2) ∧ ((I 1000 79).toInt ≠ 0 → LD kk [(1011, 2410, 24)] I I2))) (BM D A) A) 0 0 A := by
  refine m_ofW (by decide) (Nat.le_of_ble_eq_true rfl) ?_
  intro p e s m below meth c ls args hC hE hM hA hS hl
  obtain ⟨hx, hb, hml, hown, hts, hr, hlocks, hin⟩ := hC
  have k0 : (0 : Int32).toInt = 0 := by decide
  have k1 : (1 : Int32).toInt = 1 := by decide
  have k24 : (24 : Int32).toInt = 24 := by decide
  have hK : Kp [(1011, 1012), (1076, 1077)] [(1000, 78)] I I := Kp.rf
  have hl : lv_has ls 3 [(0, .ref (ad (1000))), (1, .ref (ad (1011)))] := hl
  refine lv_iconst (v := (0)) hx hb dX10_carry_0 (by decide) ?_
  refine lv_istore_n (lv' := [(2, .int (0)), (0, .ref (ad (1000))), (1, .ref (ad (1011)))]) hx hb dX10_carry_1 rfl hl (by decide) rfl (fun ls hl => ?_)
  have loop2 : ∀ (n : Nat) (x2_2 : Int32) (Ia2 : MI) (La2 : ML) (H : Heap) (locs : List Loc) (ls : Array Slot), INV Ia2 → Kp [(1011, 1012), (1076, 1077)] [(1000, 78)] I Ia2 → (0 ≤ x2_2.toInt ∧ x2_2.toInt ≤ 24) → ((Ia2 1000 78).toInt = 2720 * (kk : Int) + 2410 + (x2_2).toInt) → ((I 1000 79).toInt = 0 → SV kk [(1011, 2410, (x2_2).toNatClampNeg)] I Ia2) → ((I 1000 79).toInt ≠ 0 → LD kk [(1011, 2410, (x2_2).toNatClampNeg)] I Ia2) → (24 - x2_2.toInt).toNat < n → Mem D A ad ns Ia2 La2 G H → va_S A s.heap H locs → lv_has ls 3 [(2, .int (x2_2)), (0, .ref (ad (1000))), (1, .ref (ad (1011)))] → W p l e ({ frames := 0, cells := 0, slots := 0, locals := 0 } : Room) s m args below meth c H locs 0 0 (MQ below (va_Qv (fun u => ∃ I2 L2, u = (ad, ns, I2, L2, G) ∧ INV I2 ∧ Kp [(1011, 1012), (1076, 1077)] [(1000, 78)] I I2 ∧ ((I2 1000 78).toInt = 2720 * (kk : Int) + 2434 ∧ ((I 1000 79).toInt = 0 → SV kk [(1011, 2410, 24)] I I2) ∧ ((I 1000 79).toInt ≠ 0 → LD kk [(1011, 2410, 24)] I I2))) (BM D A) A) args s 0 0 A) (F0 m 2 ls []) := by
    intro n
    induction n with
    | zero =>
      intro x2_2 Ia2 La2 H locs ls hI hK hr2_2 hat3 hv2 hw2 hmu
      exact absurd hmu (Nat.not_lt_zero _)
    | succ n ih2 =>
      intro x2_2 Ia2 La2 H locs ls hI hK hr2_2 hat3 hv2 hw2 hmu2 hM hS hl
      have hK0 := hK
      refine lv_iload_n hx hb dX10_carry_2 rfl (lv_at hl 0 rfl) ?_
      refine lv_aload_n hx hb dX10_carry_3 rfl (lv_at hl 2 rfl) ?_
      refine m_alen 1011 (t0 := 0) (v := 24) hx hb hE hM (hJ.2 11 (by decide)).1 rfl (by decide) rfl rfl dX10_carry_4 ?_
      refine lv_icmp_ge (tgt := 58) hx hb dX10_carry_5 (by decide) (fun c1 => ?_) (fun c1 => ?_)
      · have hc1 := c1
        have q1 := q_le hc1
        exact m_vret hx hb hr hlocks hM hS (Nat.le_of_ble_eq_true rfl) (Nat.le_of_ble_eq_true rfl) ⟨_, _, rfl, hI, hK, (by have hz := cl_of (k := x2_2) (n := 24) (by omega); rw [hz] at hv2 hw2; exact ⟨by omega, hv2, hw2⟩)⟩ dX10_carry_58
      · have hc1 := c1
        have q1 := q_nle hc1
        refine lv_aload_n hx hb dX10_carry_8 rfl (lv_at hl 1 rfl) ?_
        refine m_geti (1000) 79 hx hb hts hown hE oc10 hM hJ.1 rfl (by decide) rfl tb_1256 dX10_carry_9 ?_
        have g2 := hI.get (1000) 79 (lo := 0) (hi := 1) rfl
        refine lv_if_eq (tgt := 30) hx hb dX10_carry_12 (by decide) (fun c3 => ?_) (fun c3 => ?_)
        · have hc3 := c3
          have q3 := q_eq hc3
          refine lv_aload_n hx hb dX10_carry_30 rfl (lv_at hl 1 rfl) ?_
          refine m_getr (1000) 76 (1076) hx hb hts hown hE oc10 hM hJ.1 rfl (by decide) rfl (hJ.2 76 (by decide)).2 (by decide) tb_1253 dX10_carry_31 ?_
          refine lv_aload_n hx hb dX10_carry_34 rfl (lv_at hl 1 rfl) ?_
          refine m_geti (1000) 78 hx hb hts hown hE oc10 hM hJ.1 rfl (by decide) rfl tb_1255 dX10_carry_35 ?_
          have g4 := hI.get (1000) 78 (lo := 0) (hi := 10880) rfl
          refine lv_aload_n hx hb dX10_carry_38 rfl (lv_at hl 2 rfl) ?_
          refine lv_iload_n hx hb dX10_carry_39 rfl (lv_at hl 0 rfl) ?_
          refine m_iald (1011) hx hb hE hM (hJ.2 11 (by decide)).1 rfl (vp_in_iff.mpr (by omega)) dX10_carry_40 ?_
          refine m_iast (1076) hx hb hE hM hS (hJ.2 76 (by decide)).1 rfl (vp_in_iff.mpr (by omega)) dX10_carry_41 (fun H locs I5 eI5 hM hS => ?_)
          subst eI5
          have hat2 : (Ia2 1000 78).toInt = 2720 * (kk : Int) + 2410 + (x2_2).toInt := hat3
          have hk0 : 0 ≤ (x2_2).toInt := by omega
          have hkn : (x2_2).toInt < 24 := by omega
          have hI := hI.putx (n := 1076) (k := ((Ia2 (1000) 78).toNatClampNeg)) (v := Ia2 (1011) (x2_2).toNatClampNeg) (by rw [rgimF (kk := kk) (b := 2410) (n := 24) (N := 1011) (a := Ia2 1000 78) (k := x2_2) (by decide) rfl (by omega) hk0 (by omega)]; exact hI _ _)
          have hK := hK.put (n := 1076) (k := ((Ia2 (1000) 78).toNatClampNeg)) (v := Ia2 (1011) (x2_2).toNatClampNeg) (by first | rfl | simp [inR])
          refine lv_aload_n hx hb dX10_carry_42 rfl (lv_at hl 1 rfl) ?_
          refine lv_dup hx hb dX10_carry_43 rfl ?_
          refine m_geti (1000) 78 hx hb hts hown hE oc10 hM hJ.1 rfl (by decide) rfl tb_1255 dX10_carry_44 ?_
          have z6 : (u2 Ia2 (1076) ((Ia2 (1000) 78).toNatClampNeg) (Ia2 (1011) (x2_2).toNatClampNeg)) (1000) 78 = Ia2 (1000) 78 := (show (u2 Ia2 (1076) ((Ia2 (1000) 78).toNatClampNeg) (Ia2 (1011) (x2_2).toNatClampNeg)) (1000) 78 = Ia2 (1000) 78 from by simp [u2_v])
          rw [z6]
          refine lv_iconst (v := (1)) hx hb dX10_carry_47 (by decide) ?_
          refine lv_iadd hx hb dX10_carry_48 ?_
          refine lv_topi (fun v7 ev7 => ?_)
          have tv7 := a_add ev7 (by omega) (by omega)
          refine m_puti (1000) 78 hx hb hts hown hE oc10 hM hS hJ.1 rfl (by decide) rfl rfl rfl rfl tb_1255 dX10_carry_49 (fun H locs I8 eI8 hM hS => ?_)
          subst eI8
          have hI := hI.put (n := 1000) (k := 78) (v := v7) (lo := 0) (hi := 10880) rfl (by first | omega | decide)
          have hK := hK.put (n := 1000) (k := 78) (v := v7) (by first | rfl | simp [inR])
          obtain ⟨v9, ev9⟩ : ∃ z : Int32, z = x2_2 + Int32.ofInt (1) := ⟨_, rfl⟩
          have tv9 := a_inc ev9 (by decide) (by omega) (by omega)
          refine lv_iinc (v := v9) (lv' := [(2, .int (v9)), (0, .ref (ad (1000))), (1, .ref (ad (1011)))]) hx hb dX10_carry_52 hl (k := 0) rfl ev9.symm (by decide) rfl (fun ls hl => ?_)
          refine lv_goto (tgt := 2) hx hb dX10_carry_55 (by decide) ?_
          exact ih2 (v9) (u2 (u2 Ia2 (1076) ((Ia2 (1000) 78).toNatClampNeg) (Ia2 (1011) (x2_2).toNatClampNeg)) (1000) 78 (v7)) La2 _ _ ls hI hK (by first | omega | decide) (by rw [u2_self]; omega) (fun _ => SV.step (hv2 (by have hq := congrArg Int32.toInt (hK0.get 1000 79 rfl); omega)) (by omega) (by omega) (by decide) (by omega)) (fun hz => absurd (show (I 1000 79).toInt = 0 by have hq := congrArg Int32.toInt (hK0.get 1000 79 rfl); omega) hz) (by omega) hM hS (lv_sub hl [0, 1, 2] rfl)
        · have hc3 := c3
          have q3 := q_ne hc3
          refine lv_aload_n hx hb dX10_carry_15 rfl (lv_at hl 2 rfl) ?_
          refine lv_iload_n hx hb dX10_carry_16 rfl (lv_at hl 0 rfl) ?_
          refine lv_aload_n hx hb dX10_carry_17 rfl (lv_at hl 1 rfl) ?_
          refine m_getr (1000) 76 (1076) hx hb hts hown hE oc10 hM hJ.1 rfl (by decide) rfl (hJ.2 76 (by decide)).2 (by decide) tb_1253 dX10_carry_18 ?_
          refine lv_aload_n hx hb dX10_carry_21 rfl (lv_at hl 1 rfl) ?_
          refine m_geti (1000) 78 hx hb hts hown hE oc10 hM hJ.1 rfl (by decide) rfl tb_1255 dX10_carry_22 ?_
          have g10 := hI.get (1000) 78 (lo := 0) (hi := 10880) rfl
          refine m_iald (1076) hx hb hE hM (hJ.2 76 (by decide)).1 rfl (vp_in_iff.mpr (by omega)) dX10_carry_25 ?_
          refine m_iast (1011) hx hb hE hM hS (hJ.2 11 (by decide)).1 rfl (vp_in_iff.mpr (by omega)) dX10_carry_26 (fun H locs I11 eI11 hM hS => ?_)
          subst eI11
          have hat2 : (Ia2 1000 78).toInt = 2720 * (kk : Int) + 2410 + (x2_2).toInt := hat3
          have hk0 : 0 ≤ (x2_2).toInt := by omega
          have hkn : (x2_2).toInt < 24 := by omega
          have hI := hI.putx (n := 1011) (k := ((x2_2).toNatClampNeg)) (v := Ia2 (1076) (Ia2 (1000) 78).toNatClampNeg) (by rw [← rgimF (kk := kk) (b := 2410) (n := 24) (N := 1011) (a := Ia2 1000 78) (k := x2_2) (by decide) rfl (by omega) hk0 (by omega)]; exact hI _ _)
          have hK := hK.put (n := 1011) (k := ((x2_2).toNatClampNeg)) (v := Ia2 (1076) (Ia2 (1000) 78).toNatClampNeg) (by first | rfl | simp [inR])
          refine lv_goto (tgt := 42) hx hb dX10_carry_27 (by decide) ?_
          refine lv_aload_n hx hb dX10_carry_42 rfl (lv_at hl 1 rfl) ?_
          refine lv_dup hx hb dX10_carry_43 rfl ?_
          refine m_geti (1000) 78 hx hb hts hown hE oc10 hM hJ.1 rfl (by decide) rfl tb_1255 dX10_carry_44 ?_
          have z12 : (u2 Ia2 (1011) ((x2_2).toNatClampNeg) (Ia2 (1076) (Ia2 (1000) 78).toNatClampNeg)) (1000) 78 = Ia2 (1000) 78 := (show (u2 Ia2 (1011) ((x2_2).toNatClampNeg) (Ia2 (1076) (Ia2 (1000) 78).toNatClampNeg)) (1000) 78 = Ia2 (1000) 78 from by simp [u2_v])
          rw [z12]
          refine lv_iconst (v := (1)) hx hb dX10_carry_47 (by decide) ?_
          refine lv_iadd hx hb dX10_carry_48 ?_
          refine lv_topi (fun v13 ev13 => ?_)
          have tv13 := a_add ev13 (by omega) (by omega)
          refine m_puti (1000) 78 hx hb hts hown hE oc10 hM hS hJ.1 rfl (by decide) rfl rfl rfl rfl tb_1255 dX10_carry_49 (fun H locs I14 eI14 hM hS => ?_)
          subst eI14
          have hI := hI.put (n := 1000) (k := 78) (v := v13) (lo := 0) (hi := 10880) rfl (by first | omega | decide)
          have hK := hK.put (n := 1000) (k := 78) (v := v13) (by first | rfl | simp [inR])
          obtain ⟨v15, ev15⟩ : ∃ z : Int32, z = x2_2 + Int32.ofInt (1) := ⟨_, rfl⟩
          have tv15 := a_inc ev15 (by decide) (by omega) (by omega)
          refine lv_iinc (v := v15) (lv' := [(2, .int (v15)), (0, .ref (ad (1000))), (1, .ref (ad (1011)))]) hx hb dX10_carry_52 hl (k := 0) rfl ev15.symm (by decide) rfl (fun ls hl => ?_)
          refine lv_goto (tgt := 2) hx hb dX10_carry_55 (by decide) ?_
          exact ih2 (v15) (u2 (u2 Ia2 (1011) ((x2_2).toNatClampNeg) (Ia2 (1076) (Ia2 (1000) 78).toNatClampNeg)) (1000) 78 (v13)) La2 _ _ ls hI hK (by first | omega | decide) (by rw [u2_self]; omega) (fun hz => absurd hz (show (I 1000 79).toInt ≠ 0 by have hq := congrArg Int32.toInt (hK0.get 1000 79 rfl); omega)) (fun hz => LD.step (hw2 hz) (by omega) (by omega) (by decide) (by omega)) (by omega) hM hS (lv_sub hl [0, 1, 2] rfl)
  exact loop2 (_ + 1) (0) I L _ _ ls hI hK (by first | omega | decide) (by omega) (fun _ => SV.z (by decide)) (fun _ => LD.z (by decide)) (Nat.lt_succ_self _) hM hS (lv_sub hl [0, 1, 2] rfl)
set_option maxHeartbeats 4000000 in
set_option maxRecDepth 20000 in
theorem V_X10_carry_1012 (l : Launch) (D : va_G) (A : Nat → Prop) (ad : Nat → Nat) (ns : List Nat) (I : MI) (L : ML) (G : MG) (kk : Nat) (hJ : SGM ns G) (hI : INV I) (hk4 : kk < 4) (hat : (I 1000 78).toInt = 2720 * (kk : Int) + 2434) : Met l yX10_carry (wd yX10_carry cX10_carry 3 none) ({ frames := 0, cells := 0, slots := 0, locals := 0 }) (va_Pc [.ref (ad (1000)), .ref (ad (1012))] (PM D A ad ns I L G)) (va_Qv (fun u => ∃ I2 L2, u = (ad, ns, I2, L2, G) ∧ INV I2 ∧ Kp [(1012, 1013), (1076, 1077)] [(1000, 78)] I I2 ∧ ((I2 1000 78).toInt = 2720 * (kk : Int) + 2458 ∧ ((I 1000 79).toInt = 0 → SV kk [(1012, 2434, 24)] I I2) ∧ ((I 1000 79).toInt ≠ 0 → LD kk [(1012, 2434, 24)] I I2))) (BM D A) A) 0 0 A := by
  refine m_ofW (by decide) (Nat.le_of_ble_eq_true rfl) ?_
  intro p e s m below meth c ls args hC hE hM hA hS hl
  obtain ⟨hx, hb, hml, hown, hts, hr, hlocks, hin⟩ := hC
  have k0 : (0 : Int32).toInt = 0 := by decide
  have k1 : (1 : Int32).toInt = 1 := by decide
  have k24 : (24 : Int32).toInt = 24 := by decide
  have hK : Kp [(1012, 1013), (1076, 1077)] [(1000, 78)] I I := Kp.rf
  have hl : lv_has ls 3 [(0, .ref (ad (1000))), (1, .ref (ad (1012)))] := hl
  refine lv_iconst (v := (0)) hx hb dX10_carry_0 (by decide) ?_
  refine lv_istore_n (lv' := [(2, .int (0)), (0, .ref (ad (1000))), (1, .ref (ad (1012)))]) hx hb dX10_carry_1 rfl hl (by decide) rfl (fun ls hl => ?_)
  have loop2 : ∀ (n : Nat) (x2_2 : Int32) (Ia2 : MI) (La2 : ML) (H : Heap) (locs : List Loc) (ls : Array Slot), INV Ia2 → Kp [(1012, 1013), (1076, 1077)] [(1000, 78)] I Ia2 → (0 ≤ x2_2.toInt ∧ x2_2.toInt ≤ 24) → ((Ia2 1000 78).toInt = 2720 * (kk : Int) + 2434 + (x2_2).toInt) → ((I 1000 79).toInt = 0 → SV kk [(1012, 2434, (x2_2).toNatClampNeg)] I Ia2) → ((I 1000 79).toInt ≠ 0 → LD kk [(1012, 2434, (x2_2).toNatClampNeg)] I Ia2) → (24 - x2_2.toInt).toNat < n → Mem D A ad ns Ia2 La2 G H → va_S A s.heap H locs → lv_has ls 3 [(2, .int (x2_2)), (0, .ref (ad (1000))), (1, .ref (ad (1012)))] → W p l e ({ frames := 0, cells := 0, slots := 0, locals := 0 } : Room) s m args below meth c H locs 0 0 (MQ below (va_Qv (fun u => ∃ I2 L2, u = (ad, ns, I2, L2, G) ∧ INV I2 ∧ Kp [(1012, 1013), (1076, 1077)] [(1000, 78)] I I2 ∧ ((I2 1000 78).toInt = 2720 * (kk : Int) + 2458 ∧ ((I 1000 79).toInt = 0 → SV kk [(1012, 2434, 24)] I I2) ∧ ((I 1000 79).toInt ≠ 0 → LD kk [(1012, 2434, 24)] I I2))) (BM D A) A) args s 0 0 A) (F0 m 2 ls []) := by
    intro n
    induction n with
    | zero =>
      intro x2_2 Ia2 La2 H locs ls hI hK hr2_2 hat3 hv2 hw2 hmu
      exact absurd hmu (Nat.not_lt_zero _)
    | succ n ih2 =>
      intro x2_2 Ia2 La2 H locs ls hI hK hr2_2 hat3 hv2 hw2 hmu2 hM hS hl
      have hK0 := hK
      refine lv_iload_n hx hb dX10_carry_2 rfl (lv_at hl 0 rfl) ?_
      refine lv_aload_n hx hb dX10_carry_3 rfl (lv_at hl 2 rfl) ?_
      refine m_alen 1012 (t0 := 0) (v := 24) hx hb hE hM (hJ.2 12 (by decide)).1 rfl (by decide) rfl rfl dX10_carry_4 ?_
      refine lv_icmp_ge (tgt := 58) hx hb dX10_carry_5 (by decide) (fun c1 => ?_) (fun c1 => ?_)
      · have hc1 := c1
        have q1 := q_le hc1
        exact m_vret hx hb hr hlocks hM hS (Nat.le_of_ble_eq_true rfl) (Nat.le_of_ble_eq_true rfl) ⟨_, _, rfl, hI, hK, (by have hz := cl_of (k := x2_2) (n := 24) (by omega); rw [hz] at hv2 hw2; exact ⟨by omega, hv2, hw2⟩)⟩ dX10_carry_58
      · have hc1 := c1
        have q1 := q_nle hc1
        refine lv_aload_n hx hb dX10_carry_8 rfl (lv_at hl 1 rfl) ?_
        refine m_geti (1000) 79 hx hb hts hown hE oc10 hM hJ.1 rfl (by decide) rfl tb_1256 dX10_carry_9 ?_
        have g2 := hI.get (1000) 79 (lo := 0) (hi := 1) rfl
        refine lv_if_eq (tgt := 30) hx hb dX10_carry_12 (by decide) (fun c3 => ?_) (fun c3 => ?_)
        · have hc3 := c3
          have q3 := q_eq hc3
          refine lv_aload_n hx hb dX10_carry_30 rfl (lv_at hl 1 rfl) ?_
          refine m_getr (1000) 76 (1076) hx hb hts hown hE oc10 hM hJ.1 rfl (by decide) rfl (hJ.2 76 (by decide)).2 (by decide) tb_1253 dX10_carry_31 ?_
          refine lv_aload_n hx hb dX10_carry_34 rfl (lv_at hl 1 rfl) ?_
          refine m_geti (1000) 78 hx hb hts hown hE oc10 hM hJ.1 rfl (by decide) rfl tb_1255 dX10_carry_35 ?_
          have g4 := hI.get (1000) 78 (lo := 0) (hi := 10880) rfl
          refine lv_aload_n hx hb dX10_carry_38 rfl (lv_at hl 2 rfl) ?_
          refine lv_iload_n hx hb dX10_carry_39 rfl (lv_at hl 0 rfl) ?_
          refine m_iald (1012) hx hb hE hM (hJ.2 12 (by decide)).1 rfl (vp_in_iff.mpr (by omega)) dX10_carry_40 ?_
          refine m_iast (1076) hx hb hE hM hS (hJ.2 76 (by decide)).1 rfl (vp_in_iff.mpr (by omega)) dX10_carry_41 (fun H locs I5 eI5 hM hS => ?_)
          subst eI5
          have hat2 : (Ia2 1000 78).toInt = 2720 * (kk : Int) + 2434 + (x2_2).toInt := hat3
          have hk0 : 0 ≤ (x2_2).toInt := by omega
          have hkn : (x2_2).toInt < 24 := by omega
          have hI := hI.putx (n := 1076) (k := ((Ia2 (1000) 78).toNatClampNeg)) (v := Ia2 (1012) (x2_2).toNatClampNeg) (by rw [rgimF (kk := kk) (b := 2434) (n := 24) (N := 1012) (a := Ia2 1000 78) (k := x2_2) (by decide) rfl (by omega) hk0 (by omega)]; exact hI _ _)
          have hK := hK.put (n := 1076) (k := ((Ia2 (1000) 78).toNatClampNeg)) (v := Ia2 (1012) (x2_2).toNatClampNeg) (by first | rfl | simp [inR])
          refine lv_aload_n hx hb dX10_carry_42 rfl (lv_at hl 1 rfl) ?_
          refine lv_dup hx hb dX10_carry_43 rfl ?_
          refine m_geti (1000) 78 hx hb hts hown hE oc10 hM hJ.1 rfl (by decide) rfl tb_1255 dX10_carry_44 ?_
          have z6 : (u2 Ia2 (1076) ((Ia2 (1000) 78).toNatClampNeg) (Ia2 (1012) (x2_2).toNatClampNeg)) (1000) 78 = Ia2 (1000) 78 := (show (u2 Ia2 (1076) ((Ia2 (1000) 78).toNatClampNeg) (Ia2 (1012) (x2_2).toNatClampNeg)) (1000) 78 = Ia2 (1000) 78 from by simp [u2_v])
          rw [z6]
          refine lv_iconst (v := (1)) hx hb dX10_carry_47 (by decide) ?_
          refine lv_iadd hx hb dX10_carry_48 ?_
          refine lv_topi (fun v7 ev7 => ?_)
          have tv7 := a_add ev7 (by omega) (by omega)
          refine m_puti (1000) 78 hx hb hts hown hE oc10 hM hS hJ.1 rfl (by decide) rfl rfl rfl rfl tb_1255 dX10_carry_49 (fun H locs I8 eI8 hM hS => ?_)
          subst eI8
          have hI := hI.put (n := 1000) (k := 78) (v := v7) (lo := 0) (hi := 10880) rfl (by first | omega | decide)
          have hK := hK.put (n := 1000) (k := 78) (v := v7) (by first | rfl | simp [inR])
          obtain ⟨v9, ev9⟩ : ∃ z : Int32, z = x2_2 + Int32.ofInt (1) := ⟨_, rfl⟩
          have tv9 := a_inc ev9 (by decide) (by omega) (by omega)
          refine lv_iinc (v := v9) (lv' := [(2, .int (v9)), (0, .ref (ad (1000))), (1, .ref (ad (1012)))]) hx hb dX10_carry_52 hl (k := 0) rfl ev9.symm (by decide) rfl (fun ls hl => ?_)
          refine lv_goto (tgt := 2) hx hb dX10_carry_55 (by decide) ?_
          exact ih2 (v9) (u2 (u2 Ia2 (1076) ((Ia2 (1000) 78).toNatClampNeg) (Ia2 (1012) (x2_2).toNatClampNeg)) (1000) 78 (v7)) La2 _ _ ls hI hK (by first | omega | decide) (by rw [u2_self]; omega) (fun _ => SV.step (hv2 (by have hq := congrArg Int32.toInt (hK0.get 1000 79 rfl); omega)) (by omega) (by omega) (by decide) (by omega)) (fun hz => absurd (show (I 1000 79).toInt = 0 by have hq := congrArg Int32.toInt (hK0.get 1000 79 rfl); omega) hz) (by omega) hM hS (lv_sub hl [0, 1, 2] rfl)
        · have hc3 := c3
          have q3 := q_ne hc3
          refine lv_aload_n hx hb dX10_carry_15 rfl (lv_at hl 2 rfl) ?_
          refine lv_iload_n hx hb dX10_carry_16 rfl (lv_at hl 0 rfl) ?_
          refine lv_aload_n hx hb dX10_carry_17 rfl (lv_at hl 1 rfl) ?_
          refine m_getr (1000) 76 (1076) hx hb hts hown hE oc10 hM hJ.1 rfl (by decide) rfl (hJ.2 76 (by decide)).2 (by decide) tb_1253 dX10_carry_18 ?_
          refine lv_aload_n hx hb dX10_carry_21 rfl (lv_at hl 1 rfl) ?_
          refine m_geti (1000) 78 hx hb hts hown hE oc10 hM hJ.1 rfl (by decide) rfl tb_1255 dX10_carry_22 ?_
          have g10 := hI.get (1000) 78 (lo := 0) (hi := 10880) rfl
          refine m_iald (1076) hx hb hE hM (hJ.2 76 (by decide)).1 rfl (vp_in_iff.mpr (by omega)) dX10_carry_25 ?_
          refine m_iast (1012) hx hb hE hM hS (hJ.2 12 (by decide)).1 rfl (vp_in_iff.mpr (by omega)) dX10_carry_26 (fun H locs I11 eI11 hM hS => ?_)
          subst eI11
          have hat2 : (Ia2 1000 78).toInt = 2720 * (kk : Int) + 2434 + (x2_2).toInt := hat3
          have hk0 : 0 ≤ (x2_2).toInt := by omega
          have hkn : (x2_2).toInt < 24 := by omega
          have hI := hI.putx (n := 1012) (k := ((x2_2).toNatClampNeg)) (v := Ia2 (1076) (Ia2 (1000) 78).toNatClampNeg) (by rw [← rgimF (kk := kk) (b := 2434) (n := 24) (N := 1012) (a := Ia2 1000 78) (k := x2_2) (by decide) rfl (by omega) hk0 (by omega)]; exact hI _ _)
          have hK := hK.put (n := 1012) (k := ((x2_2).toNatClampNeg)) (v := Ia2 (1076) (Ia2 (1000) 78).toNatClampNeg) (by first | rfl | simp [inR])
          refine lv_goto (tgt := 42) hx hb dX10_carry_27 (by decide) ?_
          refine lv_aload_n hx hb dX10_carry_42 rfl (lv_at hl 1 rfl) ?_
          refine lv_dup hx hb dX10_carry_43 rfl ?_
          refine m_geti (1000) 78 hx hb hts hown hE oc10 hM hJ.1 rfl (by decide) rfl tb_1255 dX10_carry_44 ?_
          have z12 : (u2 Ia2 (1012) ((x2_2).toNatClampNeg) (Ia2 (1076) (Ia2 (1000) 78).toNatClampNeg)) (1000) 78 = Ia2 (1000) 78 := (show (u2 Ia2 (1012) ((x2_2).toNatClampNeg) (Ia2 (1076) (Ia2 (1000) 78).toNatClampNeg)) (1000) 78 = Ia2 (1000) 78 from by simp [u2_v])
          rw [z12]
          refine lv_iconst (v := (1)) hx hb dX10_carry_47 (by decide) ?_
          refine lv_iadd hx hb dX10_carry_48 ?_
          refine lv_topi (fun v13 ev13 => ?_)
          have tv13 := a_add ev13 (by omega) (by omega)
          refine m_puti (1000) 78 hx hb hts hown hE oc10 hM hS hJ.1 rfl (by decide) rfl rfl rfl rfl tb_1255 dX10_carry_49 (fun H locs I14 eI14 hM hS => ?_)
          subst eI14
          have hI := hI.put (n := 1000) (k := 78) (v := v13) (lo := 0) (hi := 10880) rfl (by first | omega | decide)
          have hK := hK.put (n := 1000) (k := 78) (v := v13) (by first | rfl | simp [inR])
          obtain ⟨v15, ev15⟩ : ∃ z : Int32, z = x2_2 + Int32.ofInt (1) := ⟨_, rfl⟩
          have tv15 := a_inc ev15 (by decide) (by omega) (by omega)
          refine lv_iinc (v := v15) (lv' := [(2, .int (v15)), (0, .ref (ad (1000))), (1, .ref (ad (1012)))]) hx hb dX10_carry_52 hl (k := 0) rfl ev15.symm (by decide) rfl (fun ls hl => ?_)
          refine lv_goto (tgt := 2) hx hb dX10_carry_55 (by decide) ?_
          exact ih2 (v15) (u2 (u2 Ia2 (1012) ((x2_2).toNatClampNeg) (Ia2 (1076) (Ia2 (1000) 78).toNatClampNeg)) (1000) 78 (v13)) La2 _ _ ls hI hK (by first | omega | decide) (by rw [u2_self]; omega) (fun hz => absurd hz (show (I 1000 79).toInt ≠ 0 by have hq := congrArg Int32.toInt (hK0.get 1000 79 rfl); omega)) (fun hz => LD.step (hw2 hz) (by omega) (by omega) (by decide) (by omega)) (by omega) hM hS (lv_sub hl [0, 1, 2] rfl)
  exact loop2 (_ + 1) (0) I L _ _ ls hI hK (by first | omega | decide) (by omega) (fun _ => SV.z (by decide)) (fun _ => LD.z (by decide)) (Nat.lt_succ_self _) hM hS (lv_sub hl [0, 1, 2] rfl)
set_option maxHeartbeats 4000000 in
set_option maxRecDepth 20000 in
theorem V_X10_carry_1013 (l : Launch) (D : va_G) (A : Nat → Prop) (ad : Nat → Nat) (ns : List Nat) (I : MI) (L : ML) (G : MG) (kk : Nat) (hJ : SGM ns G) (hI : INV I) (hk4 : kk < 4) (hat : (I 1000 78).toInt = 2720 * (kk : Int) + 2458) : Met l yX10_carry (wd yX10_carry cX10_carry 3 none) ({ frames := 0, cells := 0, slots := 0, locals := 0 }) (va_Pc [.ref (ad (1000)), .ref (ad (1013))] (PM D A ad ns I L G)) (va_Qv (fun u => ∃ I2 L2, u = (ad, ns, I2, L2, G) ∧ INV I2 ∧ Kp [(1013, 1014), (1076, 1077)] [(1000, 78)] I I2 ∧ ((I2 1000 78).toInt = 2720 * (kk : Int) + 2482 ∧ ((I 1000 79).toInt = 0 → SV kk [(1013, 2458, 24)] I I2) ∧ ((I 1000 79).toInt ≠ 0 → LD kk [(1013, 2458, 24)] I I2))) (BM D A) A) 0 0 A := by
  refine m_ofW (by decide) (Nat.le_of_ble_eq_true rfl) ?_
  intro p e s m below meth c ls args hC hE hM hA hS hl
  obtain ⟨hx, hb, hml, hown, hts, hr, hlocks, hin⟩ := hC
  have k0 : (0 : Int32).toInt = 0 := by decide
  have k1 : (1 : Int32).toInt = 1 := by decide
  have k24 : (24 : Int32).toInt = 24 := by decide
  have hK : Kp [(1013, 1014), (1076, 1077)] [(1000, 78)] I I := Kp.rf
  have hl : lv_has ls 3 [(0, .ref (ad (1000))), (1, .ref (ad (1013)))] := hl
  refine lv_iconst (v := (0)) hx hb dX10_carry_0 (by decide) ?_
  refine lv_istore_n (lv' := [(2, .int (0)), (0, .ref (ad (1000))), (1, .ref (ad (1013)))]) hx hb dX10_carry_1 rfl hl (by decide) rfl (fun ls hl => ?_)
  have loop2 : ∀ (n : Nat) (x2_2 : Int32) (Ia2 : MI) (La2 : ML) (H : Heap) (locs : List Loc) (ls : Array Slot), INV Ia2 → Kp [(1013, 1014), (1076, 1077)] [(1000, 78)] I Ia2 → (0 ≤ x2_2.toInt ∧ x2_2.toInt ≤ 24) → ((Ia2 1000 78).toInt = 2720 * (kk : Int) + 2458 + (x2_2).toInt) → ((I 1000 79).toInt = 0 → SV kk [(1013, 2458, (x2_2).toNatClampNeg)] I Ia2) → ((I 1000 79).toInt ≠ 0 → LD kk [(1013, 2458, (x2_2).toNatClampNeg)] I Ia2) → (24 - x2_2.toInt).toNat < n → Mem D A ad ns Ia2 La2 G H → va_S A s.heap H locs → lv_has ls 3 [(2, .int (x2_2)), (0, .ref (ad (1000))), (1, .ref (ad (1013)))] → W p l e ({ frames := 0, cells := 0, slots := 0, locals := 0 } : Room) s m args below meth c H locs 0 0 (MQ below (va_Qv (fun u => ∃ I2 L2, u = (ad, ns, I2, L2, G) ∧ INV I2 ∧ Kp [(1013, 1014), (1076, 1077)] [(1000, 78)] I I2 ∧ ((I2 1000 78).toInt = 2720 * (kk : Int) + 2482 ∧ ((I 1000 79).toInt = 0 → SV kk [(1013, 2458, 24)] I I2) ∧ ((I 1000 79).toInt ≠ 0 → LD kk [(1013, 2458, 24)] I I2))) (BM D A) A) args s 0 0 A) (F0 m 2 ls []) := by
    intro n
    induction n with
    | zero =>
      intro x2_2 Ia2 La2 H locs ls hI hK hr2_2 hat3 hv2 hw2 hmu
      exact absurd hmu (Nat.not_lt_zero _)
    | succ n ih2 =>
      intro x2_2 Ia2 La2 H locs ls hI hK hr2_2 hat3 hv2 hw2 hmu2 hM hS hl
      have hK0 := hK
      refine lv_iload_n hx hb dX10_carry_2 rfl (lv_at hl 0 rfl) ?_
      refine lv_aload_n hx hb dX10_carry_3 rfl (lv_at hl 2 rfl) ?_
      refine m_alen 1013 (t0 := 0) (v := 24) hx hb hE hM (hJ.2 13 (by decide)).1 rfl (by decide) rfl rfl dX10_carry_4 ?_
      refine lv_icmp_ge (tgt := 58) hx hb dX10_carry_5 (by decide) (fun c1 => ?_) (fun c1 => ?_)
      · have hc1 := c1
        have q1 := q_le hc1
        exact m_vret hx hb hr hlocks hM hS (Nat.le_of_ble_eq_true rfl) (Nat.le_of_ble_eq_true rfl) ⟨_, _, rfl, hI, hK, (by have hz := cl_of (k := x2_2) (n := 24) (by omega); rw [hz] at hv2 hw2; exact ⟨by omega, hv2, hw2⟩)⟩ dX10_carry_58
      · have hc1 := c1
        have q1 := q_nle hc1
        refine lv_aload_n hx hb dX10_carry_8 rfl (lv_at hl 1 rfl) ?_
        refine m_geti (1000) 79 hx hb hts hown hE oc10 hM hJ.1 rfl (by decide) rfl tb_1256 dX10_carry_9 ?_
        have g2 := hI.get (1000) 79 (lo := 0) (hi := 1) rfl
        refine lv_if_eq (tgt := 30) hx hb dX10_carry_12 (by decide) (fun c3 => ?_) (fun c3 => ?_)
        · have hc3 := c3
          have q3 := q_eq hc3
          refine lv_aload_n hx hb dX10_carry_30 rfl (lv_at hl 1 rfl) ?_
          refine m_getr (1000) 76 (1076) hx hb hts hown hE oc10 hM hJ.1 rfl (by decide) rfl (hJ.2 76 (by decide)).2 (by decide) tb_1253 dX10_carry_31 ?_
          refine lv_aload_n hx hb dX10_carry_34 rfl (lv_at hl 1 rfl) ?_
          refine m_geti (1000) 78 hx hb hts hown hE oc10 hM hJ.1 rfl (by decide) rfl tb_1255 dX10_carry_35 ?_
          have g4 := hI.get (1000) 78 (lo := 0) (hi := 10880) rfl
          refine lv_aload_n hx hb dX10_carry_38 rfl (lv_at hl 2 rfl) ?_
          refine lv_iload_n hx hb dX10_carry_39 rfl (lv_at hl 0 rfl) ?_
          refine m_iald (1013) hx hb hE hM (hJ.2 13 (by decide)).1 rfl (vp_in_iff.mpr (by omega)) dX10_carry_40 ?_
          refine m_iast (1076) hx hb hE hM hS (hJ.2 76 (by decide)).1 rfl (vp_in_iff.mpr (by omega)) dX10_carry_41 (fun H locs I5 eI5 hM hS => ?_)
          subst eI5
          have hat2 : (Ia2 1000 78).toInt = 2720 * (kk : Int) + 2458 + (x2_2).toInt := hat3
          have hk0 : 0 ≤ (x2_2).toInt := by omega
          have hkn : (x2_2).toInt < 24 := by omega
          have hI := hI.putx (n := 1076) (k := ((Ia2 (1000) 78).toNatClampNeg)) (v := Ia2 (1013) (x2_2).toNatClampNeg) (by rw [rgimF (kk := kk) (b := 2458) (n := 24) (N := 1013) (a := Ia2 1000 78) (k := x2_2) (by decide) rfl (by omega) hk0 (by omega)]; exact hI _ _)
          have hK := hK.put (n := 1076) (k := ((Ia2 (1000) 78).toNatClampNeg)) (v := Ia2 (1013) (x2_2).toNatClampNeg) (by first | rfl | simp [inR])
          refine lv_aload_n hx hb dX10_carry_42 rfl (lv_at hl 1 rfl) ?_
          refine lv_dup hx hb dX10_carry_43 rfl ?_
          refine m_geti (1000) 78 hx hb hts hown hE oc10 hM hJ.1 rfl (by decide) rfl tb_1255 dX10_carry_44 ?_
          have z6 : (u2 Ia2 (1076) ((Ia2 (1000) 78).toNatClampNeg) (Ia2 (1013) (x2_2).toNatClampNeg)) (1000) 78 = Ia2 (1000) 78 := (show (u2 Ia2 (1076) ((Ia2 (1000) 78).toNatClampNeg) (Ia2 (1013) (x2_2).toNatClampNeg)) (1000) 78 = Ia2 (1000) 78 from by simp [u2_v])
          rw [z6]
          refine lv_iconst (v := (1)) hx hb dX10_carry_47 (by decide) ?_
          refine lv_iadd hx hb dX10_carry_48 ?_
          refine lv_topi (fun v7 ev7 => ?_)
          have tv7 := a_add ev7 (by omega) (by omega)
          refine m_puti (1000) 78 hx hb hts hown hE oc10 hM hS hJ.1 rfl (by decide) rfl rfl rfl rfl tb_1255 dX10_carry_49 (fun H locs I8 eI8 hM hS => ?_)
          subst eI8
          have hI := hI.put (n := 1000) (k := 78) (v := v7) (lo := 0) (hi := 10880) rfl (by first | omega | decide)
          have hK := hK.put (n := 1000) (k := 78) (v := v7) (by first | rfl | simp [inR])
          obtain ⟨v9, ev9⟩ : ∃ z : Int32, z = x2_2 + Int32.ofInt (1) := ⟨_, rfl⟩
          have tv9 := a_inc ev9 (by decide) (by omega) (by omega)
          refine lv_iinc (v := v9) (lv' := [(2, .int (v9)), (0, .ref (ad (1000))), (1, .ref (ad (1013)))]) hx hb dX10_carry_52 hl (k := 0) rfl ev9.symm (by decide) rfl (fun ls hl => ?_)
          refine lv_goto (tgt := 2) hx hb dX10_carry_55 (by decide) ?_
          exact ih2 (v9) (u2 (u2 Ia2 (1076) ((Ia2 (1000) 78).toNatClampNeg) (Ia2 (1013) (x2_2).toNatClampNeg)) (1000) 78 (v7)) La2 _ _ ls hI hK (by first | omega | decide) (by rw [u2_self]; omega) (fun _ => SV.step (hv2 (by have hq := congrArg Int32.toInt (hK0.get 1000 79 rfl); omega)) (by omega) (by omega) (by decide) (by omega)) (fun hz => absurd (show (I 1000 79).toInt = 0 by have hq := congrArg Int32.toInt (hK0.get 1000 79 rfl); omega) hz) (by omega) hM hS (lv_sub hl [0, 1, 2] rfl)
        · have hc3 := c3
          have q3 := q_ne hc3
          refine lv_aload_n hx hb dX10_carry_15 rfl (lv_at hl 2 rfl) ?_
          refine lv_iload_n hx hb dX10_carry_16 rfl (lv_at hl 0 rfl) ?_
          refine lv_aload_n hx hb dX10_carry_17 rfl (lv_at hl 1 rfl) ?_
          refine m_getr (1000) 76 (1076) hx hb hts hown hE oc10 hM hJ.1 rfl (by decide) rfl (hJ.2 76 (by decide)).2 (by decide) tb_1253 dX10_carry_18 ?_
          refine lv_aload_n hx hb dX10_carry_21 rfl (lv_at hl 1 rfl) ?_
          refine m_geti (1000) 78 hx hb hts hown hE oc10 hM hJ.1 rfl (by decide) rfl tb_1255 dX10_carry_22 ?_
          have g10 := hI.get (1000) 78 (lo := 0) (hi := 10880) rfl
          refine m_iald (1076) hx hb hE hM (hJ.2 76 (by decide)).1 rfl (vp_in_iff.mpr (by omega)) dX10_carry_25 ?_
          refine m_iast (1013) hx hb hE hM hS (hJ.2 13 (by decide)).1 rfl (vp_in_iff.mpr (by omega)) dX10_carry_26 (fun H locs I11 eI11 hM hS => ?_)
          subst eI11
          have hat2 : (Ia2 1000 78).toInt = 2720 * (kk : Int) + 2458 + (x2_2).toInt := hat3
          have hk0 : 0 ≤ (x2_2).toInt := by omega
          have hkn : (x2_2).toInt < 24 := by omega
          have hI := hI.putx (n := 1013) (k := ((x2_2).toNatClampNeg)) (v := Ia2 (1076) (Ia2 (1000) 78).toNatClampNeg) (by rw [← rgimF (kk := kk) (b := 2458) (n := 24) (N := 1013) (a := Ia2 1000 78) (k := x2_2) (by decide) rfl (by omega) hk0 (by omega)]; exact hI _ _)
          have hK := hK.put (n := 1013) (k := ((x2_2).toNatClampNeg)) (v := Ia2 (1076) (Ia2 (1000) 78).toNatClampNeg) (by first | rfl | simp [inR])
          refine lv_goto (tgt := 42) hx hb dX10_carry_27 (by decide) ?_
          refine lv_aload_n hx hb dX10_carry_42 rfl (lv_at hl 1 rfl) ?_
          refine lv_dup hx hb dX10_carry_43 rfl ?_
          refine m_geti (1000) 78 hx hb hts hown hE oc10 hM hJ.1 rfl (by decide) rfl tb_1255 dX10_carry_44 ?_
          have z12 : (u2 Ia2 (1013) ((x2_2).toNatClampNeg) (Ia2 (1076) (Ia2 (1000) 78).toNatClampNeg)) (1000) 78 = Ia2 (1000) 78 := (show (u2 Ia2 (1013) ((x2_2).toNatClampNeg) (Ia2 (1076) (Ia2 (1000) 78).toNatClampNeg)) (1000) 78 = Ia2 (1000) 78 from by simp [u2_v])
          rw [z12]
          refine lv_iconst (v := (1)) hx hb dX10_carry_47 (by decide) ?_
          refine lv_iadd hx hb dX10_carry_48 ?_
          refine lv_topi (fun v13 ev13 => ?_)
          have tv13 := a_add ev13 (by omega) (by omega)
          refine m_puti (1000) 78 hx hb hts hown hE oc10 hM hS hJ.1 rfl (by decide) rfl rfl rfl rfl tb_1255 dX10_carry_49 (fun H locs I14 eI14 hM hS => ?_)
          subst eI14
          have hI := hI.put (n := 1000) (k := 78) (v := v13) (lo := 0) (hi := 10880) rfl (by first | omega | decide)
          have hK := hK.put (n := 1000) (k := 78) (v := v13) (by first | rfl | simp [inR])
          obtain ⟨v15, ev15⟩ : ∃ z : Int32, z = x2_2 + Int32.ofInt (1) := ⟨_, rfl⟩
          have tv15 := a_inc ev15 (by decide) (by omega) (by omega)
          refine lv_iinc (v := v15) (lv' := [(2, .int (v15)), (0, .ref (ad (1000))), (1, .ref (ad (1013)))]) hx hb dX10_carry_52 hl (k := 0) rfl ev15.symm (by decide) rfl (fun ls hl => ?_)
          refine lv_goto (tgt := 2) hx hb dX10_carry_55 (by decide) ?_
          exact ih2 (v15) (u2 (u2 Ia2 (1013) ((x2_2).toNatClampNeg) (Ia2 (1076) (Ia2 (1000) 78).toNatClampNeg)) (1000) 78 (v13)) La2 _ _ ls hI hK (by first | omega | decide) (by rw [u2_self]; omega) (fun hz => absurd hz (show (I 1000 79).toInt ≠ 0 by have hq := congrArg Int32.toInt (hK0.get 1000 79 rfl); omega)) (fun hz => LD.step (hw2 hz) (by omega) (by omega) (by decide) (by omega)) (by omega) hM hS (lv_sub hl [0, 1, 2] rfl)
  exact loop2 (_ + 1) (0) I L _ _ ls hI hK (by first | omega | decide) (by omega) (fun _ => SV.z (by decide)) (fun _ => LD.z (by decide)) (Nat.lt_succ_self _) hM hS (lv_sub hl [0, 1, 2] rfl)
set_option maxHeartbeats 4000000 in
set_option maxRecDepth 20000 in
theorem V_X10_carry_1014 (l : Launch) (D : va_G) (A : Nat → Prop) (ad : Nat → Nat) (ns : List Nat) (I : MI) (L : ML) (G : MG) (kk : Nat) (hJ : SGM ns G) (hI : INV I) (hk4 : kk < 4) (hat : (I 1000 78).toInt = 2720 * (kk : Int) + 2482) : Met l yX10_carry (wd yX10_carry cX10_carry 3 none) ({ frames := 0, cells := 0, slots := 0, locals := 0 }) (va_Pc [.ref (ad (1000)), .ref (ad (1014))] (PM D A ad ns I L G)) (va_Qv (fun u => ∃ I2 L2, u = (ad, ns, I2, L2, G) ∧ INV I2 ∧ Kp [(1014, 1015), (1076, 1077)] [(1000, 78)] I I2 ∧ ((I2 1000 78).toInt = 2720 * (kk : Int) + 2506 ∧ ((I 1000 79).toInt = 0 → SV kk [(1014, 2482, 24)] I I2) ∧ ((I 1000 79).toInt ≠ 0 → LD kk [(1014, 2482, 24)] I I2))) (BM D A) A) 0 0 A := by
  refine m_ofW (by decide) (Nat.le_of_ble_eq_true rfl) ?_
  intro p e s m below meth c ls args hC hE hM hA hS hl
  obtain ⟨hx, hb, hml, hown, hts, hr, hlocks, hin⟩ := hC
  have k0 : (0 : Int32).toInt = 0 := by decide
  have k1 : (1 : Int32).toInt = 1 := by decide
  have k24 : (24 : Int32).toInt = 24 := by decide
  have hK : Kp [(1014, 1015), (1076, 1077)] [(1000, 78)] I I := Kp.rf
  have hl : lv_has ls 3 [(0, .ref (ad (1000))), (1, .ref (ad (1014)))] := hl
  refine lv_iconst (v := (0)) hx hb dX10_carry_0 (by decide) ?_
  refine lv_istore_n (lv' := [(2, .int (0)), (0, .ref (ad (1000))), (1, .ref (ad (1014)))]) hx hb dX10_carry_1 rfl hl (by decide) rfl (fun ls hl => ?_)
  have loop2 : ∀ (n : Nat) (x2_2 : Int32) (Ia2 : MI) (La2 : ML) (H : Heap) (locs : List Loc) (ls : Array Slot), INV Ia2 → Kp [(1014, 1015), (1076, 1077)] [(1000, 78)] I Ia2 → (0 ≤ x2_2.toInt ∧ x2_2.toInt ≤ 24) → ((Ia2 1000 78).toInt = 2720 * (kk : Int) + 2482 + (x2_2).toInt) → ((I 1000 79).toInt = 0 → SV kk [(1014, 2482, (x2_2).toNatClampNeg)] I Ia2) → ((I 1000 79).toInt ≠ 0 → LD kk [(1014, 2482, (x2_2).toNatClampNeg)] I Ia2) → (24 - x2_2.toInt).toNat < n → Mem D A ad ns Ia2 La2 G H → va_S A s.heap H locs → lv_has ls 3 [(2, .int (x2_2)), (0, .ref (ad (1000))), (1, .ref (ad (1014)))] → W p l e ({ frames := 0, cells := 0, slots := 0, locals := 0 } : Room) s m args below meth c H locs 0 0 (MQ below (va_Qv (fun u => ∃ I2 L2, u = (ad, ns, I2, L2, G) ∧ INV I2 ∧ Kp [(1014, 1015), (1076, 1077)] [(1000, 78)] I I2 ∧ ((I2 1000 78).toInt = 2720 * (kk : Int) + 2506 ∧ ((I 1000 79).toInt = 0 → SV kk [(1014, 2482, 24)] I I2) ∧ ((I 1000 79).toInt ≠ 0 → LD kk [(1014, 2482, 24)] I I2))) (BM D A) A) args s 0 0 A) (F0 m 2 ls []) := by
    intro n
    induction n with
    | zero =>
      intro x2_2 Ia2 La2 H locs ls hI hK hr2_2 hat3 hv2 hw2 hmu
      exact absurd hmu (Nat.not_lt_zero _)
    | succ n ih2 =>
      intro x2_2 Ia2 La2 H locs ls hI hK hr2_2 hat3 hv2 hw2 hmu2 hM hS hl
      have hK0 := hK
      refine lv_iload_n hx hb dX10_carry_2 rfl (lv_at hl 0 rfl) ?_
      refine lv_aload_n hx hb dX10_carry_3 rfl (lv_at hl 2 rfl) ?_
      refine m_alen 1014 (t0 := 0) (v := 24) hx hb hE hM (hJ.2 14 (by decide)).1 rfl (by decide) rfl rfl dX10_carry_4 ?_
      refine lv_icmp_ge (tgt := 58) hx hb dX10_carry_5 (by decide) (fun c1 => ?_) (fun c1 => ?_)
      · have hc1 := c1
        have q1 := q_le hc1
        exact m_vret hx hb hr hlocks hM hS (Nat.le_of_ble_eq_true rfl) (Nat.le_of_ble_eq_true rfl) ⟨_, _, rfl, hI, hK, (by have hz := cl_of (k := x2_2) (n := 24) (by omega); rw [hz] at hv2 hw2; exact ⟨by omega, hv2, hw2⟩)⟩ dX10_carry_58
      · have hc1 := c1
        have q1 := q_nle hc1
        refine lv_aload_n hx hb dX10_carry_8 rfl (lv_at hl 1 rfl) ?_
        refine m_geti (1000) 79 hx hb hts hown hE oc10 hM hJ.1 rfl (by decide) rfl tb_1256 dX10_carry_9 ?_
        have g2 := hI.get (1000) 79 (lo := 0) (hi := 1) rfl
        refine lv_if_eq (tgt := 30) hx hb dX10_carry_12 (by decide) (fun c3 => ?_) (fun c3 => ?_)
        · have hc3 := c3
          have q3 := q_eq hc3
          refine lv_aload_n hx hb dX10_carry_30 rfl (lv_at hl 1 rfl) ?_
          refine m_getr (1000) 76 (1076) hx hb hts hown hE oc10 hM hJ.1 rfl (by decide) rfl (hJ.2 76 (by decide)).2 (by decide) tb_1253 dX10_carry_31 ?_
          refine lv_aload_n hx hb dX10_carry_34 rfl (lv_at hl 1 rfl) ?_
          refine m_geti (1000) 78 hx hb hts hown hE oc10 hM hJ.1 rfl (by decide) rfl tb_1255 dX10_carry_35 ?_
          have g4 := hI.get (1000) 78 (lo := 0) (hi := 10880) rfl
          refine lv_aload_n hx hb dX10_carry_38 rfl (lv_at hl 2 rfl) ?_
          refine lv_iload_n hx hb dX10_carry_39 rfl (lv_at hl 0 rfl) ?_
          refine m_iald (1014) hx hb hE hM (hJ.2 14 (by decide)).1 rfl (vp_in_iff.mpr (by omega)) dX10_carry_40 ?_
          refine m_iast (1076) hx hb hE hM hS (hJ.2 76 (by decide)).1 rfl (vp_in_iff.mpr (by omega)) dX10_carry_41 (fun H locs I5 eI5 hM hS => ?_)
          subst eI5
          have hat2 : (Ia2 1000 78).toInt = 2720 * (kk : Int) + 2482 + (x2_2).toInt := hat3
          have hk0 : 0 ≤ (x2_2).toInt := by omega
          have hkn : (x2_2).toInt < 24 := by omega
          have hI := hI.putx (n := 1076) (k := ((Ia2 (1000) 78).toNatClampNeg)) (v := Ia2 (1014) (x2_2).toNatClampNeg) (by rw [rgimF (kk := kk) (b := 2482) (n := 24) (N := 1014) (a := Ia2 1000 78) (k := x2_2) (by decide) rfl (by omega) hk0 (by omega)]; exact hI _ _)
          have hK := hK.put (n := 1076) (k := ((Ia2 (1000) 78).toNatClampNeg)) (v := Ia2 (1014) (x2_2).toNatClampNeg) (by first | rfl | simp [inR])
          refine lv_aload_n hx hb dX10_carry_42 rfl (lv_at hl 1 rfl) ?_
          refine lv_dup hx hb dX10_carry_43 rfl ?_
          refine m_geti (1000) 78 hx hb hts hown hE oc10 hM hJ.1 rfl (by decide) rfl tb_1255 dX10_carry_44 ?_
          have z6 : (u2 Ia2 (1076) ((Ia2 (1000) 78).toNatClampNeg) (Ia2 (1014) (x2_2).toNatClampNeg)) (1000) 78 = Ia2 (1000) 78 := (show (u2 Ia2 (1076) ((Ia2 (1000) 78).toNatClampNeg) (Ia2 (1014) (x2_2).toNatClampNeg)) (1000) 78 = Ia2 (1000) 78 from by simp [u2_v])
          rw [z6]
          refine lv_iconst (v := (1)) hx hb dX10_carry_47 (by decide) ?_
          refine lv_iadd hx hb dX10_carry_48 ?_
          refine lv_topi (fun v7 ev7 => ?_)
          have tv7 := a_add ev7 (by omega) (by omega)
          refine m_puti (1000) 78 hx hb hts hown hE oc10 hM hS hJ.1 rfl (by decide) rfl rfl rfl rfl tb_1255 dX10_carry_49 (fun H locs I8 eI8 hM hS => ?_)
          subst eI8
          have hI := hI.put (n := 1000) (k := 78) (v := v7) (lo := 0) (hi := 10880) rfl (by first | omega | decide)
          have hK := hK.put (n := 1000) (k := 78) (v := v7) (by first | rfl | simp [inR])
          obtain ⟨v9, ev9⟩ : ∃ z : Int32, z = x2_2 + Int32.ofInt (1) := ⟨_, rfl⟩
          have tv9 := a_inc ev9 (by decide) (by omega) (by omega)
          refine lv_iinc (v := v9) (lv' := [(2, .int (v9)), (0, .ref (ad (1000))), (1, .ref (ad (1014)))]) hx hb dX10_carry_52 hl (k := 0) rfl ev9.symm (by decide) rfl (fun ls hl => ?_)
          refine lv_goto (tgt := 2) hx hb dX10_carry_55 (by decide) ?_
          exact ih2 (v9) (u2 (u2 Ia2 (1076) ((Ia2 (1000) 78).toNatClampNeg) (Ia2 (1014) (x2_2).toNatClampNeg)) (1000) 78 (v7)) La2 _ _ ls hI hK (by first | omega | decide) (by rw [u2_self]; omega) (fun _ => SV.step (hv2 (by have hq := congrArg Int32.toInt (hK0.get 1000 79 rfl); omega)) (by omega) (by omega) (by decide) (by omega)) (fun hz => absurd (show (I 1000 79).toInt = 0 by have hq := congrArg Int32.toInt (hK0.get 1000 79 rfl); omega) hz) (by omega) hM hS (lv_sub hl [0, 1, 2] rfl)
        · have hc3 := c3
          have q3 := q_ne hc3
          refine lv_aload_n hx hb dX10_carry_15 rfl (lv_at hl 2 rfl) ?_
          refine lv_iload_n hx hb dX10_carry_16 rfl (lv_at hl 0 rfl) ?_
          refine lv_aload_n hx hb dX10_carry_17 rfl (lv_at hl 1 rfl) ?_
          refine m_getr (1000) 76 (1076) hx hb hts hown hE oc10 hM hJ.1 rfl (by decide) rfl (hJ.2 76 (by decide)).2 (by decide) tb_1253 dX10_carry_18 ?_
          refine lv_aload_n hx hb dX10_carry_21 rfl (lv_at hl 1 rfl) ?_
          refine m_geti (1000) 78 hx hb hts hown hE oc10 hM hJ.1 rfl (by decide) rfl tb_1255 dX10_carry_22 ?_
          have g10 := hI.get (1000) 78 (lo := 0) (hi := 10880) rfl
          refine m_iald (1076) hx hb hE hM (hJ.2 76 (by decide)).1 rfl (vp_in_iff.mpr (by omega)) dX10_carry_25 ?_
          refine m_iast (1014) hx hb hE hM hS (hJ.2 14 (by decide)).1 rfl (vp_in_iff.mpr (by omega)) dX10_carry_26 (fun H locs I11 eI11 hM hS => ?_)
          subst eI11
          have hat2 : (Ia2 1000 78).toInt = 2720 * (kk : Int) + 2482 + (x2_2).toInt := hat3
          have hk0 : 0 ≤ (x2_2).toInt := by omega
          have hkn : (x2_2).toInt < 24 := by omega
          have hI := hI.putx (n := 1014) (k := ((x2_2).toNatClampNeg)) (v := Ia2 (1076) (Ia2 (1000) 78).toNatClampNeg) (by rw [← rgimF (kk := kk) (b := 2482) (n := 24) (N := 1014) (a := Ia2 1000 78) (k := x2_2) (by decide) rfl (by omega) hk0 (by omega)]; exact hI _ _)
          have hK := hK.put (n := 1014) (k := ((x2_2).toNatClampNeg)) (v := Ia2 (1076) (Ia2 (1000) 78).toNatClampNeg) (by first | rfl | simp [inR])
          refine lv_goto (tgt := 42) hx hb dX10_carry_27 (by decide) ?_
          refine lv_aload_n hx hb dX10_carry_42 rfl (lv_at hl 1 rfl) ?_
          refine lv_dup hx hb dX10_carry_43 rfl ?_
          refine m_geti (1000) 78 hx hb hts hown hE oc10 hM hJ.1 rfl (by decide) rfl tb_1255 dX10_carry_44 ?_
          have z12 : (u2 Ia2 (1014) ((x2_2).toNatClampNeg) (Ia2 (1076) (Ia2 (1000) 78).toNatClampNeg)) (1000) 78 = Ia2 (1000) 78 := (show (u2 Ia2 (1014) ((x2_2).toNatClampNeg) (Ia2 (1076) (Ia2 (1000) 78).toNatClampNeg)) (1000) 78 = Ia2 (1000) 78 from by simp [u2_v])
          rw [z12]
          refine lv_iconst (v := (1)) hx hb dX10_carry_47 (by decide) ?_
          refine lv_iadd hx hb dX10_carry_48 ?_
          refine lv_topi (fun v13 ev13 => ?_)
          have tv13 := a_add ev13 (by omega) (by omega)
          refine m_puti (1000) 78 hx hb hts hown hE oc10 hM hS hJ.1 rfl (by decide) rfl rfl rfl rfl tb_1255 dX10_carry_49 (fun H locs I14 eI14 hM hS => ?_)
          subst eI14
          have hI := hI.put (n := 1000) (k := 78) (v := v13) (lo := 0) (hi := 10880) rfl (by first | omega | decide)
          have hK := hK.put (n := 1000) (k := 78) (v := v13) (by first | rfl | simp [inR])
          obtain ⟨v15, ev15⟩ : ∃ z : Int32, z = x2_2 + Int32.ofInt (1) := ⟨_, rfl⟩
          have tv15 := a_inc ev15 (by decide) (by omega) (by omega)
          refine lv_iinc (v := v15) (lv' := [(2, .int (v15)), (0, .ref (ad (1000))), (1, .ref (ad (1014)))]) hx hb dX10_carry_52 hl (k := 0) rfl ev15.symm (by decide) rfl (fun ls hl => ?_)
          refine lv_goto (tgt := 2) hx hb dX10_carry_55 (by decide) ?_
          exact ih2 (v15) (u2 (u2 Ia2 (1014) ((x2_2).toNatClampNeg) (Ia2 (1076) (Ia2 (1000) 78).toNatClampNeg)) (1000) 78 (v13)) La2 _ _ ls hI hK (by first | omega | decide) (by rw [u2_self]; omega) (fun hz => absurd hz (show (I 1000 79).toInt ≠ 0 by have hq := congrArg Int32.toInt (hK0.get 1000 79 rfl); omega)) (fun hz => LD.step (hw2 hz) (by omega) (by omega) (by decide) (by omega)) (by omega) hM hS (lv_sub hl [0, 1, 2] rfl)
  exact loop2 (_ + 1) (0) I L _ _ ls hI hK (by first | omega | decide) (by omega) (fun _ => SV.z (by decide)) (fun _ => LD.z (by decide)) (Nat.lt_succ_self _) hM hS (lv_sub hl [0, 1, 2] rfl)
set_option maxHeartbeats 4000000 in
set_option maxRecDepth 20000 in
theorem V_X10_carry_1015 (l : Launch) (D : va_G) (A : Nat → Prop) (ad : Nat → Nat) (ns : List Nat) (I : MI) (L : ML) (G : MG) (kk : Nat) (hJ : SGM ns G) (hI : INV I) (hk4 : kk < 4) (hat : (I 1000 78).toInt = 2720 * (kk : Int) + 2506) : Met l yX10_carry (wd yX10_carry cX10_carry 3 none) ({ frames := 0, cells := 0, slots := 0, locals := 0 }) (va_Pc [.ref (ad (1000)), .ref (ad (1015))] (PM D A ad ns I L G)) (va_Qv (fun u => ∃ I2 L2, u = (ad, ns, I2, L2, G) ∧ INV I2 ∧ Kp [(1015, 1016), (1076, 1077)] [(1000, 78)] I I2 ∧ ((I2 1000 78).toInt = 2720 * (kk : Int) + 2530 ∧ ((I 1000 79).toInt = 0 → SV kk [(1015, 2506, 24)] I I2) ∧ ((I 1000 79).toInt ≠ 0 → LD kk [(1015, 2506, 24)] I I2))) (BM D A) A) 0 0 A := by
  refine m_ofW (by decide) (Nat.le_of_ble_eq_true rfl) ?_
  intro p e s m below meth c ls args hC hE hM hA hS hl
  obtain ⟨hx, hb, hml, hown, hts, hr, hlocks, hin⟩ := hC
  have k0 : (0 : Int32).toInt = 0 := by decide
  have k1 : (1 : Int32).toInt = 1 := by decide
  have k24 : (24 : Int32).toInt = 24 := by decide
  have hK : Kp [(1015, 1016), (1076, 1077)] [(1000, 78)] I I := Kp.rf
  have hl : lv_has ls 3 [(0, .ref (ad (1000))), (1, .ref (ad (1015)))] := hl
  refine lv_iconst (v := (0)) hx hb dX10_carry_0 (by decide) ?_
  refine lv_istore_n (lv' := [(2, .int (0)), (0, .ref (ad (1000))), (1, .ref (ad (1015)))]) hx hb dX10_carry_1 rfl hl (by decide) rfl (fun ls hl => ?_)
  have loop2 : ∀ (n : Nat) (x2_2 : Int32) (Ia2 : MI) (La2 : ML) (H : Heap) (locs : List Loc) (ls : Array Slot), INV Ia2 → Kp [(1015, 1016), (1076, 1077)] [(1000, 78)] I Ia2 → (0 ≤ x2_2.toInt ∧ x2_2.toInt ≤ 24) → ((Ia2 1000 78).toInt = 2720 * (kk : Int) + 2506 + (x2_2).toInt) → ((I 1000 79).toInt = 0 → SV kk [(1015, 2506, (x2_2).toNatClampNeg)] I Ia2) → ((I 1000 79).toInt ≠ 0 → LD kk [(1015, 2506, (x2_2).toNatClampNeg)] I Ia2) → (24 - x2_2.toInt).toNat < n → Mem D A ad ns Ia2 La2 G H → va_S A s.heap H locs → lv_has ls 3 [(2, .int (x2_2)), (0, .ref (ad (1000))), (1, .ref (ad (1015)))] → W p l e ({ frames := 0, cells := 0, slots := 0, locals := 0 } : Room) s m args below meth c H locs 0 0 (MQ below (va_Qv (fun u => ∃ I2 L2, u = (ad, ns, I2, L2, G) ∧ INV I2 ∧ Kp [(1015, 1016), (1076, 1077)] [(1000, 78)] I I2 ∧ ((I2 1000 78).toInt = 2720 * (kk : Int) + 2530 ∧ ((I 1000 79).toInt = 0 → SV kk [(1015, 2506, 24)] I I2) ∧ ((I 1000 79).toInt ≠ 0 → LD kk [(1015, 2506, 24)] I I2))) (BM D A) A) args s 0 0 A) (F0 m 2 ls []) := by
    intro n
    induction n with
    | zero =>
      intro x2_2 Ia2 La2 H locs ls hI hK hr2_2 hat3 hv2 hw2 hmu
      exact absurd hmu (Nat.not_lt_zero _)
    | succ n ih2 =>
      intro x2_2 Ia2 La2 H locs ls hI hK hr2_2 hat3 hv2 hw2 hmu2 hM hS hl
      have hK0 := hK
      refine lv_iload_n hx hb dX10_carry_2 rfl (lv_at hl 0 rfl) ?_
      refine lv_aload_n hx hb dX10_carry_3 rfl (lv_at hl 2 rfl) ?_
      refine m_alen 1015 (t0 := 0) (v := 24) hx hb hE hM (hJ.2 15 (by decide)).1 rfl (by decide) rfl rfl dX10_carry_4 ?_
      refine lv_icmp_ge (tgt := 58) hx hb dX10_carry_5 (by decide) (fun c1 => ?_) (fun c1 => ?_)
      · have hc1 := c1
        have q1 := q_le hc1
        exact m_vret hx hb hr hlocks hM hS (Nat.le_of_ble_eq_true rfl) (Nat.le_of_ble_eq_true rfl) ⟨_, _, rfl, hI, hK, (by have hz := cl_of (k := x2_2) (n := 24) (by omega); rw [hz] at hv2 hw2; exact ⟨by omega, hv2, hw2⟩)⟩ dX10_carry_58
      · have hc1 := c1
        have q1 := q_nle hc1
        refine lv_aload_n hx hb dX10_carry_8 rfl (lv_at hl 1 rfl) ?_
        refine m_geti (1000) 79 hx hb hts hown hE oc10 hM hJ.1 rfl (by decide) rfl tb_1256 dX10_carry_9 ?_
        have g2 := hI.get (1000) 79 (lo := 0) (hi := 1) rfl
        refine lv_if_eq (tgt := 30) hx hb dX10_carry_12 (by decide) (fun c3 => ?_) (fun c3 => ?_)
        · have hc3 := c3
          have q3 := q_eq hc3
          refine lv_aload_n hx hb dX10_carry_30 rfl (lv_at hl 1 rfl) ?_
          refine m_getr (1000) 76 (1076) hx hb hts hown hE oc10 hM hJ.1 rfl (by decide) rfl (hJ.2 76 (by decide)).2 (by decide) tb_1253 dX10_carry_31 ?_
          refine lv_aload_n hx hb dX10_carry_34 rfl (lv_at hl 1 rfl) ?_
          refine m_geti (1000) 78 hx hb hts hown hE oc10 hM hJ.1 rfl (by decide) rfl tb_1255 dX10_carry_35 ?_
          have g4 := hI.get (1000) 78 (lo := 0) (hi := 10880) rfl
          refine lv_aload_n hx hb dX10_carry_38 rfl (lv_at hl 2 rfl) ?_
          refine lv_iload_n hx hb dX10_carry_39 rfl (lv_at hl 0 rfl) ?_
          refine m_iald (1015) hx hb hE hM (hJ.2 15 (by decide)).1 rfl (vp_in_iff.mpr (by omega)) dX10_carry_40 ?_
          refine m_iast (1076) hx hb hE hM hS (hJ.2 76 (by decide)).1 rfl (vp_in_iff.mpr (by omega)) dX10_carry_41 (fun H locs I5 eI5 hM hS => ?_)
          subst eI5
          have hat2 : (Ia2 1000 78).toInt = 2720 * (kk : Int) + 2506 + (x2_2).toInt := hat3
          have hk0 : 0 ≤ (x2_2).toInt := by omega
          have hkn : (x2_2).toInt < 24 := by omega
          have hI := hI.putx (n := 1076) (k := ((Ia2 (1000) 78).toNatClampNeg)) (v := Ia2 (1015) (x2_2).toNatClampNeg) (by rw [rgimF (kk := kk) (b := 2506) (n := 24) (N := 1015) (a := Ia2 1000 78) (k := x2_2) (by decide) rfl (by omega) hk0 (by omega)]; exact hI _ _)
          have hK := hK.put (n := 1076) (k := ((Ia2 (1000) 78).toNatClampNeg)) (v := Ia2 (1015) (x2_2).toNatClampNeg) (by first | rfl | simp [inR])
          refine lv_aload_n hx hb dX10_carry_42 rfl (lv_at hl 1 rfl) ?_
          refine lv_dup hx hb dX10_carry_43 rfl ?_
          refine m_geti (1000) 78 hx hb hts hown hE oc10 hM hJ.1 rfl (by decide) rfl tb_1255 dX10_carry_44 ?_
          have z6 : (u2 Ia2 (1076) ((Ia2 (1000) 78).toNatClampNeg) (Ia2 (1015) (x2_2).toNatClampNeg)) (1000) 78 = Ia2 (1000) 78 := (show (u2 Ia2 (1076) ((Ia2 (1000) 78).toNatClampNeg) (Ia2 (1015) (x2_2).toNatClampNeg)) (1000) 78 = Ia2 (1000) 78 from by simp [u2_v])
          rw [z6]
          refine lv_iconst (v := (1)) hx hb dX10_carry_47 (by decide) ?_
          refine lv_iadd hx hb dX10_carry_48 ?_
          refine lv_topi (fun v7 ev7 => ?_)
          have tv7 := a_add ev7 (by omega) (by omega)
          refine m_puti (1000) 78 hx hb hts hown hE oc10 hM hS hJ.1 rfl (by decide) rfl rfl rfl rfl tb_1255 dX10_carry_49 (fun H locs I8 eI8 hM hS => ?_)
          subst eI8
          have hI := hI.put (n := 1000) (k := 78) (v := v7) (lo := 0) (hi := 10880) rfl (by first | omega | decide)
          have hK := hK.put (n := 1000) (k := 78) (v := v7) (by first | rfl | simp [inR])
          obtain ⟨v9, ev9⟩ : ∃ z : Int32, z = x2_2 + Int32.ofInt (1) := ⟨_, rfl⟩
          have tv9 := a_inc ev9 (by decide) (by omega) (by omega)
          refine lv_iinc (v := v9) (lv' := [(2, .int (v9)), (0, .ref (ad (1000))), (1, .ref (ad (1015)))]) hx hb dX10_carry_52 hl (k := 0) rfl ev9.symm (by decide) rfl (fun ls hl => ?_)
          refine lv_goto (tgt := 2) hx hb dX10_carry_55 (by decide) ?_
          exact ih2 (v9) (u2 (u2 Ia2 (1076) ((Ia2 (1000) 78).toNatClampNeg) (Ia2 (1015) (x2_2).toNatClampNeg)) (1000) 78 (v7)) La2 _ _ ls hI hK (by first | omega | decide) (by rw [u2_self]; omega) (fun _ => SV.step (hv2 (by have hq := congrArg Int32.toInt (hK0.get 1000 79 rfl); omega)) (by omega) (by omega) (by decide) (by omega)) (fun hz => absurd (show (I 1000 79).toInt = 0 by have hq := congrArg Int32.toInt (hK0.get 1000 79 rfl); omega) hz) (by omega) hM hS (lv_sub hl [0, 1, 2] rfl)
        · have hc3 := c3
          have q3 := q_ne hc3
          refine lv_aload_n hx hb dX10_carry_15 rfl (lv_at hl 2 rfl) ?_
          refine lv_iload_n hx hb dX10_carry_16 rfl (lv_at hl 0 rfl) ?_
          refine lv_aload_n hx hb dX10_carry_17 rfl (lv_at hl 1 rfl) ?_
          refine m_getr (1000) 76 (1076) hx hb hts hown hE oc10 hM hJ.1 rfl (by decide) rfl (hJ.2 76 (by decide)).2 (by decide) tb_1253 dX10_carry_18 ?_
          refine lv_aload_n hx hb dX10_carry_21 rfl (lv_at hl 1 rfl) ?_
          refine m_geti (1000) 78 hx hb hts hown hE oc10 hM hJ.1 rfl (by decide) rfl tb_1255 dX10_carry_22 ?_
          have g10 := hI.get (1000) 78 (lo := 0) (hi := 10880) rfl
          refine m_iald (1076) hx hb hE hM (hJ.2 76 (by decide)).1 rfl (vp_in_iff.mpr (by omega)) dX10_carry_25 ?_
          refine m_iast (1015) hx hb hE hM hS (hJ.2 15 (by decide)).1 rfl (vp_in_iff.mpr (by omega)) dX10_carry_26 (fun H locs I11 eI11 hM hS => ?_)
          subst eI11
          have hat2 : (Ia2 1000 78).toInt = 2720 * (kk : Int) + 2506 + (x2_2).toInt := hat3
          have hk0 : 0 ≤ (x2_2).toInt := by omega
          have hkn : (x2_2).toInt < 24 := by omega
          have hI := hI.putx (n := 1015) (k := ((x2_2).toNatClampNeg)) (v := Ia2 (1076) (Ia2 (1000) 78).toNatClampNeg) (by rw [← rgimF (kk := kk) (b := 2506) (n := 24) (N := 1015) (a := Ia2 1000 78) (k := x2_2) (by decide) rfl (by omega) hk0 (by omega)]; exact hI _ _)
          have hK := hK.put (n := 1015) (k := ((x2_2).toNatClampNeg)) (v := Ia2 (1076) (Ia2 (1000) 78).toNatClampNeg) (by first | rfl | simp [inR])
          refine lv_goto (tgt := 42) hx hb dX10_carry_27 (by decide) ?_
          refine lv_aload_n hx hb dX10_carry_42 rfl (lv_at hl 1 rfl) ?_
          refine lv_dup hx hb dX10_carry_43 rfl ?_
          refine m_geti (1000) 78 hx hb hts hown hE oc10 hM hJ.1 rfl (by decide) rfl tb_1255 dX10_carry_44 ?_
          have z12 : (u2 Ia2 (1015) ((x2_2).toNatClampNeg) (Ia2 (1076) (Ia2 (1000) 78).toNatClampNeg)) (1000) 78 = Ia2 (1000) 78 := (show (u2 Ia2 (1015) ((x2_2).toNatClampNeg) (Ia2 (1076) (Ia2 (1000) 78).toNatClampNeg)) (1000) 78 = Ia2 (1000) 78 from by simp [u2_v])
          rw [z12]
          refine lv_iconst (v := (1)) hx hb dX10_carry_47 (by decide) ?_
          refine lv_iadd hx hb dX10_carry_48 ?_
          refine lv_topi (fun v13 ev13 => ?_)
          have tv13 := a_add ev13 (by omega) (by omega)
          refine m_puti (1000) 78 hx hb hts hown hE oc10 hM hS hJ.1 rfl (by decide) rfl rfl rfl rfl tb_1255 dX10_carry_49 (fun H locs I14 eI14 hM hS => ?_)
          subst eI14
          have hI := hI.put (n := 1000) (k := 78) (v := v13) (lo := 0) (hi := 10880) rfl (by first | omega | decide)
          have hK := hK.put (n := 1000) (k := 78) (v := v13) (by first | rfl | simp [inR])
          obtain ⟨v15, ev15⟩ : ∃ z : Int32, z = x2_2 + Int32.ofInt (1) := ⟨_, rfl⟩
          have tv15 := a_inc ev15 (by decide) (by omega) (by omega)
          refine lv_iinc (v := v15) (lv' := [(2, .int (v15)), (0, .ref (ad (1000))), (1, .ref (ad (1015)))]) hx hb dX10_carry_52 hl (k := 0) rfl ev15.symm (by decide) rfl (fun ls hl => ?_)
          refine lv_goto (tgt := 2) hx hb dX10_carry_55 (by decide) ?_
          exact ih2 (v15) (u2 (u2 Ia2 (1015) ((x2_2).toNatClampNeg) (Ia2 (1076) (Ia2 (1000) 78).toNatClampNeg)) (1000) 78 (v13)) La2 _ _ ls hI hK (by first | omega | decide) (by rw [u2_self]; omega) (fun hz => absurd hz (show (I 1000 79).toInt ≠ 0 by have hq := congrArg Int32.toInt (hK0.get 1000 79 rfl); omega)) (fun hz => LD.step (hw2 hz) (by omega) (by omega) (by decide) (by omega)) (by omega) hM hS (lv_sub hl [0, 1, 2] rfl)
  exact loop2 (_ + 1) (0) I L _ _ ls hI hK (by first | omega | decide) (by omega) (fun _ => SV.z (by decide)) (fun _ => LD.z (by decide)) (Nat.lt_succ_self _) hM hS (lv_sub hl [0, 1, 2] rfl)
set_option maxHeartbeats 4000000 in
set_option maxRecDepth 20000 in
theorem V_X10_carry_1016 (l : Launch) (D : va_G) (A : Nat → Prop) (ad : Nat → Nat) (ns : List Nat) (I : MI) (L : ML) (G : MG) (kk : Nat) (hJ : SGM ns G) (hI : INV I) (hk4 : kk < 4) (hat : (I 1000 78).toInt = 2720 * (kk : Int) + 2530) : Met l yX10_carry (wd yX10_carry cX10_carry 3 none) ({ frames := 0, cells := 0, slots := 0, locals := 0 }) (va_Pc [.ref (ad (1000)), .ref (ad (1016))] (PM D A ad ns I L G)) (va_Qv (fun u => ∃ I2 L2, u = (ad, ns, I2, L2, G) ∧ INV I2 ∧ Kp [(1016, 1017), (1076, 1077)] [(1000, 78)] I I2 ∧ ((I2 1000 78).toInt = 2720 * (kk : Int) + 2554 ∧ ((I 1000 79).toInt = 0 → SV kk [(1016, 2530, 24)] I I2) ∧ ((I 1000 79).toInt ≠ 0 → LD kk [(1016, 2530, 24)] I I2))) (BM D A) A) 0 0 A := by
  refine m_ofW (by decide) (Nat.le_of_ble_eq_true rfl) ?_
  intro p e s m below meth c ls args hC hE hM hA hS hl
  obtain ⟨hx, hb, hml, hown, hts, hr, hlocks, hin⟩ := hC
  have k0 : (0 : Int32).toInt = 0 := by decide
  have k1 : (1 : Int32).toInt = 1 := by decide
  have k24 : (24 : Int32).toInt = 24 := by decide
  have hK : Kp [(1016, 1017), (1076, 1077)] [(1000, 78)] I I := Kp.rf
  have hl : lv_has ls 3 [(0, .ref (ad (1000))), (1, .ref (ad (1016)))] := hl
  refine lv_iconst (v := (0)) hx hb dX10_carry_0 (by decide) ?_
  refine lv_istore_n (lv' := [(2, .int (0)), (0, .ref (ad (1000))), (1, .ref (ad (1016)))]) hx hb dX10_carry_1 rfl hl (by decide) rfl (fun ls hl => ?_)
  have loop2 : ∀ (n : Nat) (x2_2 : Int32) (Ia2 : MI) (La2 : ML) (H : Heap) (locs : List Loc) (ls : Array Slot), INV Ia2 → Kp [(1016, 1017), (1076, 1077)] [(1000, 78)] I Ia2 → (0 ≤ x2_2.toInt ∧ x2_2.toInt ≤ 24) → ((Ia2 1000 78).toInt = 2720 * (kk : Int) + 2530 + (x2_2).toInt) → ((I 1000 79).toInt = 0 → SV kk [(1016, 2530, (x2_2).toNatClampNeg)] I Ia2) → ((I 1000 79).toInt ≠ 0 → LD kk [(1016, 2530, (x2_2).toNatClampNeg)] I Ia2) → (24 - x2_2.toInt).toNat < n → Mem D A ad ns Ia2 La2 G H → va_S A s.heap H locs → lv_has ls 3 [(2, .int (x2_2)), (0, .ref (ad (1000))), (1, .ref (ad (1016)))] → W p l e ({ frames := 0, cells := 0, slots := 0, locals := 0 } : Room) s m args below meth c H locs 0 0 (MQ below (va_Qv (fun u => ∃ I2 L2, u = (ad, ns, I2, L2, G) ∧ INV I2 ∧ Kp [(1016, 1017), (1076, 1077)] [(1000, 78)] I I2 ∧ ((I2 1000 78).toInt = 2720 * (kk : Int) + 2554 ∧ ((I 1000 79).toInt = 0 → SV kk [(1016, 2530, 24)] I I2) ∧ ((I 1000 79).toInt ≠ 0 → LD kk [(1016, 2530, 24)] I I2))) (BM D A) A) args s 0 0 A) (F0 m 2 ls []) := by
    intro n
    induction n with
    | zero =>
      intro x2_2 Ia2 La2 H locs ls hI hK hr2_2 hat3 hv2 hw2 hmu
      exact absurd hmu (Nat.not_lt_zero _)
    | succ n ih2 =>
      intro x2_2 Ia2 La2 H locs ls hI hK hr2_2 hat3 hv2 hw2 hmu2 hM hS hl
      have hK0 := hK
      refine lv_iload_n hx hb dX10_carry_2 rfl (lv_at hl 0 rfl) ?_
      refine lv_aload_n hx hb dX10_carry_3 rfl (lv_at hl 2 rfl) ?_
      refine m_alen 1016 (t0 := 0) (v := 24) hx hb hE hM (hJ.2 16 (by decide)).1 rfl (by decide) rfl rfl dX10_carry_4 ?_
      refine lv_icmp_ge (tgt := 58) hx hb dX10_carry_5 (by decide) (fun c1 => ?_) (fun c1 => ?_)
      · have hc1 := c1
        have q1 := q_le hc1
        exact m_vret hx hb hr hlocks hM hS (Nat.le_of_ble_eq_true rfl) (Nat.le_of_ble_eq_true rfl) ⟨_, _, rfl, hI, hK, (by have hz := cl_of (k := x2_2) (n := 24) (by omega); rw [hz] at hv2 hw2; exact ⟨by omega, hv2, hw2⟩)⟩ dX10_carry_58
      · have hc1 := c1
        have q1 := q_nle hc1
        refine lv_aload_n hx hb dX10_carry_8 rfl (lv_at hl 1 rfl) ?_
        refine m_geti (1000) 79 hx hb hts hown hE oc10 hM hJ.1 rfl (by decide) rfl tb_1256 dX10_carry_9 ?_
        have g2 := hI.get (1000) 79 (lo := 0) (hi := 1) rfl
        refine lv_if_eq (tgt := 30) hx hb dX10_carry_12 (by decide) (fun c3 => ?_) (fun c3 => ?_)
        · have hc3 := c3
          have q3 := q_eq hc3
          refine lv_aload_n hx hb dX10_carry_30 rfl (lv_at hl 1 rfl) ?_
          refine m_getr (1000) 76 (1076) hx hb hts hown hE oc10 hM hJ.1 rfl (by decide) rfl (hJ.2 76 (by decide)).2 (by decide) tb_1253 dX10_carry_31 ?_
          refine lv_aload_n hx hb dX10_carry_34 rfl (lv_at hl 1 rfl) ?_
          refine m_geti (1000) 78 hx hb hts hown hE oc10 hM hJ.1 rfl (by decide) rfl tb_1255 dX10_carry_35 ?_
          have g4 := hI.get (1000) 78 (lo := 0) (hi := 10880) rfl
          refine lv_aload_n hx hb dX10_carry_38 rfl (lv_at hl 2 rfl) ?_
          refine lv_iload_n hx hb dX10_carry_39 rfl (lv_at hl 0 rfl) ?_
          refine m_iald (1016) hx hb hE hM (hJ.2 16 (by decide)).1 rfl (vp_in_iff.mpr (by omega)) dX10_carry_40 ?_
          refine m_iast (1076) hx hb hE hM hS (hJ.2 76 (by decide)).1 rfl (vp_in_iff.mpr (by omega)) dX10_carry_41 (fun H locs I5 eI5 hM hS => ?_)
          subst eI5
          have hat2 : (Ia2 1000 78).toInt = 2720 * (kk : Int) + 2530 + (x2_2).toInt := hat3
          have hk0 : 0 ≤ (x2_2).toInt := by omega
          have hkn : (x2_2).toInt < 24 := by omega
          have hI := hI.putx (n := 1076) (k := ((Ia2 (1000) 78).toNatClampNeg)) (v := Ia2 (1016) (x2_2).toNatClampNeg) (by rw [rgimF (kk := kk) (b := 2530) (n := 24) (N := 1016) (a := Ia2 1000 78) (k := x2_2) (by decide) rfl (by omega) hk0 (by omega)]; exact hI _ _)
          have hK := hK.put (n := 1076) (k := ((Ia2 (1000) 78).toNatClampNeg)) (v := Ia2 (1016) (x2_2).toNatClampNeg) (by first | rfl | simp [inR])
          refine lv_aload_n hx hb dX10_carry_42 rfl (lv_at hl 1 rfl) ?_
          refine lv_dup hx hb dX10_carry_43 rfl ?_
          refine m_geti (1000) 78 hx hb hts hown hE oc10 hM hJ.1 rfl (by decide) rfl tb_1255 dX10_carry_44 ?_
          have z6 : (u2 Ia2 (1076) ((Ia2 (1000) 78).toNatClampNeg) (Ia2 (1016) (x2_2).toNatClampNeg)) (1000) 78 = Ia2 (1000) 78 := (show (u2 Ia2 (1076) ((Ia2 (1000) 78).toNatClampNeg) (Ia2 (1016) (x2_2).toNatClampNeg)) (1000) 78 = Ia2 (1000) 78 from by simp [u2_v])
          rw [z6]
          refine lv_iconst (v := (1)) hx hb dX10_carry_47 (by decide) ?_
          refine lv_iadd hx hb dX10_carry_48 ?_
          refine lv_topi (fun v7 ev7 => ?_)
          have tv7 := a_add ev7 (by omega) (by omega)
          refine m_puti (1000) 78 hx hb hts hown hE oc10 hM hS hJ.1 rfl (by decide) rfl rfl rfl rfl tb_1255 dX10_carry_49 (fun H locs I8 eI8 hM hS => ?_)
          subst eI8
          have hI := hI.put (n := 1000) (k := 78) (v := v7) (lo := 0) (hi := 10880) rfl (by first | omega | decide)
          have hK := hK.put (n := 1000) (k := 78) (v := v7) (by first | rfl | simp [inR])
          obtain ⟨v9, ev9⟩ : ∃ z : Int32, z = x2_2 + Int32.ofInt (1) := ⟨_, rfl⟩
          have tv9 := a_inc ev9 (by decide) (by omega) (by omega)
          refine lv_iinc (v := v9) (lv' := [(2, .int (v9)), (0, .ref (ad (1000))), (1, .ref (ad (1016)))]) hx hb dX10_carry_52 hl (k := 0) rfl ev9.symm (by decide) rfl (fun ls hl => ?_)
          refine lv_goto (tgt := 2) hx hb dX10_carry_55 (by decide) ?_
          exact ih2 (v9) (u2 (u2 Ia2 (1076) ((Ia2 (1000) 78).toNatClampNeg) (Ia2 (1016) (x2_2).toNatClampNeg)) (1000) 78 (v7)) La2 _ _ ls hI hK (by first | omega | decide) (by rw [u2_self]; omega) (fun _ => SV.step (hv2 (by have hq := congrArg Int32.toInt (hK0.get 1000 79 rfl); omega)) (by omega) (by omega) (by decide) (by omega)) (fun hz => absurd (show (I 1000 79).toInt = 0 by have hq := congrArg Int32.toInt (hK0.get 1000 79 rfl); omega) hz) (by omega) hM hS (lv_sub hl [0, 1, 2] rfl)
        · have hc3 := c3
          have q3 := q_ne hc3
          refine lv_aload_n hx hb dX10_carry_15 rfl (lv_at hl 2 rfl) ?_
          refine lv_iload_n hx hb dX10_carry_16 rfl (lv_at hl 0 rfl) ?_
          refine lv_aload_n hx hb dX10_carry_17 rfl (lv_at hl 1 rfl) ?_
          refine m_getr (1000) 76 (1076) hx hb hts hown hE oc10 hM hJ.1 rfl (by decide) rfl (hJ.2 76 (by decide)).2 (by decide) tb_1253 dX10_carry_18 ?_
          refine lv_aload_n hx hb dX10_carry_21 rfl (lv_at hl 1 rfl) ?_
          refine m_geti (1000) 78 hx hb hts hown hE oc10 hM hJ.1 rfl (by decide) rfl tb_1255 dX10_carry_22 ?_
          have g10 := hI.get (1000) 78 (lo := 0) (hi := 10880) rfl
          refine m_iald (1076) hx hb hE hM (hJ.2 76 (by decide)).1 rfl (vp_in_iff.mpr (by omega)) dX10_carry_25 ?_
          refine m_iast (1016) hx hb hE hM hS (hJ.2 16 (by decide)).1 rfl (vp_in_iff.mpr (by omega)) dX10_carry_26 (fun H locs I11 eI11 hM hS => ?_)
          subst eI11
          have hat2 : (Ia2 1000 78).toInt = 2720 * (kk : Int) + 2530 + (x2_2).toInt := hat3
          have hk0 : 0 ≤ (x2_2).toInt := by omega
          have hkn : (x2_2).toInt < 24 := by omega
          have hI := hI.putx (n := 1016) (k := ((x2_2).toNatClampNeg)) (v := Ia2 (1076) (Ia2 (1000) 78).toNatClampNeg) (by rw [← rgimF (kk := kk) (b := 2530) (n := 24) (N := 1016) (a := Ia2 1000 78) (k := x2_2) (by decide) rfl (by omega) hk0 (by omega)]; exact hI _ _)
          have hK := hK.put (n := 1016) (k := ((x2_2).toNatClampNeg)) (v := Ia2 (1076) (Ia2 (1000) 78).toNatClampNeg) (by first | rfl | simp [inR])
          refine lv_goto (tgt := 42) hx hb dX10_carry_27 (by decide) ?_
          refine lv_aload_n hx hb dX10_carry_42 rfl (lv_at hl 1 rfl) ?_
          refine lv_dup hx hb dX10_carry_43 rfl ?_
          refine m_geti (1000) 78 hx hb hts hown hE oc10 hM hJ.1 rfl (by decide) rfl tb_1255 dX10_carry_44 ?_
          have z12 : (u2 Ia2 (1016) ((x2_2).toNatClampNeg) (Ia2 (1076) (Ia2 (1000) 78).toNatClampNeg)) (1000) 78 = Ia2 (1000) 78 := (show (u2 Ia2 (1016) ((x2_2).toNatClampNeg) (Ia2 (1076) (Ia2 (1000) 78).toNatClampNeg)) (1000) 78 = Ia2 (1000) 78 from by simp [u2_v])
          rw [z12]
          refine lv_iconst (v := (1)) hx hb dX10_carry_47 (by decide) ?_
          refine lv_iadd hx hb dX10_carry_48 ?_
          refine lv_topi (fun v13 ev13 => ?_)
          have tv13 := a_add ev13 (by omega) (by omega)
          refine m_puti (1000) 78 hx hb hts hown hE oc10 hM hS hJ.1 rfl (by decide) rfl rfl rfl rfl tb_1255 dX10_carry_49 (fun H locs I14 eI14 hM hS => ?_)
          subst eI14
          have hI := hI.put (n := 1000) (k := 78) (v := v13) (lo := 0) (hi := 10880) rfl (by first | omega | decide)
          have hK := hK.put (n := 1000) (k := 78) (v := v13) (by first | rfl | simp [inR])
          obtain ⟨v15, ev15⟩ : ∃ z : Int32, z = x2_2 + Int32.ofInt (1) := ⟨_, rfl⟩
          have tv15 := a_inc ev15 (by decide) (by omega) (by omega)
          refine lv_iinc (v := v15) (lv' := [(2, .int (v15)), (0, .ref (ad (1000))), (1, .ref (ad (1016)))]) hx hb dX10_carry_52 hl (k := 0) rfl ev15.symm (by decide) rfl (fun ls hl => ?_)
          refine lv_goto (tgt := 2) hx hb dX10_carry_55 (by decide) ?_
          exact ih2 (v15) (u2 (u2 Ia2 (1016) ((x2_2).toNatClampNeg) (Ia2 (1076) (Ia2 (1000) 78).toNatClampNeg)) (1000) 78 (v13)) La2 _ _ ls hI hK (by first | omega | decide) (by rw [u2_self]; omega) (fun hz => absurd hz (show (I 1000 79).toInt ≠ 0 by have hq := congrArg Int32.toInt (hK0.get 1000 79 rfl); omega)) (fun hz => LD.step (hw2 hz) (by omega) (by omega) (by decide) (by omega)) (by omega) hM hS (lv_sub hl [0, 1, 2] rfl)
  exact loop2 (_ + 1) (0) I L _ _ ls hI hK (by first | omega | decide) (by omega) (fun _ => SV.z (by decide)) (fun _ => LD.z (by decide)) (Nat.lt_succ_self _) hM hS (lv_sub hl [0, 1, 2] rfl)
set_option maxHeartbeats 4000000 in
set_option maxRecDepth 20000 in
theorem V_X10_carry_1017 (l : Launch) (D : va_G) (A : Nat → Prop) (ad : Nat → Nat) (ns : List Nat) (I : MI) (L : ML) (G : MG) (kk : Nat) (hJ : SGM ns G) (hI : INV I) (hk4 : kk < 4) (hat : (I 1000 78).toInt = 2720 * (kk : Int) + 2554) : Met l yX10_carry (wd yX10_carry cX10_carry 3 none) ({ frames := 0, cells := 0, slots := 0, locals := 0 }) (va_Pc [.ref (ad (1000)), .ref (ad (1017))] (PM D A ad ns I L G)) (va_Qv (fun u => ∃ I2 L2, u = (ad, ns, I2, L2, G) ∧ INV I2 ∧ Kp [(1017, 1018), (1076, 1077)] [(1000, 78)] I I2 ∧ ((I2 1000 78).toInt = 2720 * (kk : Int) + 2562 ∧ ((I 1000 79).toInt = 0 → SV kk [(1017, 2554, 8)] I I2) ∧ ((I 1000 79).toInt ≠ 0 → LD kk [(1017, 2554, 8)] I I2))) (BM D A) A) 0 0 A := by
  refine m_ofW (by decide) (Nat.le_of_ble_eq_true rfl) ?_
  intro p e s m below meth c ls args hC hE hM hA hS hl
  obtain ⟨hx, hb, hml, hown, hts, hr, hlocks, hin⟩ := hC
  have k0 : (0 : Int32).toInt = 0 := by decide
  have k1 : (1 : Int32).toInt = 1 := by decide
  have k8 : (8 : Int32).toInt = 8 := by decide
  have hK : Kp [(1017, 1018), (1076, 1077)] [(1000, 78)] I I := Kp.rf
  have hl : lv_has ls 3 [(0, .ref (ad (1000))), (1, .ref (ad (1017)))] := hl
  refine lv_iconst (v := (0)) hx hb dX10_carry_0 (by decide) ?_
  refine lv_istore_n (lv' := [(2, .int (0)), (0, .ref (ad (1000))), (1, .ref (ad (1017)))]) hx hb dX10_carry_1 rfl hl (by decide) rfl (fun ls hl => ?_)
  have loop2 : ∀ (n : Nat) (x2_2 : Int32) (Ia2 : MI) (La2 : ML) (H : Heap) (locs : List Loc) (ls : Array Slot), INV Ia2 → Kp [(1017, 1018), (1076, 1077)] [(1000, 78)] I Ia2 → (0 ≤ x2_2.toInt ∧ x2_2.toInt ≤ 8) → ((Ia2 1000 78).toInt = 2720 * (kk : Int) + 2554 + (x2_2).toInt) → ((I 1000 79).toInt = 0 → SV kk [(1017, 2554, (x2_2).toNatClampNeg)] I Ia2) → ((I 1000 79).toInt ≠ 0 → LD kk [(1017, 2554, (x2_2).toNatClampNeg)] I Ia2) → (8 - x2_2.toInt).toNat < n → Mem D A ad ns Ia2 La2 G H → va_S A s.heap H locs → lv_has ls 3 [(2, .int (x2_2)), (0, .ref (ad (1000))), (1, .ref (ad (1017)))] → W p l e ({ frames := 0, cells := 0, slots := 0, locals := 0 } : Room) s m args below meth c H locs 0 0 (MQ below (va_Qv (fun u => ∃ I2 L2, u = (ad, ns, I2, L2, G) ∧ INV I2 ∧ Kp [(1017, 1018), (1076, 1077)] [(1000, 78)] I I2 ∧ ((I2 1000 78).toInt = 2720 * (kk : Int) + 2562 ∧ ((I 1000 79).toInt = 0 → SV kk [(1017, 2554, 8)] I I2) ∧ ((I 1000 79).toInt ≠ 0 → LD kk [(1017, 2554, 8)] I I2))) (BM D A) A) args s 0 0 A) (F0 m 2 ls []) := by
    intro n
    induction n with
    | zero =>
      intro x2_2 Ia2 La2 H locs ls hI hK hr2_2 hat3 hv2 hw2 hmu
      exact absurd hmu (Nat.not_lt_zero _)
    | succ n ih2 =>
      intro x2_2 Ia2 La2 H locs ls hI hK hr2_2 hat3 hv2 hw2 hmu2 hM hS hl
      have hK0 := hK
      refine lv_iload_n hx hb dX10_carry_2 rfl (lv_at hl 0 rfl) ?_
      refine lv_aload_n hx hb dX10_carry_3 rfl (lv_at hl 2 rfl) ?_
      refine m_alen 1017 (t0 := 0) (v := 8) hx hb hE hM (hJ.2 17 (by decide)).1 rfl (by decide) rfl rfl dX10_carry_4 ?_
      refine lv_icmp_ge (tgt := 58) hx hb dX10_carry_5 (by decide) (fun c1 => ?_) (fun c1 => ?_)
      · have hc1 := c1
        have q1 := q_le hc1
        exact m_vret hx hb hr hlocks hM hS (Nat.le_of_ble_eq_true rfl) (Nat.le_of_ble_eq_true rfl) ⟨_, _, rfl, hI, hK, (by have hz := cl_of (k := x2_2) (n := 8) (by omega); rw [hz] at hv2 hw2; exact ⟨by omega, hv2, hw2⟩)⟩ dX10_carry_58
      · have hc1 := c1
        have q1 := q_nle hc1
        refine lv_aload_n hx hb dX10_carry_8 rfl (lv_at hl 1 rfl) ?_
        refine m_geti (1000) 79 hx hb hts hown hE oc10 hM hJ.1 rfl (by decide) rfl tb_1256 dX10_carry_9 ?_
        have g2 := hI.get (1000) 79 (lo := 0) (hi := 1) rfl
        refine lv_if_eq (tgt := 30) hx hb dX10_carry_12 (by decide) (fun c3 => ?_) (fun c3 => ?_)
        · have hc3 := c3
          have q3 := q_eq hc3
          refine lv_aload_n hx hb dX10_carry_30 rfl (lv_at hl 1 rfl) ?_
          refine m_getr (1000) 76 (1076) hx hb hts hown hE oc10 hM hJ.1 rfl (by decide) rfl (hJ.2 76 (by decide)).2 (by decide) tb_1253 dX10_carry_31 ?_
          refine lv_aload_n hx hb dX10_carry_34 rfl (lv_at hl 1 rfl) ?_
          refine m_geti (1000) 78 hx hb hts hown hE oc10 hM hJ.1 rfl (by decide) rfl tb_1255 dX10_carry_35 ?_
          have g4 := hI.get (1000) 78 (lo := 0) (hi := 10880) rfl
          refine lv_aload_n hx hb dX10_carry_38 rfl (lv_at hl 2 rfl) ?_
          refine lv_iload_n hx hb dX10_carry_39 rfl (lv_at hl 0 rfl) ?_
          refine m_iald (1017) hx hb hE hM (hJ.2 17 (by decide)).1 rfl (vp_in_iff.mpr (by omega)) dX10_carry_40 ?_
          refine m_iast (1076) hx hb hE hM hS (hJ.2 76 (by decide)).1 rfl (vp_in_iff.mpr (by omega)) dX10_carry_41 (fun H locs I5 eI5 hM hS => ?_)
          subst eI5
          have hat2 : (Ia2 1000 78).toInt = 2720 * (kk : Int) + 2554 + (x2_2).toInt := hat3
          have hk0 : 0 ≤ (x2_2).toInt := by omega
          have hkn : (x2_2).toInt < 8 := by omega
          have hI := hI.putx (n := 1076) (k := ((Ia2 (1000) 78).toNatClampNeg)) (v := Ia2 (1017) (x2_2).toNatClampNeg) (by rw [rgimF (kk := kk) (b := 2554) (n := 8) (N := 1017) (a := Ia2 1000 78) (k := x2_2) (by decide) rfl (by omega) hk0 (by omega)]; exact hI _ _)
          have hK := hK.put (n := 1076) (k := ((Ia2 (1000) 78).toNatClampNeg)) (v := Ia2 (1017) (x2_2).toNatClampNeg) (by first | rfl | simp [inR])
          refine lv_aload_n hx hb dX10_carry_42 rfl (lv_at hl 1 rfl) ?_
          refine lv_dup hx hb dX10_carry_43 rfl ?_
          refine m_geti (1000) 78 hx hb hts hown hE oc10 hM hJ.1 rfl (by decide) rfl tb_1255 dX10_carry_44 ?_
          have z6 : (u2 Ia2 (1076) ((Ia2 (1000) 78).toNatClampNeg) (Ia2 (1017) (x2_2).toNatClampNeg)) (1000) 78 = Ia2 (1000) 78 := (show (u2 Ia2 (1076) ((Ia2 (1000) 78).toNatClampNeg) (Ia2 (1017) (x2_2).toNatClampNeg)) (1000) 78 = Ia2 (1000) 78 from by simp [u2_v])
          rw [z6]
          refine lv_iconst (v := (1)) hx hb dX10_carry_47 (by decide) ?_
          refine lv_iadd hx hb dX10_carry_48 ?_
          refine lv_topi (fun v7 ev7 => ?_)
          have tv7 := a_add ev7 (by omega) (by omega)
          refine m_puti (1000) 78 hx hb hts hown hE oc10 hM hS hJ.1 rfl (by decide) rfl rfl rfl rfl tb_1255 dX10_carry_49 (fun H locs I8 eI8 hM hS => ?_)
          subst eI8
          have hI := hI.put (n := 1000) (k := 78) (v := v7) (lo := 0) (hi := 10880) rfl (by first | omega | decide)
          have hK := hK.put (n := 1000) (k := 78) (v := v7) (by first | rfl | simp [inR])
          obtain ⟨v9, ev9⟩ : ∃ z : Int32, z = x2_2 + Int32.ofInt (1) := ⟨_, rfl⟩
          have tv9 := a_inc ev9 (by decide) (by omega) (by omega)
          refine lv_iinc (v := v9) (lv' := [(2, .int (v9)), (0, .ref (ad (1000))), (1, .ref (ad (1017)))]) hx hb dX10_carry_52 hl (k := 0) rfl ev9.symm (by decide) rfl (fun ls hl => ?_)
          refine lv_goto (tgt := 2) hx hb dX10_carry_55 (by decide) ?_
          exact ih2 (v9) (u2 (u2 Ia2 (1076) ((Ia2 (1000) 78).toNatClampNeg) (Ia2 (1017) (x2_2).toNatClampNeg)) (1000) 78 (v7)) La2 _ _ ls hI hK (by first | omega | decide) (by rw [u2_self]; omega) (fun _ => SV.step (hv2 (by have hq := congrArg Int32.toInt (hK0.get 1000 79 rfl); omega)) (by omega) (by omega) (by decide) (by omega)) (fun hz => absurd (show (I 1000 79).toInt = 0 by have hq := congrArg Int32.toInt (hK0.get 1000 79 rfl); omega) hz) (by omega) hM hS (lv_sub hl [0, 1, 2] rfl)
        · have hc3 := c3
          have q3 := q_ne hc3
          refine lv_aload_n hx hb dX10_carry_15 rfl (lv_at hl 2 rfl) ?_
          refine lv_iload_n hx hb dX10_carry_16 rfl (lv_at hl 0 rfl) ?_
          refine lv_aload_n hx hb dX10_carry_17 rfl (lv_at hl 1 rfl) ?_
          refine m_getr (1000) 76 (1076) hx hb hts hown hE oc10 hM hJ.1 rfl (by decide) rfl (hJ.2 76 (by decide)).2 (by decide) tb_1253 dX10_carry_18 ?_
          refine lv_aload_n hx hb dX10_carry_21 rfl (lv_at hl 1 rfl) ?_
          refine m_geti (1000) 78 hx hb hts hown hE oc10 hM hJ.1 rfl (by decide) rfl tb_1255 dX10_carry_22 ?_
          have g10 := hI.get (1000) 78 (lo := 0) (hi := 10880) rfl
          refine m_iald (1076) hx hb hE hM (hJ.2 76 (by decide)).1 rfl (vp_in_iff.mpr (by omega)) dX10_carry_25 ?_
          refine m_iast (1017) hx hb hE hM hS (hJ.2 17 (by decide)).1 rfl (vp_in_iff.mpr (by omega)) dX10_carry_26 (fun H locs I11 eI11 hM hS => ?_)
          subst eI11
          have hat2 : (Ia2 1000 78).toInt = 2720 * (kk : Int) + 2554 + (x2_2).toInt := hat3
          have hk0 : 0 ≤ (x2_2).toInt := by omega
          have hkn : (x2_2).toInt < 8 := by omega
          have hI := hI.putx (n := 1017) (k := ((x2_2).toNatClampNeg)) (v := Ia2 (1076) (Ia2 (1000) 78).toNatClampNeg) (by rw [← rgimF (kk := kk) (b := 2554) (n := 8) (N := 1017) (a := Ia2 1000 78) (k := x2_2) (by decide) rfl (by omega) hk0 (by omega)]; exact hI _ _)
          have hK := hK.put (n := 1017) (k := ((x2_2).toNatClampNeg)) (v := Ia2 (1076) (Ia2 (1000) 78).toNatClampNeg) (by first | rfl | simp [inR])
          refine lv_goto (tgt := 42) hx hb dX10_carry_27 (by decide) ?_
          refine lv_aload_n hx hb dX10_carry_42 rfl (lv_at hl 1 rfl) ?_
          refine lv_dup hx hb dX10_carry_43 rfl ?_
          refine m_geti (1000) 78 hx hb hts hown hE oc10 hM hJ.1 rfl (by decide) rfl tb_1255 dX10_carry_44 ?_
          have z12 : (u2 Ia2 (1017) ((x2_2).toNatClampNeg) (Ia2 (1076) (Ia2 (1000) 78).toNatClampNeg)) (1000) 78 = Ia2 (1000) 78 := (show (u2 Ia2 (1017) ((x2_2).toNatClampNeg) (Ia2 (1076) (Ia2 (1000) 78).toNatClampNeg)) (1000) 78 = Ia2 (1000) 78 from by simp [u2_v])
          rw [z12]
          refine lv_iconst (v := (1)) hx hb dX10_carry_47 (by decide) ?_
          refine lv_iadd hx hb dX10_carry_48 ?_
          refine lv_topi (fun v13 ev13 => ?_)
          have tv13 := a_add ev13 (by omega) (by omega)
          refine m_puti (1000) 78 hx hb hts hown hE oc10 hM hS hJ.1 rfl (by decide) rfl rfl rfl rfl tb_1255 dX10_carry_49 (fun H locs I14 eI14 hM hS => ?_)
          subst eI14
          have hI := hI.put (n := 1000) (k := 78) (v := v13) (lo := 0) (hi := 10880) rfl (by first | omega | decide)
          have hK := hK.put (n := 1000) (k := 78) (v := v13) (by first | rfl | simp [inR])
          obtain ⟨v15, ev15⟩ : ∃ z : Int32, z = x2_2 + Int32.ofInt (1) := ⟨_, rfl⟩
          have tv15 := a_inc ev15 (by decide) (by omega) (by omega)
          refine lv_iinc (v := v15) (lv' := [(2, .int (v15)), (0, .ref (ad (1000))), (1, .ref (ad (1017)))]) hx hb dX10_carry_52 hl (k := 0) rfl ev15.symm (by decide) rfl (fun ls hl => ?_)
          refine lv_goto (tgt := 2) hx hb dX10_carry_55 (by decide) ?_
          exact ih2 (v15) (u2 (u2 Ia2 (1017) ((x2_2).toNatClampNeg) (Ia2 (1076) (Ia2 (1000) 78).toNatClampNeg)) (1000) 78 (v13)) La2 _ _ ls hI hK (by first | omega | decide) (by rw [u2_self]; omega) (fun hz => absurd hz (show (I 1000 79).toInt ≠ 0 by have hq := congrArg Int32.toInt (hK0.get 1000 79 rfl); omega)) (fun hz => LD.step (hw2 hz) (by omega) (by omega) (by decide) (by omega)) (by omega) hM hS (lv_sub hl [0, 1, 2] rfl)
  exact loop2 (_ + 1) (0) I L _ _ ls hI hK (by first | omega | decide) (by omega) (fun _ => SV.z (by decide)) (fun _ => LD.z (by decide)) (Nat.lt_succ_self _) hM hS (lv_sub hl [0, 1, 2] rfl)
set_option maxHeartbeats 4000000 in
set_option maxRecDepth 20000 in
theorem V_X10_carry_1018 (l : Launch) (D : va_G) (A : Nat → Prop) (ad : Nat → Nat) (ns : List Nat) (I : MI) (L : ML) (G : MG) (kk : Nat) (hJ : SGM ns G) (hI : INV I) (hk4 : kk < 4) (hat : (I 1000 78).toInt = 2720 * (kk : Int) + 2562) : Met l yX10_carry (wd yX10_carry cX10_carry 3 none) ({ frames := 0, cells := 0, slots := 0, locals := 0 }) (va_Pc [.ref (ad (1000)), .ref (ad (1018))] (PM D A ad ns I L G)) (va_Qv (fun u => ∃ I2 L2, u = (ad, ns, I2, L2, G) ∧ INV I2 ∧ Kp [(1018, 1019), (1076, 1077)] [(1000, 78)] I I2 ∧ ((I2 1000 78).toInt = 2720 * (kk : Int) + 2570 ∧ ((I 1000 79).toInt = 0 → SV kk [(1018, 2562, 8)] I I2) ∧ ((I 1000 79).toInt ≠ 0 → LD kk [(1018, 2562, 8)] I I2))) (BM D A) A) 0 0 A := by
  refine m_ofW (by decide) (Nat.le_of_ble_eq_true rfl) ?_
  intro p e s m below meth c ls args hC hE hM hA hS hl
  obtain ⟨hx, hb, hml, hown, hts, hr, hlocks, hin⟩ := hC
  have k0 : (0 : Int32).toInt = 0 := by decide
  have k1 : (1 : Int32).toInt = 1 := by decide
  have k8 : (8 : Int32).toInt = 8 := by decide
  have hK : Kp [(1018, 1019), (1076, 1077)] [(1000, 78)] I I := Kp.rf
  have hl : lv_has ls 3 [(0, .ref (ad (1000))), (1, .ref (ad (1018)))] := hl
  refine lv_iconst (v := (0)) hx hb dX10_carry_0 (by decide) ?_
  refine lv_istore_n (lv' := [(2, .int (0)), (0, .ref (ad (1000))), (1, .ref (ad (1018)))]) hx hb dX10_carry_1 rfl hl (by decide) rfl (fun ls hl => ?_)
  have loop2 : ∀ (n : Nat) (x2_2 : Int32) (Ia2 : MI) (La2 : ML) (H : Heap) (locs : List Loc) (ls : Array Slot), INV Ia2 → Kp [(1018, 1019), (1076, 1077)] [(1000, 78)] I Ia2 → (0 ≤ x2_2.toInt ∧ x2_2.toInt ≤ 8) → ((Ia2 1000 78).toInt = 2720 * (kk : Int) + 2562 + (x2_2).toInt) → ((I 1000 79).toInt = 0 → SV kk [(1018, 2562, (x2_2).toNatClampNeg)] I Ia2) → ((I 1000 79).toInt ≠ 0 → LD kk [(1018, 2562, (x2_2).toNatClampNeg)] I Ia2) → (8 - x2_2.toInt).toNat < n → Mem D A ad ns Ia2 La2 G H → va_S A s.heap H locs → lv_has ls 3 [(2, .int (x2_2)), (0, .ref (ad (1000))), (1, .ref (ad (1018)))] → W p l e ({ frames := 0, cells := 0, slots := 0, locals := 0 } : Room) s m args below meth c H locs 0 0 (MQ below (va_Qv (fun u => ∃ I2 L2, u = (ad, ns, I2, L2, G) ∧ INV I2 ∧ Kp [(1018, 1019), (1076, 1077)] [(1000, 78)] I I2 ∧ ((I2 1000 78).toInt = 2720 * (kk : Int) + 2570 ∧ ((I 1000 79).toInt = 0 → SV kk [(1018, 2562, 8)] I I2) ∧ ((I 1000 79).toInt ≠ 0 → LD kk [(1018, 2562, 8)] I I2))) (BM D A) A) args s 0 0 A) (F0 m 2 ls []) := by
    intro n
    induction n with
    | zero =>
      intro x2_2 Ia2 La2 H locs ls hI hK hr2_2 hat3 hv2 hw2 hmu
      exact absurd hmu (Nat.not_lt_zero _)
    | succ n ih2 =>
      intro x2_2 Ia2 La2 H locs ls hI hK hr2_2 hat3 hv2 hw2 hmu2 hM hS hl
      have hK0 := hK
      refine lv_iload_n hx hb dX10_carry_2 rfl (lv_at hl 0 rfl) ?_
      refine lv_aload_n hx hb dX10_carry_3 rfl (lv_at hl 2 rfl) ?_
      refine m_alen 1018 (t0 := 0) (v := 8) hx hb hE hM (hJ.2 18 (by decide)).1 rfl (by decide) rfl rfl dX10_carry_4 ?_
      refine lv_icmp_ge (tgt := 58) hx hb dX10_carry_5 (by decide) (fun c1 => ?_) (fun c1 => ?_)
      · have hc1 := c1
        have q1 := q_le hc1
        exact m_vret hx hb hr hlocks hM hS (Nat.le_of_ble_eq_true rfl) (Nat.le_of_ble_eq_true rfl) ⟨_, _, rfl, hI, hK, (by have hz := cl_of (k := x2_2) (n := 8) (by omega); rw [hz] at hv2 hw2; exact ⟨by omega, hv2, hw2⟩)⟩ dX10_carry_58
      · have hc1 := c1
        have q1 := q_nle hc1
        refine lv_aload_n hx hb dX10_carry_8 rfl (lv_at hl 1 rfl) ?_
        refine m_geti (1000) 79 hx hb hts hown hE oc10 hM hJ.1 rfl (by decide) rfl tb_1256 dX10_carry_9 ?_
        have g2 := hI.get (1000) 79 (lo := 0) (hi := 1) rfl
        refine lv_if_eq (tgt := 30) hx hb dX10_carry_12 (by decide) (fun c3 => ?_) (fun c3 => ?_)
        · have hc3 := c3
          have q3 := q_eq hc3
          refine lv_aload_n hx hb dX10_carry_30 rfl (lv_at hl 1 rfl) ?_
          refine m_getr (1000) 76 (1076) hx hb hts hown hE oc10 hM hJ.1 rfl (by decide) rfl (hJ.2 76 (by decide)).2 (by decide) tb_1253 dX10_carry_31 ?_
          refine lv_aload_n hx hb dX10_carry_34 rfl (lv_at hl 1 rfl) ?_
          refine m_geti (1000) 78 hx hb hts hown hE oc10 hM hJ.1 rfl (by decide) rfl tb_1255 dX10_carry_35 ?_
          have g4 := hI.get (1000) 78 (lo := 0) (hi := 10880) rfl
          refine lv_aload_n hx hb dX10_carry_38 rfl (lv_at hl 2 rfl) ?_
          refine lv_iload_n hx hb dX10_carry_39 rfl (lv_at hl 0 rfl) ?_
          refine m_iald (1018) hx hb hE hM (hJ.2 18 (by decide)).1 rfl (vp_in_iff.mpr (by omega)) dX10_carry_40 ?_
          refine m_iast (1076) hx hb hE hM hS (hJ.2 76 (by decide)).1 rfl (vp_in_iff.mpr (by omega)) dX10_carry_41 (fun H locs I5 eI5 hM hS => ?_)
          subst eI5
          have hat2 : (Ia2 1000 78).toInt = 2720 * (kk : Int) + 2562 + (x2_2).toInt := hat3
          have hk0 : 0 ≤ (x2_2).toInt := by omega
          have hkn : (x2_2).toInt < 8 := by omega
          have hI := hI.putx (n := 1076) (k := ((Ia2 (1000) 78).toNatClampNeg)) (v := Ia2 (1018) (x2_2).toNatClampNeg) (by rw [rgimF (kk := kk) (b := 2562) (n := 8) (N := 1018) (a := Ia2 1000 78) (k := x2_2) (by decide) rfl (by omega) hk0 (by omega)]; exact hI _ _)
          have hK := hK.put (n := 1076) (k := ((Ia2 (1000) 78).toNatClampNeg)) (v := Ia2 (1018) (x2_2).toNatClampNeg) (by first | rfl | simp [inR])
          refine lv_aload_n hx hb dX10_carry_42 rfl (lv_at hl 1 rfl) ?_
          refine lv_dup hx hb dX10_carry_43 rfl ?_
          refine m_geti (1000) 78 hx hb hts hown hE oc10 hM hJ.1 rfl (by decide) rfl tb_1255 dX10_carry_44 ?_
          have z6 : (u2 Ia2 (1076) ((Ia2 (1000) 78).toNatClampNeg) (Ia2 (1018) (x2_2).toNatClampNeg)) (1000) 78 = Ia2 (1000) 78 := (show (u2 Ia2 (1076) ((Ia2 (1000) 78).toNatClampNeg) (Ia2 (1018) (x2_2).toNatClampNeg)) (1000) 78 = Ia2 (1000) 78 from by simp [u2_v])
          rw [z6]
          refine lv_iconst (v := (1)) hx hb dX10_carry_47 (by decide) ?_
          refine lv_iadd hx hb dX10_carry_48 ?_
          refine lv_topi (fun v7 ev7 => ?_)
          have tv7 := a_add ev7 (by omega) (by omega)
          refine m_puti (1000) 78 hx hb hts hown hE oc10 hM hS hJ.1 rfl (by decide) rfl rfl rfl rfl tb_1255 dX10_carry_49 (fun H locs I8 eI8 hM hS => ?_)
          subst eI8
          have hI := hI.put (n := 1000) (k := 78) (v := v7) (lo := 0) (hi := 10880) rfl (by first | omega | decide)
          have hK := hK.put (n := 1000) (k := 78) (v := v7) (by first | rfl | simp [inR])
          obtain ⟨v9, ev9⟩ : ∃ z : Int32, z = x2_2 + Int32.ofInt (1) := ⟨_, rfl⟩
          have tv9 := a_inc ev9 (by decide) (by omega) (by omega)
          refine lv_iinc (v := v9) (lv' := [(2, .int (v9)), (0, .ref (ad (1000))), (1, .ref (ad (1018)))]) hx hb dX10_carry_52 hl (k := 0) rfl ev9.symm (by decide) rfl (fun ls hl => ?_)
          refine lv_goto (tgt := 2) hx hb dX10_carry_55 (by decide) ?_
          exact ih2 (v9) (u2 (u2 Ia2 (1076) ((Ia2 (1000) 78).toNatClampNeg) (Ia2 (1018) (x2_2).toNatClampNeg)) (1000) 78 (v7)) La2 _ _ ls hI hK (by first | omega | decide) (by rw [u2_self]; omega) (fun _ => SV.step (hv2 (by have hq := congrArg Int32.toInt (hK0.get 1000 79 rfl); omega)) (by omega) (by omega) (by decide) (by omega)) (fun hz => absurd (show (I 1000 79).toInt = 0 by have hq := congrArg Int32.toInt (hK0.get 1000 79 rfl); omega) hz) (by omega) hM hS (lv_sub hl [0, 1, 2] rfl)
        · have hc3 := c3
          have q3 := q_ne hc3
          refine lv_aload_n hx hb dX10_carry_15 rfl (lv_at hl 2 rfl) ?_
          refine lv_iload_n hx hb dX10_carry_16 rfl (lv_at hl 0 rfl) ?_
          refine lv_aload_n hx hb dX10_carry_17 rfl (lv_at hl 1 rfl) ?_
          refine m_getr (1000) 76 (1076) hx hb hts hown hE oc10 hM hJ.1 rfl (by decide) rfl (hJ.2 76 (by decide)).2 (by decide) tb_1253 dX10_carry_18 ?_
          refine lv_aload_n hx hb dX10_carry_21 rfl (lv_at hl 1 rfl) ?_
          refine m_geti (1000) 78 hx hb hts hown hE oc10 hM hJ.1 rfl (by decide) rfl tb_1255 dX10_carry_22 ?_
          have g10 := hI.get (1000) 78 (lo := 0) (hi := 10880) rfl
          refine m_iald (1076) hx hb hE hM (hJ.2 76 (by decide)).1 rfl (vp_in_iff.mpr (by omega)) dX10_carry_25 ?_
          refine m_iast (1018) hx hb hE hM hS (hJ.2 18 (by decide)).1 rfl (vp_in_iff.mpr (by omega)) dX10_carry_26 (fun H locs I11 eI11 hM hS => ?_)
          subst eI11
          have hat2 : (Ia2 1000 78).toInt = 2720 * (kk : Int) + 2562 + (x2_2).toInt := hat3
          have hk0 : 0 ≤ (x2_2).toInt := by omega
          have hkn : (x2_2).toInt < 8 := by omega
          have hI := hI.putx (n := 1018) (k := ((x2_2).toNatClampNeg)) (v := Ia2 (1076) (Ia2 (1000) 78).toNatClampNeg) (by rw [← rgimF (kk := kk) (b := 2562) (n := 8) (N := 1018) (a := Ia2 1000 78) (k := x2_2) (by decide) rfl (by omega) hk0 (by omega)]; exact hI _ _)
          have hK := hK.put (n := 1018) (k := ((x2_2).toNatClampNeg)) (v := Ia2 (1076) (Ia2 (1000) 78).toNatClampNeg) (by first | rfl | simp [inR])
          refine lv_goto (tgt := 42) hx hb dX10_carry_27 (by decide) ?_
          refine lv_aload_n hx hb dX10_carry_42 rfl (lv_at hl 1 rfl) ?_
          refine lv_dup hx hb dX10_carry_43 rfl ?_
          refine m_geti (1000) 78 hx hb hts hown hE oc10 hM hJ.1 rfl (by decide) rfl tb_1255 dX10_carry_44 ?_
          have z12 : (u2 Ia2 (1018) ((x2_2).toNatClampNeg) (Ia2 (1076) (Ia2 (1000) 78).toNatClampNeg)) (1000) 78 = Ia2 (1000) 78 := (show (u2 Ia2 (1018) ((x2_2).toNatClampNeg) (Ia2 (1076) (Ia2 (1000) 78).toNatClampNeg)) (1000) 78 = Ia2 (1000) 78 from by simp [u2_v])
          rw [z12]
          refine lv_iconst (v := (1)) hx hb dX10_carry_47 (by decide) ?_
          refine lv_iadd hx hb dX10_carry_48 ?_
          refine lv_topi (fun v13 ev13 => ?_)
          have tv13 := a_add ev13 (by omega) (by omega)
          refine m_puti (1000) 78 hx hb hts hown hE oc10 hM hS hJ.1 rfl (by decide) rfl rfl rfl rfl tb_1255 dX10_carry_49 (fun H locs I14 eI14 hM hS => ?_)
          subst eI14
          have hI := hI.put (n := 1000) (k := 78) (v := v13) (lo := 0) (hi := 10880) rfl (by first | omega | decide)
          have hK := hK.put (n := 1000) (k := 78) (v := v13) (by first | rfl | simp [inR])
          obtain ⟨v15, ev15⟩ : ∃ z : Int32, z = x2_2 + Int32.ofInt (1) := ⟨_, rfl⟩
          have tv15 := a_inc ev15 (by decide) (by omega) (by omega)
          refine lv_iinc (v := v15) (lv' := [(2, .int (v15)), (0, .ref (ad (1000))), (1, .ref (ad (1018)))]) hx hb dX10_carry_52 hl (k := 0) rfl ev15.symm (by decide) rfl (fun ls hl => ?_)
          refine lv_goto (tgt := 2) hx hb dX10_carry_55 (by decide) ?_
          exact ih2 (v15) (u2 (u2 Ia2 (1018) ((x2_2).toNatClampNeg) (Ia2 (1076) (Ia2 (1000) 78).toNatClampNeg)) (1000) 78 (v13)) La2 _ _ ls hI hK (by first | omega | decide) (by rw [u2_self]; omega) (fun hz => absurd hz (show (I 1000 79).toInt ≠ 0 by have hq := congrArg Int32.toInt (hK0.get 1000 79 rfl); omega)) (fun hz => LD.step (hw2 hz) (by omega) (by omega) (by decide) (by omega)) (by omega) hM hS (lv_sub hl [0, 1, 2] rfl)
  exact loop2 (_ + 1) (0) I L _ _ ls hI hK (by first | omega | decide) (by omega) (fun _ => SV.z (by decide)) (fun _ => LD.z (by decide)) (Nat.lt_succ_self _) hM hS (lv_sub hl [0, 1, 2] rfl)
set_option maxHeartbeats 4000000 in
set_option maxRecDepth 20000 in
theorem V_X10_carry_1019 (l : Launch) (D : va_G) (A : Nat → Prop) (ad : Nat → Nat) (ns : List Nat) (I : MI) (L : ML) (G : MG) (kk : Nat) (hJ : SGM ns G) (hI : INV I) (hk4 : kk < 4) (hat : (I 1000 78).toInt = 2720 * (kk : Int) + 2570) : Met l yX10_carry (wd yX10_carry cX10_carry 3 none) ({ frames := 0, cells := 0, slots := 0, locals := 0 }) (va_Pc [.ref (ad (1000)), .ref (ad (1019))] (PM D A ad ns I L G)) (va_Qv (fun u => ∃ I2 L2, u = (ad, ns, I2, L2, G) ∧ INV I2 ∧ Kp [(1019, 1020), (1076, 1077)] [(1000, 78)] I I2 ∧ ((I2 1000 78).toInt = 2720 * (kk : Int) + 2578 ∧ ((I 1000 79).toInt = 0 → SV kk [(1019, 2570, 8)] I I2) ∧ ((I 1000 79).toInt ≠ 0 → LD kk [(1019, 2570, 8)] I I2))) (BM D A) A) 0 0 A := by
  refine m_ofW (by decide) (Nat.le_of_ble_eq_true rfl) ?_
  intro p e s m below meth c ls args hC hE hM hA hS hl
  obtain ⟨hx, hb, hml, hown, hts, hr, hlocks, hin⟩ := hC
  have k0 : (0 : Int32).toInt = 0 := by decide
  have k1 : (1 : Int32).toInt = 1 := by decide
  have k8 : (8 : Int32).toInt = 8 := by decide
  have hK : Kp [(1019, 1020), (1076, 1077)] [(1000, 78)] I I := Kp.rf
  have hl : lv_has ls 3 [(0, .ref (ad (1000))), (1, .ref (ad (1019)))] := hl
  refine lv_iconst (v := (0)) hx hb dX10_carry_0 (by decide) ?_
  refine lv_istore_n (lv' := [(2, .int (0)), (0, .ref (ad (1000))), (1, .ref (ad (1019)))]) hx hb dX10_carry_1 rfl hl (by decide) rfl (fun ls hl => ?_)
  have loop2 : ∀ (n : Nat) (x2_2 : Int32) (Ia2 : MI) (La2 : ML) (H : Heap) (locs : List Loc) (ls : Array Slot), INV Ia2 → Kp [(1019, 1020), (1076, 1077)] [(1000, 78)] I Ia2 → (0 ≤ x2_2.toInt ∧ x2_2.toInt ≤ 8) → ((Ia2 1000 78).toInt = 2720 * (kk : Int) + 2570 + (x2_2).toInt) → ((I 1000 79).toInt = 0 → SV kk [(1019, 2570, (x2_2).toNatClampNeg)] I Ia2) → ((I 1000 79).toInt ≠ 0 → LD kk [(1019, 2570, (x2_2).toNatClampNeg)] I Ia2) → (8 - x2_2.toInt).toNat < n → Mem D A ad ns Ia2 La2 G H → va_S A s.heap H locs → lv_has ls 3 [(2, .int (x2_2)), (0, .ref (ad (1000))), (1, .ref (ad (1019)))] → W p l e ({ frames := 0, cells := 0, slots := 0, locals := 0 } : Room) s m args below meth c H locs 0 0 (MQ below (va_Qv (fun u => ∃ I2 L2, u = (ad, ns, I2, L2, G) ∧ INV I2 ∧ Kp [(1019, 1020), (1076, 1077)] [(1000, 78)] I I2 ∧ ((I2 1000 78).toInt = 2720 * (kk : Int) + 2578 ∧ ((I 1000 79).toInt = 0 → SV kk [(1019, 2570, 8)] I I2) ∧ ((I 1000 79).toInt ≠ 0 → LD kk [(1019, 2570, 8)] I I2))) (BM D A) A) args s 0 0 A) (F0 m 2 ls []) := by
    intro n
    induction n with
    | zero =>
      intro x2_2 Ia2 La2 H locs ls hI hK hr2_2 hat3 hv2 hw2 hmu
      exact absurd hmu (Nat.not_lt_zero _)
    | succ n ih2 =>
      intro x2_2 Ia2 La2 H locs ls hI hK hr2_2 hat3 hv2 hw2 hmu2 hM hS hl
      have hK0 := hK
      refine lv_iload_n hx hb dX10_carry_2 rfl (lv_at hl 0 rfl) ?_
      refine lv_aload_n hx hb dX10_carry_3 rfl (lv_at hl 2 rfl) ?_
      refine m_alen 1019 (t0 := 0) (v := 8) hx hb hE hM (hJ.2 19 (by decide)).1 rfl (by decide) rfl rfl dX10_carry_4 ?_
      refine lv_icmp_ge (tgt := 58) hx hb dX10_carry_5 (by decide) (fun c1 => ?_) (fun c1 => ?_)
      · have hc1 := c1
        have q1 := q_le hc1
        exact m_vret hx hb hr hlocks hM hS (Nat.le_of_ble_eq_true rfl) (Nat.le_of_ble_eq_true rfl) ⟨_, _, rfl, hI, hK, (by have hz := cl_of (k := x2_2) (n := 8) (by omega); rw [hz] at hv2 hw2; exact ⟨by omega, hv2, hw2⟩)⟩ dX10_carry_58
      · have hc1 := c1
        have q1 := q_nle hc1
        refine lv_aload_n hx hb dX10_carry_8 rfl (lv_at hl 1 rfl) ?_
        refine m_geti (1000) 79 hx hb hts hown hE oc10 hM hJ.1 rfl (by decide) rfl tb_1256 dX10_carry_9 ?_
        have g2 := hI.get (1000) 79 (lo := 0) (hi := 1) rfl
        refine lv_if_eq (tgt := 30) hx hb dX10_carry_12 (by decide) (fun c3 => ?_) (fun c3 => ?_)
        · have hc3 := c3
          have q3 := q_eq hc3
          refine lv_aload_n hx hb dX10_carry_30 rfl (lv_at hl 1 rfl) ?_
          refine m_getr (1000) 76 (1076) hx hb hts hown hE oc10 hM hJ.1 rfl (by decide) rfl (hJ.2 76 (by decide)).2 (by decide) tb_1253 dX10_carry_31 ?_
          refine lv_aload_n hx hb dX10_carry_34 rfl (lv_at hl 1 rfl) ?_
          refine m_geti (1000) 78 hx hb hts hown hE oc10 hM hJ.1 rfl (by decide) rfl tb_1255 dX10_carry_35 ?_
          have g4 := hI.get (1000) 78 (lo := 0) (hi := 10880) rfl
          refine lv_aload_n hx hb dX10_carry_38 rfl (lv_at hl 2 rfl) ?_
          refine lv_iload_n hx hb dX10_carry_39 rfl (lv_at hl 0 rfl) ?_
          refine m_iald (1019) hx hb hE hM (hJ.2 19 (by decide)).1 rfl (vp_in_iff.mpr (by omega)) dX10_carry_40 ?_
          refine m_iast (1076) hx hb hE hM hS (hJ.2 76 (by decide)).1 rfl (vp_in_iff.mpr (by omega)) dX10_carry_41 (fun H locs I5 eI5 hM hS => ?_)
          subst eI5
          have hat2 : (Ia2 1000 78).toInt = 2720 * (kk : Int) + 2570 + (x2_2).toInt := hat3
          have hk0 : 0 ≤ (x2_2).toInt := by omega
          have hkn : (x2_2).toInt < 8 := by omega
          have hI := hI.putx (n := 1076) (k := ((Ia2 (1000) 78).toNatClampNeg)) (v := Ia2 (1019) (x2_2).toNatClampNeg) (by rw [rgimF (kk := kk) (b := 2570) (n := 8) (N := 1019) (a := Ia2 1000 78) (k := x2_2) (by decide) rfl (by omega) hk0 (by omega)]; exact hI _ _)
          have hK := hK.put (n := 1076) (k := ((Ia2 (1000) 78).toNatClampNeg)) (v := Ia2 (1019) (x2_2).toNatClampNeg) (by first | rfl | simp [inR])
          refine lv_aload_n hx hb dX10_carry_42 rfl (lv_at hl 1 rfl) ?_
          refine lv_dup hx hb dX10_carry_43 rfl ?_
          refine m_geti (1000) 78 hx hb hts hown hE oc10 hM hJ.1 rfl (by decide) rfl tb_1255 dX10_carry_44 ?_
          have z6 : (u2 Ia2 (1076) ((Ia2 (1000) 78).toNatClampNeg) (Ia2 (1019) (x2_2).toNatClampNeg)) (1000) 78 = Ia2 (1000) 78 := (show (u2 Ia2 (1076) ((Ia2 (1000) 78).toNatClampNeg) (Ia2 (1019) (x2_2).toNatClampNeg)) (1000) 78 = Ia2 (1000) 78 from by simp [u2_v])
          rw [z6]
          refine lv_iconst (v := (1)) hx hb dX10_carry_47 (by decide) ?_
          refine lv_iadd hx hb dX10_carry_48 ?_
          refine lv_topi (fun v7 ev7 => ?_)
          have tv7 := a_add ev7 (by omega) (by omega)
          refine m_puti (1000) 78 hx hb hts hown hE oc10 hM hS hJ.1 rfl (by decide) rfl rfl rfl rfl tb_1255 dX10_carry_49 (fun H locs I8 eI8 hM hS => ?_)
          subst eI8
          have hI := hI.put (n := 1000) (k := 78) (v := v7) (lo := 0) (hi := 10880) rfl (by first | omega | decide)
          have hK := hK.put (n := 1000) (k := 78) (v := v7) (by first | rfl | simp [inR])
          obtain ⟨v9, ev9⟩ : ∃ z : Int32, z = x2_2 + Int32.ofInt (1) := ⟨_, rfl⟩
          have tv9 := a_inc ev9 (by decide) (by omega) (by omega)
          refine lv_iinc (v := v9) (lv' := [(2, .int (v9)), (0, .ref (ad (1000))), (1, .ref (ad (1019)))]) hx hb dX10_carry_52 hl (k := 0) rfl ev9.symm (by decide) rfl (fun ls hl => ?_)
          refine lv_goto (tgt := 2) hx hb dX10_carry_55 (by decide) ?_
          exact ih2 (v9) (u2 (u2 Ia2 (1076) ((Ia2 (1000) 78).toNatClampNeg) (Ia2 (1019) (x2_2).toNatClampNeg)) (1000) 78 (v7)) La2 _ _ ls hI hK (by first | omega | decide) (by rw [u2_self]; omega) (fun _ => SV.step (hv2 (by have hq := congrArg Int32.toInt (hK0.get 1000 79 rfl); omega)) (by omega) (by omega) (by decide) (by omega)) (fun hz => absurd (show (I 1000 79).toInt = 0 by have hq := congrArg Int32.toInt (hK0.get 1000 79 rfl); omega) hz) (by omega) hM hS (lv_sub hl [0, 1, 2] rfl)
        · have hc3 := c3
          have q3 := q_ne hc3
          refine lv_aload_n hx hb dX10_carry_15 rfl (lv_at hl 2 rfl) ?_
          refine lv_iload_n hx hb dX10_carry_16 rfl (lv_at hl 0 rfl) ?_
          refine lv_aload_n hx hb dX10_carry_17 rfl (lv_at hl 1 rfl) ?_
          refine m_getr (1000) 76 (1076) hx hb hts hown hE oc10 hM hJ.1 rfl (by decide) rfl (hJ.2 76 (by decide)).2 (by decide) tb_1253 dX10_carry_18 ?_
          refine lv_aload_n hx hb dX10_carry_21 rfl (lv_at hl 1 rfl) ?_
          refine m_geti (1000) 78 hx hb hts hown hE oc10 hM hJ.1 rfl (by decide) rfl tb_1255 dX10_carry_22 ?_
          have g10 := hI.get (1000) 78 (lo := 0) (hi := 10880) rfl
          refine m_iald (1076) hx hb hE hM (hJ.2 76 (by decide)).1 rfl (vp_in_iff.mpr (by omega)) dX10_carry_25 ?_
          refine m_iast (1019) hx hb hE hM hS (hJ.2 19 (by decide)).1 rfl (vp_in_iff.mpr (by omega)) dX10_carry_26 (fun H locs I11 eI11 hM hS => ?_)
          subst eI11
          have hat2 : (Ia2 1000 78).toInt = 2720 * (kk : Int) + 2570 + (x2_2).toInt := hat3
          have hk0 : 0 ≤ (x2_2).toInt := by omega
          have hkn : (x2_2).toInt < 8 := by omega
          have hI := hI.putx (n := 1019) (k := ((x2_2).toNatClampNeg)) (v := Ia2 (1076) (Ia2 (1000) 78).toNatClampNeg) (by rw [← rgimF (kk := kk) (b := 2570) (n := 8) (N := 1019) (a := Ia2 1000 78) (k := x2_2) (by decide) rfl (by omega) hk0 (by omega)]; exact hI _ _)
          have hK := hK.put (n := 1019) (k := ((x2_2).toNatClampNeg)) (v := Ia2 (1076) (Ia2 (1000) 78).toNatClampNeg) (by first | rfl | simp [inR])
          refine lv_goto (tgt := 42) hx hb dX10_carry_27 (by decide) ?_
          refine lv_aload_n hx hb dX10_carry_42 rfl (lv_at hl 1 rfl) ?_
          refine lv_dup hx hb dX10_carry_43 rfl ?_
          refine m_geti (1000) 78 hx hb hts hown hE oc10 hM hJ.1 rfl (by decide) rfl tb_1255 dX10_carry_44 ?_
          have z12 : (u2 Ia2 (1019) ((x2_2).toNatClampNeg) (Ia2 (1076) (Ia2 (1000) 78).toNatClampNeg)) (1000) 78 = Ia2 (1000) 78 := (show (u2 Ia2 (1019) ((x2_2).toNatClampNeg) (Ia2 (1076) (Ia2 (1000) 78).toNatClampNeg)) (1000) 78 = Ia2 (1000) 78 from by simp [u2_v])
          rw [z12]
          refine lv_iconst (v := (1)) hx hb dX10_carry_47 (by decide) ?_
          refine lv_iadd hx hb dX10_carry_48 ?_
          refine lv_topi (fun v13 ev13 => ?_)
          have tv13 := a_add ev13 (by omega) (by omega)
          refine m_puti (1000) 78 hx hb hts hown hE oc10 hM hS hJ.1 rfl (by decide) rfl rfl rfl rfl tb_1255 dX10_carry_49 (fun H locs I14 eI14 hM hS => ?_)
          subst eI14
          have hI := hI.put (n := 1000) (k := 78) (v := v13) (lo := 0) (hi := 10880) rfl (by first | omega | decide)
          have hK := hK.put (n := 1000) (k := 78) (v := v13) (by first | rfl | simp [inR])
          obtain ⟨v15, ev15⟩ : ∃ z : Int32, z = x2_2 + Int32.ofInt (1) := ⟨_, rfl⟩
          have tv15 := a_inc ev15 (by decide) (by omega) (by omega)
          refine lv_iinc (v := v15) (lv' := [(2, .int (v15)), (0, .ref (ad (1000))), (1, .ref (ad (1019)))]) hx hb dX10_carry_52 hl (k := 0) rfl ev15.symm (by decide) rfl (fun ls hl => ?_)
          refine lv_goto (tgt := 2) hx hb dX10_carry_55 (by decide) ?_
          exact ih2 (v15) (u2 (u2 Ia2 (1019) ((x2_2).toNatClampNeg) (Ia2 (1076) (Ia2 (1000) 78).toNatClampNeg)) (1000) 78 (v13)) La2 _ _ ls hI hK (by first | omega | decide) (by rw [u2_self]; omega) (fun hz => absurd hz (show (I 1000 79).toInt ≠ 0 by have hq := congrArg Int32.toInt (hK0.get 1000 79 rfl); omega)) (fun hz => LD.step (hw2 hz) (by omega) (by omega) (by decide) (by omega)) (by omega) hM hS (lv_sub hl [0, 1, 2] rfl)
  exact loop2 (_ + 1) (0) I L _ _ ls hI hK (by first | omega | decide) (by omega) (fun _ => SV.z (by decide)) (fun _ => LD.z (by decide)) (Nat.lt_succ_self _) hM hS (lv_sub hl [0, 1, 2] rfl)
set_option maxHeartbeats 4000000 in
set_option maxRecDepth 20000 in
theorem V_X10_carry_1020 (l : Launch) (D : va_G) (A : Nat → Prop) (ad : Nat → Nat) (ns : List Nat) (I : MI) (L : ML) (G : MG) (kk : Nat) (hJ : SGM ns G) (hI : INV I) (hk4 : kk < 4) (hat : (I 1000 78).toInt = 2720 * (kk : Int) + 2578) : Met l yX10_carry (wd yX10_carry cX10_carry 3 none) ({ frames := 0, cells := 0, slots := 0, locals := 0 }) (va_Pc [.ref (ad (1000)), .ref (ad (1020))] (PM D A ad ns I L G)) (va_Qv (fun u => ∃ I2 L2, u = (ad, ns, I2, L2, G) ∧ INV I2 ∧ Kp [(1020, 1021), (1076, 1077)] [(1000, 78)] I I2 ∧ ((I2 1000 78).toInt = 2720 * (kk : Int) + 2586 ∧ ((I 1000 79).toInt = 0 → SV kk [(1020, 2578, 8)] I I2) ∧ ((I 1000 79).toInt ≠ 0 → LD kk [(1020, 2578, 8)] I I2))) (BM D A) A) 0 0 A := by
  refine m_ofW (by decide) (Nat.le_of_ble_eq_true rfl) ?_
  intro p e s m below meth c ls args hC hE hM hA hS hl
  obtain ⟨hx, hb, hml, hown, hts, hr, hlocks, hin⟩ := hC
  have k0 : (0 : Int32).toInt = 0 := by decide
  have k1 : (1 : Int32).toInt = 1 := by decide
  have k8 : (8 : Int32).toInt = 8 := by decide
  have hK : Kp [(1020, 1021), (1076, 1077)] [(1000, 78)] I I := Kp.rf
  have hl : lv_has ls 3 [(0, .ref (ad (1000))), (1, .ref (ad (1020)))] := hl
  refine lv_iconst (v := (0)) hx hb dX10_carry_0 (by decide) ?_
  refine lv_istore_n (lv' := [(2, .int (0)), (0, .ref (ad (1000))), (1, .ref (ad (1020)))]) hx hb dX10_carry_1 rfl hl (by decide) rfl (fun ls hl => ?_)
  have loop2 : ∀ (n : Nat) (x2_2 : Int32) (Ia2 : MI) (La2 : ML) (H : Heap) (locs : List Loc) (ls : Array Slot), INV Ia2 → Kp [(1020, 1021), (1076, 1077)] [(1000, 78)] I Ia2 → (0 ≤ x2_2.toInt ∧ x2_2.toInt ≤ 8) → ((Ia2 1000 78).toInt = 2720 * (kk : Int) + 2578 + (x2_2).toInt) → ((I 1000 79).toInt = 0 → SV kk [(1020, 2578, (x2_2).toNatClampNeg)] I Ia2) → ((I 1000 79).toInt ≠ 0 → LD kk [(1020, 2578, (x2_2).toNatClampNeg)] I Ia2) → (8 - x2_2.toInt).toNat < n → Mem D A ad ns Ia2 La2 G H → va_S A s.heap H locs → lv_has ls 3 [(2, .int (x2_2)), (0, .ref (ad (1000))), (1, .ref (ad (1020)))] → W p l e ({ frames := 0, cells := 0, slots := 0, locals := 0 } : Room) s m args below meth c H locs 0 0 (MQ below (va_Qv (fun u => ∃ I2 L2, u = (ad, ns, I2, L2, G) ∧ INV I2 ∧ Kp [(1020, 1021), (1076, 1077)] [(1000, 78)] I I2 ∧ ((I2 1000 78).toInt = 2720 * (kk : Int) + 2586 ∧ ((I 1000 79).toInt = 0 → SV kk [(1020, 2578, 8)] I I2) ∧ ((I 1000 79).toInt ≠ 0 → LD kk [(1020, 2578, 8)] I I2))) (BM D A) A) args s 0 0 A) (F0 m 2 ls []) := by
    intro n
    induction n with
    | zero =>
      intro x2_2 Ia2 La2 H locs ls hI hK hr2_2 hat3 hv2 hw2 hmu
      exact absurd hmu (Nat.not_lt_zero _)
    | succ n ih2 =>
      intro x2_2 Ia2 La2 H locs ls hI hK hr2_2 hat3 hv2 hw2 hmu2 hM hS hl
      have hK0 := hK
      refine lv_iload_n hx hb dX10_carry_2 rfl (lv_at hl 0 rfl) ?_
      refine lv_aload_n hx hb dX10_carry_3 rfl (lv_at hl 2 rfl) ?_
      refine m_alen 1020 (t0 := 0) (v := 8) hx hb hE hM (hJ.2 20 (by decide)).1 rfl (by decide) rfl rfl dX10_carry_4 ?_
      refine lv_icmp_ge (tgt := 58) hx hb dX10_carry_5 (by decide) (fun c1 => ?_) (fun c1 => ?_)
      · have hc1 := c1
        have q1 := q_le hc1
        exact m_vret hx hb hr hlocks hM hS (Nat.le_of_ble_eq_true rfl) (Nat.le_of_ble_eq_true rfl) ⟨_, _, rfl, hI, hK, (by have hz := cl_of (k := x2_2) (n := 8) (by omega); rw [hz] at hv2 hw2; exact ⟨by omega, hv2, hw2⟩)⟩ dX10_carry_58
      · have hc1 := c1
        have q1 := q_nle hc1
        refine lv_aload_n hx hb dX10_carry_8 rfl (lv_at hl 1 rfl) ?_
        refine m_geti (1000) 79 hx hb hts hown hE oc10 hM hJ.1 rfl (by decide) rfl tb_1256 dX10_carry_9 ?_
        have g2 := hI.get (1000) 79 (lo := 0) (hi := 1) rfl
        refine lv_if_eq (tgt := 30) hx hb dX10_carry_12 (by decide) (fun c3 => ?_) (fun c3 => ?_)
        · have hc3 := c3
          have q3 := q_eq hc3
          refine lv_aload_n hx hb dX10_carry_30 rfl (lv_at hl 1 rfl) ?_
          refine m_getr (1000) 76 (1076) hx hb hts hown hE oc10 hM hJ.1 rfl (by decide) rfl (hJ.2 76 (by decide)).2 (by decide) tb_1253 dX10_carry_31 ?_
          refine lv_aload_n hx hb dX10_carry_34 rfl (lv_at hl 1 rfl) ?_
          refine m_geti (1000) 78 hx hb hts hown hE oc10 hM hJ.1 rfl (by decide) rfl tb_1255 dX10_carry_35 ?_
          have g4 := hI.get (1000) 78 (lo := 0) (hi := 10880) rfl
          refine lv_aload_n hx hb dX10_carry_38 rfl (lv_at hl 2 rfl) ?_
          refine lv_iload_n hx hb dX10_carry_39 rfl (lv_at hl 0 rfl) ?_
          refine m_iald (1020) hx hb hE hM (hJ.2 20 (by decide)).1 rfl (vp_in_iff.mpr (by omega)) dX10_carry_40 ?_
          refine m_iast (1076) hx hb hE hM hS (hJ.2 76 (by decide)).1 rfl (vp_in_iff.mpr (by omega)) dX10_carry_41 (fun H locs I5 eI5 hM hS => ?_)
          subst eI5
          have hat2 : (Ia2 1000 78).toInt = 2720 * (kk : Int) + 2578 + (x2_2).toInt := hat3
          have hk0 : 0 ≤ (x2_2).toInt := by omega
          have hkn : (x2_2).toInt < 8 := by omega
          have hI := hI.putx (n := 1076) (k := ((Ia2 (1000) 78).toNatClampNeg)) (v := Ia2 (1020) (x2_2).toNatClampNeg) (by rw [rgimF (kk := kk) (b := 2578) (n := 8) (N := 1020) (a := Ia2 1000 78) (k := x2_2) (by decide) rfl (by omega) hk0 (by omega)]; exact hI _ _)
          have hK := hK.put (n := 1076) (k := ((Ia2 (1000) 78).toNatClampNeg)) (v := Ia2 (1020) (x2_2).toNatClampNeg) (by first | rfl | simp [inR])
          refine lv_aload_n hx hb dX10_carry_42 rfl (lv_at hl 1 rfl) ?_
          refine lv_dup hx hb dX10_carry_43 rfl ?_
          refine m_geti (1000) 78 hx hb hts hown hE oc10 hM hJ.1 rfl (by decide) rfl tb_1255 dX10_carry_44 ?_
          have z6 : (u2 Ia2 (1076) ((Ia2 (1000) 78).toNatClampNeg) (Ia2 (1020) (x2_2).toNatClampNeg)) (1000) 78 = Ia2 (1000) 78 := (show (u2 Ia2 (1076) ((Ia2 (1000) 78).toNatClampNeg) (Ia2 (1020) (x2_2).toNatClampNeg)) (1000) 78 = Ia2 (1000) 78 from by simp [u2_v])
          rw [z6]
          refine lv_iconst (v := (1)) hx hb dX10_carry_47 (by decide) ?_
          refine lv_iadd hx hb dX10_carry_48 ?_
          refine lv_topi (fun v7 ev7 => ?_)
          have tv7 := a_add ev7 (by omega) (by omega)
          refine m_puti (1000) 78 hx hb hts hown hE oc10 hM hS hJ.1 rfl (by decide) rfl rfl rfl rfl tb_1255 dX10_carry_49 (fun H locs I8 eI8 hM hS => ?_)
          subst eI8
          have hI := hI.put (n := 1000) (k := 78) (v := v7) (lo := 0) (hi := 10880) rfl (by first | omega | decide)
          have hK := hK.put (n := 1000) (k := 78) (v := v7) (by first | rfl | simp [inR])
          obtain ⟨v9, ev9⟩ : ∃ z : Int32, z = x2_2 + Int32.ofInt (1) := ⟨_, rfl⟩
          have tv9 := a_inc ev9 (by decide) (by omega) (by omega)
          refine lv_iinc (v := v9) (lv' := [(2, .int (v9)), (0, .ref (ad (1000))), (1, .ref (ad (1020)))]) hx hb dX10_carry_52 hl (k := 0) rfl ev9.symm (by decide) rfl (fun ls hl => ?_)
          refine lv_goto (tgt := 2) hx hb dX10_carry_55 (by decide) ?_
          exact ih2 (v9) (u2 (u2 Ia2 (1076) ((Ia2 (1000) 78).toNatClampNeg) (Ia2 (1020) (x2_2).toNatClampNeg)) (1000) 78 (v7)) La2 _ _ ls hI hK (by first | omega | decide) (by rw [u2_self]; omega) (fun _ => SV.step (hv2 (by have hq := congrArg Int32.toInt (hK0.get 1000 79 rfl); omega)) (by omega) (by omega) (by decide) (by omega)) (fun hz => absurd (show (I 1000 79).toInt = 0 by have hq := congrArg Int32.toInt (hK0.get 1000 79 rfl); omega) hz) (by omega) hM hS (lv_sub hl [0, 1, 2] rfl)
        · have hc3 := c3
          have q3 := q_ne hc3
          refine lv_aload_n hx hb dX10_carry_15 rfl (lv_at hl 2 rfl) ?_
          refine lv_iload_n hx hb dX10_carry_16 rfl (lv_at hl 0 rfl) ?_
          refine lv_aload_n hx hb dX10_carry_17 rfl (lv_at hl 1 rfl) ?_
          refine m_getr (1000) 76 (1076) hx hb hts hown hE oc10 hM hJ.1 rfl (by decide) rfl (hJ.2 76 (by decide)).2 (by decide) tb_1253 dX10_carry_18 ?_
          refine lv_aload_n hx hb dX10_carry_21 rfl (lv_at hl 1 rfl) ?_
          refine m_geti (1000) 78 hx hb hts hown hE oc10 hM hJ.1 rfl (by decide) rfl tb_1255 dX10_carry_22 ?_
          have g10 := hI.get (1000) 78 (lo := 0) (hi := 10880) rfl
          refine m_iald (1076) hx hb hE hM (hJ.2 76 (by decide)).1 rfl (vp_in_iff.mpr (by omega)) dX10_carry_25 ?_
          refine m_iast (1020) hx hb hE hM hS (hJ.2 20 (by decide)).1 rfl (vp_in_iff.mpr (by omega)) dX10_carry_26 (fun H locs I11 eI11 hM hS => ?_)
          subst eI11
          have hat2 : (Ia2 1000 78).toInt = 2720 * (kk : Int) + 2578 + (x2_2).toInt := hat3
          have hk0 : 0 ≤ (x2_2).toInt := by omega
          have hkn : (x2_2).toInt < 8 := by omega
          have hI := hI.putx (n := 1020) (k := ((x2_2).toNatClampNeg)) (v := Ia2 (1076) (Ia2 (1000) 78).toNatClampNeg) (by rw [← rgimF (kk := kk) (b := 2578) (n := 8) (N := 1020) (a := Ia2 1000 78) (k := x2_2) (by decide) rfl (by omega) hk0 (by omega)]; exact hI _ _)
          have hK := hK.put (n := 1020) (k := ((x2_2).toNatClampNeg)) (v := Ia2 (1076) (Ia2 (1000) 78).toNatClampNeg) (by first | rfl | simp [inR])
          refine lv_goto (tgt := 42) hx hb dX10_carry_27 (by decide) ?_
          refine lv_aload_n hx hb dX10_carry_42 rfl (lv_at hl 1 rfl) ?_
          refine lv_dup hx hb dX10_carry_43 rfl ?_
          refine m_geti (1000) 78 hx hb hts hown hE oc10 hM hJ.1 rfl (by decide) rfl tb_1255 dX10_carry_44 ?_
          have z12 : (u2 Ia2 (1020) ((x2_2).toNatClampNeg) (Ia2 (1076) (Ia2 (1000) 78).toNatClampNeg)) (1000) 78 = Ia2 (1000) 78 := (show (u2 Ia2 (1020) ((x2_2).toNatClampNeg) (Ia2 (1076) (Ia2 (1000) 78).toNatClampNeg)) (1000) 78 = Ia2 (1000) 78 from by simp [u2_v])
          rw [z12]
          refine lv_iconst (v := (1)) hx hb dX10_carry_47 (by decide) ?_
          refine lv_iadd hx hb dX10_carry_48 ?_
          refine lv_topi (fun v13 ev13 => ?_)
          have tv13 := a_add ev13 (by omega) (by omega)
          refine m_puti (1000) 78 hx hb hts hown hE oc10 hM hS hJ.1 rfl (by decide) rfl rfl rfl rfl tb_1255 dX10_carry_49 (fun H locs I14 eI14 hM hS => ?_)
          subst eI14
          have hI := hI.put (n := 1000) (k := 78) (v := v13) (lo := 0) (hi := 10880) rfl (by first | omega | decide)
          have hK := hK.put (n := 1000) (k := 78) (v := v13) (by first | rfl | simp [inR])
          obtain ⟨v15, ev15⟩ : ∃ z : Int32, z = x2_2 + Int32.ofInt (1) := ⟨_, rfl⟩
          have tv15 := a_inc ev15 (by decide) (by omega) (by omega)
          refine lv_iinc (v := v15) (lv' := [(2, .int (v15)), (0, .ref (ad (1000))), (1, .ref (ad (1020)))]) hx hb dX10_carry_52 hl (k := 0) rfl ev15.symm (by decide) rfl (fun ls hl => ?_)
          refine lv_goto (tgt := 2) hx hb dX10_carry_55 (by decide) ?_
          exact ih2 (v15) (u2 (u2 Ia2 (1020) ((x2_2).toNatClampNeg) (Ia2 (1076) (Ia2 (1000) 78).toNatClampNeg)) (1000) 78 (v13)) La2 _ _ ls hI hK (by first | omega | decide) (by rw [u2_self]; omega) (fun hz => absurd hz (show (I 1000 79).toInt ≠ 0 by have hq := congrArg Int32.toInt (hK0.get 1000 79 rfl); omega)) (fun hz => LD.step (hw2 hz) (by omega) (by omega) (by decide) (by omega)) (by omega) hM hS (lv_sub hl [0, 1, 2] rfl)
  exact loop2 (_ + 1) (0) I L _ _ ls hI hK (by first | omega | decide) (by omega) (fun _ => SV.z (by decide)) (fun _ => LD.z (by decide)) (Nat.lt_succ_self _) hM hS (lv_sub hl [0, 1, 2] rfl)
set_option maxHeartbeats 4000000 in
set_option maxRecDepth 20000 in
theorem V_X10_carry_1021 (l : Launch) (D : va_G) (A : Nat → Prop) (ad : Nat → Nat) (ns : List Nat) (I : MI) (L : ML) (G : MG) (kk : Nat) (hJ : SGM ns G) (hI : INV I) (hk4 : kk < 4) (hat : (I 1000 78).toInt = 2720 * (kk : Int) + 2586) : Met l yX10_carry (wd yX10_carry cX10_carry 3 none) ({ frames := 0, cells := 0, slots := 0, locals := 0 }) (va_Pc [.ref (ad (1000)), .ref (ad (1021))] (PM D A ad ns I L G)) (va_Qv (fun u => ∃ I2 L2, u = (ad, ns, I2, L2, G) ∧ INV I2 ∧ Kp [(1021, 1022), (1076, 1077)] [(1000, 78)] I I2 ∧ ((I2 1000 78).toInt = 2720 * (kk : Int) + 2594 ∧ ((I 1000 79).toInt = 0 → SV kk [(1021, 2586, 8)] I I2) ∧ ((I 1000 79).toInt ≠ 0 → LD kk [(1021, 2586, 8)] I I2))) (BM D A) A) 0 0 A := by
  refine m_ofW (by decide) (Nat.le_of_ble_eq_true rfl) ?_
  intro p e s m below meth c ls args hC hE hM hA hS hl
  obtain ⟨hx, hb, hml, hown, hts, hr, hlocks, hin⟩ := hC
  have k0 : (0 : Int32).toInt = 0 := by decide
  have k1 : (1 : Int32).toInt = 1 := by decide
  have k8 : (8 : Int32).toInt = 8 := by decide
  have hK : Kp [(1021, 1022), (1076, 1077)] [(1000, 78)] I I := Kp.rf
  have hl : lv_has ls 3 [(0, .ref (ad (1000))), (1, .ref (ad (1021)))] := hl
  refine lv_iconst (v := (0)) hx hb dX10_carry_0 (by decide) ?_
  refine lv_istore_n (lv' := [(2, .int (0)), (0, .ref (ad (1000))), (1, .ref (ad (1021)))]) hx hb dX10_carry_1 rfl hl (by decide) rfl (fun ls hl => ?_)
  have loop2 : ∀ (n : Nat) (x2_2 : Int32) (Ia2 : MI) (La2 : ML) (H : Heap) (locs : List Loc) (ls : Array Slot), INV Ia2 → Kp [(1021, 1022), (1076, 1077)] [(1000, 78)] I Ia2 → (0 ≤ x2_2.toInt ∧ x2_2.toInt ≤ 8) → ((Ia2 1000 78).toInt = 2720 * (kk : Int) + 2586 + (x2_2).toInt) → ((I 1000 79).toInt = 0 → SV kk [(1021, 2586, (x2_2).toNatClampNeg)] I Ia2) → ((I 1000 79).toInt ≠ 0 → LD kk [(1021, 2586, (x2_2).toNatClampNeg)] I Ia2) → (8 - x2_2.toInt).toNat < n → Mem D A ad ns Ia2 La2 G H → va_S A s.heap H locs → lv_has ls 3 [(2, .int (x2_2)), (0, .ref (ad (1000))), (1, .ref (ad (1021)))] → W p l e ({ frames := 0, cells := 0, slots := 0, locals := 0 } : Room) s m args below meth c H locs 0 0 (MQ below (va_Qv (fun u => ∃ I2 L2, u = (ad, ns, I2, L2, G) ∧ INV I2 ∧ Kp [(1021, 1022), (1076, 1077)] [(1000, 78)] I I2 ∧ ((I2 1000 78).toInt = 2720 * (kk : Int) + 2594 ∧ ((I 1000 79).toInt = 0 → SV kk [(1021, 2586, 8)] I I2) ∧ ((I 1000 79).toInt ≠ 0 → LD kk [(1021, 2586, 8)] I I2))) (BM D A) A) args s 0 0 A) (F0 m 2 ls []) := by
    intro n
    induction n with
    | zero =>
      intro x2_2 Ia2 La2 H locs ls hI hK hr2_2 hat3 hv2 hw2 hmu
      exact absurd hmu (Nat.not_lt_zero _)
    | succ n ih2 =>
      intro x2_2 Ia2 La2 H locs ls hI hK hr2_2 hat3 hv2 hw2 hmu2 hM hS hl
      have hK0 := hK
      refine lv_iload_n hx hb dX10_carry_2 rfl (lv_at hl 0 rfl) ?_
      refine lv_aload_n hx hb dX10_carry_3 rfl (lv_at hl 2 rfl) ?_
      refine m_alen 1021 (t0 := 0) (v := 8) hx hb hE hM (hJ.2 21 (by decide)).1 rfl (by decide) rfl rfl dX10_carry_4 ?_
      refine lv_icmp_ge (tgt := 58) hx hb dX10_carry_5 (by decide) (fun c1 => ?_) (fun c1 => ?_)
      · have hc1 := c1
        have q1 := q_le hc1
        exact m_vret hx hb hr hlocks hM hS (Nat.le_of_ble_eq_true rfl) (Nat.le_of_ble_eq_true rfl) ⟨_, _, rfl, hI, hK, (by have hz := cl_of (k := x2_2) (n := 8) (by omega); rw [hz] at hv2 hw2; exact ⟨by omega, hv2, hw2⟩)⟩ dX10_carry_58
      · have hc1 := c1
        have q1 := q_nle hc1
        refine lv_aload_n hx hb dX10_carry_8 rfl (lv_at hl 1 rfl) ?_
        refine m_geti (1000) 79 hx hb hts hown hE oc10 hM hJ.1 rfl (by decide) rfl tb_1256 dX10_carry_9 ?_
        have g2 := hI.get (1000) 79 (lo := 0) (hi := 1) rfl
        refine lv_if_eq (tgt := 30) hx hb dX10_carry_12 (by decide) (fun c3 => ?_) (fun c3 => ?_)
        · have hc3 := c3
          have q3 := q_eq hc3
          refine lv_aload_n hx hb dX10_carry_30 rfl (lv_at hl 1 rfl) ?_
          refine m_getr (1000) 76 (1076) hx hb hts hown hE oc10 hM hJ.1 rfl (by decide) rfl (hJ.2 76 (by decide)).2 (by decide) tb_1253 dX10_carry_31 ?_
          refine lv_aload_n hx hb dX10_carry_34 rfl (lv_at hl 1 rfl) ?_
          refine m_geti (1000) 78 hx hb hts hown hE oc10 hM hJ.1 rfl (by decide) rfl tb_1255 dX10_carry_35 ?_
          have g4 := hI.get (1000) 78 (lo := 0) (hi := 10880) rfl
          refine lv_aload_n hx hb dX10_carry_38 rfl (lv_at hl 2 rfl) ?_
          refine lv_iload_n hx hb dX10_carry_39 rfl (lv_at hl 0 rfl) ?_
          refine m_iald (1021) hx hb hE hM (hJ.2 21 (by decide)).1 rfl (vp_in_iff.mpr (by omega)) dX10_carry_40 ?_
          refine m_iast (1076) hx hb hE hM hS (hJ.2 76 (by decide)).1 rfl (vp_in_iff.mpr (by omega)) dX10_carry_41 (fun H locs I5 eI5 hM hS => ?_)
          subst eI5
          have hat2 : (Ia2 1000 78).toInt = 2720 * (kk : Int) + 2586 + (x2_2).toInt := hat3
          have hk0 : 0 ≤ (x2_2).toInt := by omega
          have hkn : (x2_2).toInt < 8 := by omega
          have hI := hI.putx (n := 1076) (k := ((Ia2 (1000) 78).toNatClampNeg)) (v := Ia2 (1021) (x2_2).toNatClampNeg) (by rw [rgimF (kk := kk) (b := 2586) (n := 8) (N := 1021) (a := Ia2 1000 78) (k := x2_2) (by decide) rfl (by omega) hk0 (by omega)]; exact hI _ _)
          have hK := hK.put (n := 1076) (k := ((Ia2 (1000) 78).toNatClampNeg)) (v := Ia2 (1021) (x2_2).toNatClampNeg) (by first | rfl | simp [inR])
          refine lv_aload_n hx hb dX10_carry_42 rfl (lv_at hl 1 rfl) ?_
          refine lv_dup hx hb dX10_carry_43 rfl ?_
          refine m_geti (1000) 78 hx hb hts hown hE oc10 hM hJ.1 rfl (by decide) rfl tb_1255 dX10_carry_44 ?_
          have z6 : (u2 Ia2 (1076) ((Ia2 (1000) 78).toNatClampNeg) (Ia2 (1021) (x2_2).toNatClampNeg)) (1000) 78 = Ia2 (1000) 78 := (show (u2 Ia2 (1076) ((Ia2 (1000) 78).toNatClampNeg) (Ia2 (1021) (x2_2).toNatClampNeg)) (1000) 78 = Ia2 (1000) 78 from by simp [u2_v])
          rw [z6]
          refine lv_iconst (v := (1)) hx hb dX10_carry_47 (by decide) ?_
          refine lv_iadd hx hb dX10_carry_48 ?_
          refine lv_topi (fun v7 ev7 => ?_)
          have tv7 := a_add ev7 (by omega) (by omega)
          refine m_puti (1000) 78 hx hb hts hown hE oc10 hM hS hJ.1 rfl (by decide) rfl rfl rfl rfl tb_1255 dX10_carry_49 (fun H locs I8 eI8 hM hS => ?_)
          subst eI8
          have hI := hI.put (n := 1000) (k := 78) (v := v7) (lo := 0) (hi := 10880) rfl (by first | omega | decide)
          have hK := hK.put (n := 1000) (k := 78) (v := v7) (by first | rfl | simp [inR])
          obtain ⟨v9, ev9⟩ : ∃ z : Int32, z = x2_2 + Int32.ofInt (1) := ⟨_, rfl⟩
          have tv9 := a_inc ev9 (by decide) (by omega) (by omega)
          refine lv_iinc (v := v9) (lv' := [(2, .int (v9)), (0, .ref (ad (1000))), (1, .ref (ad (1021)))]) hx hb dX10_carry_52 hl (k := 0) rfl ev9.symm (by decide) rfl (fun ls hl => ?_)
          refine lv_goto (tgt := 2) hx hb dX10_carry_55 (by decide) ?_
          exact ih2 (v9) (u2 (u2 Ia2 (1076) ((Ia2 (1000) 78).toNatClampNeg) (Ia2 (1021) (x2_2).toNatClampNeg)) (1000) 78 (v7)) La2 _ _ ls hI hK (by first | omega | decide) (by rw [u2_self]; omega) (fun _ => SV.step (hv2 (by have hq := congrArg Int32.toInt (hK0.get 1000 79 rfl); omega)) (by omega) (by omega) (by decide) (by omega)) (fun hz => absurd (show (I 1000 79).toInt = 0 by have hq := congrArg Int32.toInt (hK0.get 1000 79 rfl); omega) hz) (by omega) hM hS (lv_sub hl [0, 1, 2] rfl)
        · have hc3 := c3
          have q3 := q_ne hc3
          refine lv_aload_n hx hb dX10_carry_15 rfl (lv_at hl 2 rfl) ?_
          refine lv_iload_n hx hb dX10_carry_16 rfl (lv_at hl 0 rfl) ?_
          refine lv_aload_n hx hb dX10_carry_17 rfl (lv_at hl 1 rfl) ?_
          refine m_getr (1000) 76 (1076) hx hb hts hown hE oc10 hM hJ.1 rfl (by decide) rfl (hJ.2 76 (by decide)).2 (by decide) tb_1253 dX10_carry_18 ?_
          refine lv_aload_n hx hb dX10_carry_21 rfl (lv_at hl 1 rfl) ?_
          refine m_geti (1000) 78 hx hb hts hown hE oc10 hM hJ.1 rfl (by decide) rfl tb_1255 dX10_carry_22 ?_
          have g10 := hI.get (1000) 78 (lo := 0) (hi := 10880) rfl
          refine m_iald (1076) hx hb hE hM (hJ.2 76 (by decide)).1 rfl (vp_in_iff.mpr (by omega)) dX10_carry_25 ?_
          refine m_iast (1021) hx hb hE hM hS (hJ.2 21 (by decide)).1 rfl (vp_in_iff.mpr (by omega)) dX10_carry_26 (fun H locs I11 eI11 hM hS => ?_)
          subst eI11
          have hat2 : (Ia2 1000 78).toInt = 2720 * (kk : Int) + 2586 + (x2_2).toInt := hat3
          have hk0 : 0 ≤ (x2_2).toInt := by omega
          have hkn : (x2_2).toInt < 8 := by omega
          have hI := hI.putx (n := 1021) (k := ((x2_2).toNatClampNeg)) (v := Ia2 (1076) (Ia2 (1000) 78).toNatClampNeg) (by rw [← rgimF (kk := kk) (b := 2586) (n := 8) (N := 1021) (a := Ia2 1000 78) (k := x2_2) (by decide) rfl (by omega) hk0 (by omega)]; exact hI _ _)
          have hK := hK.put (n := 1021) (k := ((x2_2).toNatClampNeg)) (v := Ia2 (1076) (Ia2 (1000) 78).toNatClampNeg) (by first | rfl | simp [inR])
          refine lv_goto (tgt := 42) hx hb dX10_carry_27 (by decide) ?_
          refine lv_aload_n hx hb dX10_carry_42 rfl (lv_at hl 1 rfl) ?_
          refine lv_dup hx hb dX10_carry_43 rfl ?_
          refine m_geti (1000) 78 hx hb hts hown hE oc10 hM hJ.1 rfl (by decide) rfl tb_1255 dX10_carry_44 ?_
          have z12 : (u2 Ia2 (1021) ((x2_2).toNatClampNeg) (Ia2 (1076) (Ia2 (1000) 78).toNatClampNeg)) (1000) 78 = Ia2 (1000) 78 := (show (u2 Ia2 (1021) ((x2_2).toNatClampNeg) (Ia2 (1076) (Ia2 (1000) 78).toNatClampNeg)) (1000) 78 = Ia2 (1000) 78 from by simp [u2_v])
          rw [z12]
          refine lv_iconst (v := (1)) hx hb dX10_carry_47 (by decide) ?_
          refine lv_iadd hx hb dX10_carry_48 ?_
          refine lv_topi (fun v13 ev13 => ?_)
          have tv13 := a_add ev13 (by omega) (by omega)
          refine m_puti (1000) 78 hx hb hts hown hE oc10 hM hS hJ.1 rfl (by decide) rfl rfl rfl rfl tb_1255 dX10_carry_49 (fun H locs I14 eI14 hM hS => ?_)
          subst eI14
          have hI := hI.put (n := 1000) (k := 78) (v := v13) (lo := 0) (hi := 10880) rfl (by first | omega | decide)
          have hK := hK.put (n := 1000) (k := 78) (v := v13) (by first | rfl | simp [inR])
          obtain ⟨v15, ev15⟩ : ∃ z : Int32, z = x2_2 + Int32.ofInt (1) := ⟨_, rfl⟩
          have tv15 := a_inc ev15 (by decide) (by omega) (by omega)
          refine lv_iinc (v := v15) (lv' := [(2, .int (v15)), (0, .ref (ad (1000))), (1, .ref (ad (1021)))]) hx hb dX10_carry_52 hl (k := 0) rfl ev15.symm (by decide) rfl (fun ls hl => ?_)
          refine lv_goto (tgt := 2) hx hb dX10_carry_55 (by decide) ?_
          exact ih2 (v15) (u2 (u2 Ia2 (1021) ((x2_2).toNatClampNeg) (Ia2 (1076) (Ia2 (1000) 78).toNatClampNeg)) (1000) 78 (v13)) La2 _ _ ls hI hK (by first | omega | decide) (by rw [u2_self]; omega) (fun hz => absurd hz (show (I 1000 79).toInt ≠ 0 by have hq := congrArg Int32.toInt (hK0.get 1000 79 rfl); omega)) (fun hz => LD.step (hw2 hz) (by omega) (by omega) (by decide) (by omega)) (by omega) hM hS (lv_sub hl [0, 1, 2] rfl)
  exact loop2 (_ + 1) (0) I L _ _ ls hI hK (by first | omega | decide) (by omega) (fun _ => SV.z (by decide)) (fun _ => LD.z (by decide)) (Nat.lt_succ_self _) hM hS (lv_sub hl [0, 1, 2] rfl)
set_option maxHeartbeats 4000000 in
set_option maxRecDepth 20000 in
theorem V_X10_carry_1022 (l : Launch) (D : va_G) (A : Nat → Prop) (ad : Nat → Nat) (ns : List Nat) (I : MI) (L : ML) (G : MG) (kk : Nat) (hJ : SGM ns G) (hI : INV I) (hk4 : kk < 4) (hat : (I 1000 78).toInt = 2720 * (kk : Int) + 2594) : Met l yX10_carry (wd yX10_carry cX10_carry 3 none) ({ frames := 0, cells := 0, slots := 0, locals := 0 }) (va_Pc [.ref (ad (1000)), .ref (ad (1022))] (PM D A ad ns I L G)) (va_Qv (fun u => ∃ I2 L2, u = (ad, ns, I2, L2, G) ∧ INV I2 ∧ Kp [(1022, 1023), (1076, 1077)] [(1000, 78)] I I2 ∧ ((I2 1000 78).toInt = 2720 * (kk : Int) + 2602 ∧ ((I 1000 79).toInt = 0 → SV kk [(1022, 2594, 8)] I I2) ∧ ((I 1000 79).toInt ≠ 0 → LD kk [(1022, 2594, 8)] I I2))) (BM D A) A) 0 0 A := by
  refine m_ofW (by decide) (Nat.le_of_ble_eq_true rfl) ?_
  intro p e s m below meth c ls args hC hE hM hA hS hl
  obtain ⟨hx, hb, hml, hown, hts, hr, hlocks, hin⟩ := hC
  have k0 : (0 : Int32).toInt = 0 := by decide
  have k1 : (1 : Int32).toInt = 1 := by decide
  have k8 : (8 : Int32).toInt = 8 := by decide
  have hK : Kp [(1022, 1023), (1076, 1077)] [(1000, 78)] I I := Kp.rf
  have hl : lv_has ls 3 [(0, .ref (ad (1000))), (1, .ref (ad (1022)))] := hl
  refine lv_iconst (v := (0)) hx hb dX10_carry_0 (by decide) ?_
  refine lv_istore_n (lv' := [(2, .int (0)), (0, .ref (ad (1000))), (1, .ref (ad (1022)))]) hx hb dX10_carry_1 rfl hl (by decide) rfl (fun ls hl => ?_)
  have loop2 : ∀ (n : Nat) (x2_2 : Int32) (Ia2 : MI) (La2 : ML) (H : Heap) (locs : List Loc) (ls : Array Slot), INV Ia2 → Kp [(1022, 1023), (1076, 1077)] [(1000, 78)] I Ia2 → (0 ≤ x2_2.toInt ∧ x2_2.toInt ≤ 8) → ((Ia2 1000 78).toInt = 2720 * (kk : Int) + 2594 + (x2_2).toInt) → ((I 1000 79).toInt = 0 → SV kk [(1022, 2594, (x2_2).toNatClampNeg)] I Ia2) → ((I 1000 79).toInt ≠ 0 → LD kk [(1022, 2594, (x2_2).toNatClampNeg)] I Ia2) → (8 - x2_2.toInt).toNat < n → Mem D A ad ns Ia2 La2 G H → va_S A s.heap H locs → lv_has ls 3 [(2, .int (x2_2)), (0, .ref (ad (1000))), (1, .ref (ad (1022)))] → W p l e ({ frames := 0, cells := 0, slots := 0, locals := 0 } : Room) s m args below meth c H locs 0 0 (MQ below (va_Qv (fun u => ∃ I2 L2, u = (ad, ns, I2, L2, G) ∧ INV I2 ∧ Kp [(1022, 1023), (1076, 1077)] [(1000, 78)] I I2 ∧ ((I2 1000 78).toInt = 2720 * (kk : Int) + 2602 ∧ ((I 1000 79).toInt = 0 → SV kk [(1022, 2594, 8)] I I2) ∧ ((I 1000 79).toInt ≠ 0 → LD kk [(1022, 2594, 8)] I I2))) (BM D A) A) args s 0 0 A) (F0 m 2 ls []) := by
    intro n
    induction n with
    | zero =>
      intro x2_2 Ia2 La2 H locs ls hI hK hr2_2 hat3 hv2 hw2 hmu
      exact absurd hmu (Nat.not_lt_zero _)
    | succ n ih2 =>
      intro x2_2 Ia2 La2 H locs ls hI hK hr2_2 hat3 hv2 hw2 hmu2 hM hS hl
      have hK0 := hK
      refine lv_iload_n hx hb dX10_carry_2 rfl (lv_at hl 0 rfl) ?_
      refine lv_aload_n hx hb dX10_carry_3 rfl (lv_at hl 2 rfl) ?_
      refine m_alen 1022 (t0 := 0) (v := 8) hx hb hE hM (hJ.2 22 (by decide)).1 rfl (by decide) rfl rfl dX10_carry_4 ?_
      refine lv_icmp_ge (tgt := 58) hx hb dX10_carry_5 (by decide) (fun c1 => ?_) (fun c1 => ?_)
      · have hc1 := c1
        have q1 := q_le hc1
        exact m_vret hx hb hr hlocks hM hS (Nat.le_of_ble_eq_true rfl) (Nat.le_of_ble_eq_true rfl) ⟨_, _, rfl, hI, hK, (by have hz := cl_of (k := x2_2) (n := 8) (by omega); rw [hz] at hv2 hw2; exact ⟨by omega, hv2, hw2⟩)⟩ dX10_carry_58
      · have hc1 := c1
        have q1 := q_nle hc1
        refine lv_aload_n hx hb dX10_carry_8 rfl (lv_at hl 1 rfl) ?_
        refine m_geti (1000) 79 hx hb hts hown hE oc10 hM hJ.1 rfl (by decide) rfl tb_1256 dX10_carry_9 ?_
        have g2 := hI.get (1000) 79 (lo := 0) (hi := 1) rfl
        refine lv_if_eq (tgt := 30) hx hb dX10_carry_12 (by decide) (fun c3 => ?_) (fun c3 => ?_)
        · have hc3 := c3
          have q3 := q_eq hc3
          refine lv_aload_n hx hb dX10_carry_30 rfl (lv_at hl 1 rfl) ?_
          refine m_getr (1000) 76 (1076) hx hb hts hown hE oc10 hM hJ.1 rfl (by decide) rfl (hJ.2 76 (by decide)).2 (by decide) tb_1253 dX10_carry_31 ?_
          refine lv_aload_n hx hb dX10_carry_34 rfl (lv_at hl 1 rfl) ?_
          refine m_geti (1000) 78 hx hb hts hown hE oc10 hM hJ.1 rfl (by decide) rfl tb_1255 dX10_carry_35 ?_
          have g4 := hI.get (1000) 78 (lo := 0) (hi := 10880) rfl
          refine lv_aload_n hx hb dX10_carry_38 rfl (lv_at hl 2 rfl) ?_
          refine lv_iload_n hx hb dX10_carry_39 rfl (lv_at hl 0 rfl) ?_
          refine m_iald (1022) hx hb hE hM (hJ.2 22 (by decide)).1 rfl (vp_in_iff.mpr (by omega)) dX10_carry_40 ?_
          refine m_iast (1076) hx hb hE hM hS (hJ.2 76 (by decide)).1 rfl (vp_in_iff.mpr (by omega)) dX10_carry_41 (fun H locs I5 eI5 hM hS => ?_)
          subst eI5
          have hat2 : (Ia2 1000 78).toInt = 2720 * (kk : Int) + 2594 + (x2_2).toInt := hat3
          have hk0 : 0 ≤ (x2_2).toInt := by omega
          have hkn : (x2_2).toInt < 8 := by omega
          have hI := hI.putx (n := 1076) (k := ((Ia2 (1000) 78).toNatClampNeg)) (v := Ia2 (1022) (x2_2).toNatClampNeg) (by rw [rgimF (kk := kk) (b := 2594) (n := 8) (N := 1022) (a := Ia2 1000 78) (k := x2_2) (by decide) rfl (by omega) hk0 (by omega)]; exact hI _ _)
          have hK := hK.put (n := 1076) (k := ((Ia2 (1000) 78).toNatClampNeg)) (v := Ia2 (1022) (x2_2).toNatClampNeg) (by first | rfl | simp [inR])
          refine lv_aload_n hx hb dX10_carry_42 rfl (lv_at hl 1 rfl) ?_
          refine lv_dup hx hb dX10_carry_43 rfl ?_
          refine m_geti (1000) 78 hx hb hts hown hE oc10 hM hJ.1 rfl (by decide) rfl tb_1255 dX10_carry_44 ?_
          have z6 : (u2 Ia2 (1076) ((Ia2 (1000) 78).toNatClampNeg) (Ia2 (1022) (x2_2).toNatClampNeg)) (1000) 78 = Ia2 (1000) 78 := (show (u2 Ia2 (1076) ((Ia2 (1000) 78).toNatClampNeg) (Ia2 (1022) (x2_2).toNatClampNeg)) (1000) 78 = Ia2 (1000) 78 from by simp [u2_v])
          rw [z6]
          refine lv_iconst (v := (1)) hx hb dX10_carry_47 (by decide) ?_
          refine lv_iadd hx hb dX10_carry_48 ?_
          refine lv_topi (fun v7 ev7 => ?_)
          have tv7 := a_add ev7 (by omega) (by omega)
          refine m_puti (1000) 78 hx hb hts hown hE oc10 hM hS hJ.1 rfl (by decide) rfl rfl rfl rfl tb_1255 dX10_carry_49 (fun H locs I8 eI8 hM hS => ?_)
          subst eI8
          have hI := hI.put (n := 1000) (k := 78) (v := v7) (lo := 0) (hi := 10880) rfl (by first | omega | decide)
          have hK := hK.put (n := 1000) (k := 78) (v := v7) (by first | rfl | simp [inR])
          obtain ⟨v9, ev9⟩ : ∃ z : Int32, z = x2_2 + Int32.ofInt (1) := ⟨_, rfl⟩
          have tv9 := a_inc ev9 (by decide) (by omega) (by omega)
          refine lv_iinc (v := v9) (lv' := [(2, .int (v9)), (0, .ref (ad (1000))), (1, .ref (ad (1022)))]) hx hb dX10_carry_52 hl (k := 0) rfl ev9.symm (by decide) rfl (fun ls hl => ?_)
          refine lv_goto (tgt := 2) hx hb dX10_carry_55 (by decide) ?_
          exact ih2 (v9) (u2 (u2 Ia2 (1076) ((Ia2 (1000) 78).toNatClampNeg) (Ia2 (1022) (x2_2).toNatClampNeg)) (1000) 78 (v7)) La2 _ _ ls hI hK (by first | omega | decide) (by rw [u2_self]; omega) (fun _ => SV.step (hv2 (by have hq := congrArg Int32.toInt (hK0.get 1000 79 rfl); omega)) (by omega) (by omega) (by decide) (by omega)) (fun hz => absurd (show (I 1000 79).toInt = 0 by have hq := congrArg Int32.toInt (hK0.get 1000 79 rfl); omega) hz) (by omega) hM hS (lv_sub hl [0, 1, 2] rfl)
        · have hc3 := c3
          have q3 := q_ne hc3
          refine lv_aload_n hx hb dX10_carry_15 rfl (lv_at hl 2 rfl) ?_
          refine lv_iload_n hx hb dX10_carry_16 rfl (lv_at hl 0 rfl) ?_
          refine lv_aload_n hx hb dX10_carry_17 rfl (lv_at hl 1 rfl) ?_
          refine m_getr (1000) 76 (1076) hx hb hts hown hE oc10 hM hJ.1 rfl (by decide) rfl (hJ.2 76 (by decide)).2 (by decide) tb_1253 dX10_carry_18 ?_
          refine lv_aload_n hx hb dX10_carry_21 rfl (lv_at hl 1 rfl) ?_
          refine m_geti (1000) 78 hx hb hts hown hE oc10 hM hJ.1 rfl (by decide) rfl tb_1255 dX10_carry_22 ?_
          have g10 := hI.get (1000) 78 (lo := 0) (hi := 10880) rfl
          refine m_iald (1076) hx hb hE hM (hJ.2 76 (by decide)).1 rfl (vp_in_iff.mpr (by omega)) dX10_carry_25 ?_
          refine m_iast (1022) hx hb hE hM hS (hJ.2 22 (by decide)).1 rfl (vp_in_iff.mpr (by omega)) dX10_carry_26 (fun H locs I11 eI11 hM hS => ?_)
          subst eI11
          have hat2 : (Ia2 1000 78).toInt = 2720 * (kk : Int) + 2594 + (x2_2).toInt := hat3
          have hk0 : 0 ≤ (x2_2).toInt := by omega
          have hkn : (x2_2).toInt < 8 := by omega
          have hI := hI.putx (n := 1022) (k := ((x2_2).toNatClampNeg)) (v := Ia2 (1076) (Ia2 (1000) 78).toNatClampNeg) (by rw [← rgimF (kk := kk) (b := 2594) (n := 8) (N := 1022) (a := Ia2 1000 78) (k := x2_2) (by decide) rfl (by omega) hk0 (by omega)]; exact hI _ _)
          have hK := hK.put (n := 1022) (k := ((x2_2).toNatClampNeg)) (v := Ia2 (1076) (Ia2 (1000) 78).toNatClampNeg) (by first | rfl | simp [inR])
          refine lv_goto (tgt := 42) hx hb dX10_carry_27 (by decide) ?_
          refine lv_aload_n hx hb dX10_carry_42 rfl (lv_at hl 1 rfl) ?_
          refine lv_dup hx hb dX10_carry_43 rfl ?_
          refine m_geti (1000) 78 hx hb hts hown hE oc10 hM hJ.1 rfl (by decide) rfl tb_1255 dX10_carry_44 ?_
          have z12 : (u2 Ia2 (1022) ((x2_2).toNatClampNeg) (Ia2 (1076) (Ia2 (1000) 78).toNatClampNeg)) (1000) 78 = Ia2 (1000) 78 := (show (u2 Ia2 (1022) ((x2_2).toNatClampNeg) (Ia2 (1076) (Ia2 (1000) 78).toNatClampNeg)) (1000) 78 = Ia2 (1000) 78 from by simp [u2_v])
          rw [z12]
          refine lv_iconst (v := (1)) hx hb dX10_carry_47 (by decide) ?_
          refine lv_iadd hx hb dX10_carry_48 ?_
          refine lv_topi (fun v13 ev13 => ?_)
          have tv13 := a_add ev13 (by omega) (by omega)
          refine m_puti (1000) 78 hx hb hts hown hE oc10 hM hS hJ.1 rfl (by decide) rfl rfl rfl rfl tb_1255 dX10_carry_49 (fun H locs I14 eI14 hM hS => ?_)
          subst eI14
          have hI := hI.put (n := 1000) (k := 78) (v := v13) (lo := 0) (hi := 10880) rfl (by first | omega | decide)
          have hK := hK.put (n := 1000) (k := 78) (v := v13) (by first | rfl | simp [inR])
          obtain ⟨v15, ev15⟩ : ∃ z : Int32, z = x2_2 + Int32.ofInt (1) := ⟨_, rfl⟩
          have tv15 := a_inc ev15 (by decide) (by omega) (by omega)
          refine lv_iinc (v := v15) (lv' := [(2, .int (v15)), (0, .ref (ad (1000))), (1, .ref (ad (1022)))]) hx hb dX10_carry_52 hl (k := 0) rfl ev15.symm (by decide) rfl (fun ls hl => ?_)
          refine lv_goto (tgt := 2) hx hb dX10_carry_55 (by decide) ?_
          exact ih2 (v15) (u2 (u2 Ia2 (1022) ((x2_2).toNatClampNeg) (Ia2 (1076) (Ia2 (1000) 78).toNatClampNeg)) (1000) 78 (v13)) La2 _ _ ls hI hK (by first | omega | decide) (by rw [u2_self]; omega) (fun hz => absurd hz (show (I 1000 79).toInt ≠ 0 by have hq := congrArg Int32.toInt (hK0.get 1000 79 rfl); omega)) (fun hz => LD.step (hw2 hz) (by omega) (by omega) (by decide) (by omega)) (by omega) hM hS (lv_sub hl [0, 1, 2] rfl)
  exact loop2 (_ + 1) (0) I L _ _ ls hI hK (by first | omega | decide) (by omega) (fun _ => SV.z (by decide)) (fun _ => LD.z (by decide)) (Nat.lt_succ_self _) hM hS (lv_sub hl [0, 1, 2] rfl)
set_option maxHeartbeats 4000000 in
set_option maxRecDepth 20000 in
theorem V_X10_carry_1023 (l : Launch) (D : va_G) (A : Nat → Prop) (ad : Nat → Nat) (ns : List Nat) (I : MI) (L : ML) (G : MG) (kk : Nat) (hJ : SGM ns G) (hI : INV I) (hk4 : kk < 4) (hat : (I 1000 78).toInt = 2720 * (kk : Int) + 2602) : Met l yX10_carry (wd yX10_carry cX10_carry 3 none) ({ frames := 0, cells := 0, slots := 0, locals := 0 }) (va_Pc [.ref (ad (1000)), .ref (ad (1023))] (PM D A ad ns I L G)) (va_Qv (fun u => ∃ I2 L2, u = (ad, ns, I2, L2, G) ∧ INV I2 ∧ Kp [(1023, 1024), (1076, 1077)] [(1000, 78)] I I2 ∧ ((I2 1000 78).toInt = 2720 * (kk : Int) + 2610 ∧ ((I 1000 79).toInt = 0 → SV kk [(1023, 2602, 8)] I I2) ∧ ((I 1000 79).toInt ≠ 0 → LD kk [(1023, 2602, 8)] I I2))) (BM D A) A) 0 0 A := by
  refine m_ofW (by decide) (Nat.le_of_ble_eq_true rfl) ?_
  intro p e s m below meth c ls args hC hE hM hA hS hl
  obtain ⟨hx, hb, hml, hown, hts, hr, hlocks, hin⟩ := hC
  have k0 : (0 : Int32).toInt = 0 := by decide
  have k1 : (1 : Int32).toInt = 1 := by decide
  have k8 : (8 : Int32).toInt = 8 := by decide
  have hK : Kp [(1023, 1024), (1076, 1077)] [(1000, 78)] I I := Kp.rf
  have hl : lv_has ls 3 [(0, .ref (ad (1000))), (1, .ref (ad (1023)))] := hl
  refine lv_iconst (v := (0)) hx hb dX10_carry_0 (by decide) ?_
  refine lv_istore_n (lv' := [(2, .int (0)), (0, .ref (ad (1000))), (1, .ref (ad (1023)))]) hx hb dX10_carry_1 rfl hl (by decide) rfl (fun ls hl => ?_)
  have loop2 : ∀ (n : Nat) (x2_2 : Int32) (Ia2 : MI) (La2 : ML) (H : Heap) (locs : List Loc) (ls : Array Slot), INV Ia2 → Kp [(1023, 1024), (1076, 1077)] [(1000, 78)] I Ia2 → (0 ≤ x2_2.toInt ∧ x2_2.toInt ≤ 8) → ((Ia2 1000 78).toInt = 2720 * (kk : Int) + 2602 + (x2_2).toInt) → ((I 1000 79).toInt = 0 → SV kk [(1023, 2602, (x2_2).toNatClampNeg)] I Ia2) → ((I 1000 79).toInt ≠ 0 → LD kk [(1023, 2602, (x2_2).toNatClampNeg)] I Ia2) → (8 - x2_2.toInt).toNat < n → Mem D A ad ns Ia2 La2 G H → va_S A s.heap H locs → lv_has ls 3 [(2, .int (x2_2)), (0, .ref (ad (1000))), (1, .ref (ad (1023)))] → W p l e ({ frames := 0, cells := 0, slots := 0, locals := 0 } : Room) s m args below meth c H locs 0 0 (MQ below (va_Qv (fun u => ∃ I2 L2, u = (ad, ns, I2, L2, G) ∧ INV I2 ∧ Kp [(1023, 1024), (1076, 1077)] [(1000, 78)] I I2 ∧ ((I2 1000 78).toInt = 2720 * (kk : Int) + 2610 ∧ ((I 1000 79).toInt = 0 → SV kk [(1023, 2602, 8)] I I2) ∧ ((I 1000 79).toInt ≠ 0 → LD kk [(1023, 2602, 8)] I I2))) (BM D A) A) args s 0 0 A) (F0 m 2 ls []) := by
    intro n
    induction n with
    | zero =>
      intro x2_2 Ia2 La2 H locs ls hI hK hr2_2 hat3 hv2 hw2 hmu
      exact absurd hmu (Nat.not_lt_zero _)
    | succ n ih2 =>
      intro x2_2 Ia2 La2 H locs ls hI hK hr2_2 hat3 hv2 hw2 hmu2 hM hS hl
      have hK0 := hK
      refine lv_iload_n hx hb dX10_carry_2 rfl (lv_at hl 0 rfl) ?_
      refine lv_aload_n hx hb dX10_carry_3 rfl (lv_at hl 2 rfl) ?_
      refine m_alen 1023 (t0 := 0) (v := 8) hx hb hE hM (hJ.2 23 (by decide)).1 rfl (by decide) rfl rfl dX10_carry_4 ?_
      refine lv_icmp_ge (tgt := 58) hx hb dX10_carry_5 (by decide) (fun c1 => ?_) (fun c1 => ?_)
      · have hc1 := c1
        have q1 := q_le hc1
        exact m_vret hx hb hr hlocks hM hS (Nat.le_of_ble_eq_true rfl) (Nat.le_of_ble_eq_true rfl) ⟨_, _, rfl, hI, hK, (by have hz := cl_of (k := x2_2) (n := 8) (by omega); rw [hz] at hv2 hw2; exact ⟨by omega, hv2, hw2⟩)⟩ dX10_carry_58
      · have hc1 := c1
        have q1 := q_nle hc1
        refine lv_aload_n hx hb dX10_carry_8 rfl (lv_at hl 1 rfl) ?_
        refine m_geti (1000) 79 hx hb hts hown hE oc10 hM hJ.1 rfl (by decide) rfl tb_1256 dX10_carry_9 ?_
        have g2 := hI.get (1000) 79 (lo := 0) (hi := 1) rfl
        refine lv_if_eq (tgt := 30) hx hb dX10_carry_12 (by decide) (fun c3 => ?_) (fun c3 => ?_)
        · have hc3 := c3
          have q3 := q_eq hc3
          refine lv_aload_n hx hb dX10_carry_30 rfl (lv_at hl 1 rfl) ?_
          refine m_getr (1000) 76 (1076) hx hb hts hown hE oc10 hM hJ.1 rfl (by decide) rfl (hJ.2 76 (by decide)).2 (by decide) tb_1253 dX10_carry_31 ?_
          refine lv_aload_n hx hb dX10_carry_34 rfl (lv_at hl 1 rfl) ?_
          refine m_geti (1000) 78 hx hb hts hown hE oc10 hM hJ.1 rfl (by decide) rfl tb_1255 dX10_carry_35 ?_
          have g4 := hI.get (1000) 78 (lo := 0) (hi := 10880) rfl
          refine lv_aload_n hx hb dX10_carry_38 rfl (lv_at hl 2 rfl) ?_
          refine lv_iload_n hx hb dX10_carry_39 rfl (lv_at hl 0 rfl) ?_
          refine m_iald (1023) hx hb hE hM (hJ.2 23 (by decide)).1 rfl (vp_in_iff.mpr (by omega)) dX10_carry_40 ?_
          refine m_iast (1076) hx hb hE hM hS (hJ.2 76 (by decide)).1 rfl (vp_in_iff.mpr (by omega)) dX10_carry_41 (fun H locs I5 eI5 hM hS => ?_)
          subst eI5
          have hat2 : (Ia2 1000 78).toInt = 2720 * (kk : Int) + 2602 + (x2_2).toInt := hat3
          have hk0 : 0 ≤ (x2_2).toInt := by omega
          have hkn : (x2_2).toInt < 8 := by omega
          have hI := hI.putx (n := 1076) (k := ((Ia2 (1000) 78).toNatClampNeg)) (v := Ia2 (1023) (x2_2).toNatClampNeg) (by rw [rgimF (kk := kk) (b := 2602) (n := 8) (N := 1023) (a := Ia2 1000 78) (k := x2_2) (by decide) rfl (by omega) hk0 (by omega)]; exact hI _ _)
          have hK := hK.put (n := 1076) (k := ((Ia2 (1000) 78).toNatClampNeg)) (v := Ia2 (1023) (x2_2).toNatClampNeg) (by first | rfl | simp [inR])
          refine lv_aload_n hx hb dX10_carry_42 rfl (lv_at hl 1 rfl) ?_
          refine lv_dup hx hb dX10_carry_43 rfl ?_
          refine m_geti (1000) 78 hx hb hts hown hE oc10 hM hJ.1 rfl (by decide) rfl tb_1255 dX10_carry_44 ?_
          have z6 : (u2 Ia2 (1076) ((Ia2 (1000) 78).toNatClampNeg) (Ia2 (1023) (x2_2).toNatClampNeg)) (1000) 78 = Ia2 (1000) 78 := (show (u2 Ia2 (1076) ((Ia2 (1000) 78).toNatClampNeg) (Ia2 (1023) (x2_2).toNatClampNeg)) (1000) 78 = Ia2 (1000) 78 from by simp [u2_v])
          rw [z6]
          refine lv_iconst (v := (1)) hx hb dX10_carry_47 (by decide) ?_
          refine lv_iadd hx hb dX10_carry_48 ?_
          refine lv_topi (fun v7 ev7 => ?_)
          have tv7 := a_add ev7 (by omega) (by omega)
          refine m_puti (1000) 78 hx hb hts hown hE oc10 hM hS hJ.1 rfl (by decide) rfl rfl rfl rfl tb_1255 dX10_carry_49 (fun H locs I8 eI8 hM hS => ?_)
          subst eI8
          have hI := hI.put (n := 1000) (k := 78) (v := v7) (lo := 0) (hi := 10880) rfl (by first | omega | decide)
          have hK := hK.put (n := 1000) (k := 78) (v := v7) (by first | rfl | simp [inR])
          obtain ⟨v9, ev9⟩ : ∃ z : Int32, z = x2_2 + Int32.ofInt (1) := ⟨_, rfl⟩
          have tv9 := a_inc ev9 (by decide) (by omega) (by omega)
          refine lv_iinc (v := v9) (lv' := [(2, .int (v9)), (0, .ref (ad (1000))), (1, .ref (ad (1023)))]) hx hb dX10_carry_52 hl (k := 0) rfl ev9.symm (by decide) rfl (fun ls hl => ?_)
          refine lv_goto (tgt := 2) hx hb dX10_carry_55 (by decide) ?_
          exact ih2 (v9) (u2 (u2 Ia2 (1076) ((Ia2 (1000) 78).toNatClampNeg) (Ia2 (1023) (x2_2).toNatClampNeg)) (1000) 78 (v7)) La2 _ _ ls hI hK (by first | omega | decide) (by rw [u2_self]; omega) (fun _ => SV.step (hv2 (by have hq := congrArg Int32.toInt (hK0.get 1000 79 rfl); omega)) (by omega) (by omega) (by decide) (by omega)) (fun hz => absurd (show (I 1000 79).toInt = 0 by have hq := congrArg Int32.toInt (hK0.get 1000 79 rfl); omega) hz) (by omega) hM hS (lv_sub hl [0, 1, 2] rfl)
        · have hc3 := c3
          have q3 := q_ne hc3
          refine lv_aload_n hx hb dX10_carry_15 rfl (lv_at hl 2 rfl) ?_
          refine lv_iload_n hx hb dX10_carry_16 rfl (lv_at hl 0 rfl) ?_
          refine lv_aload_n hx hb dX10_carry_17 rfl (lv_at hl 1 rfl) ?_
          refine m_getr (1000) 76 (1076) hx hb hts hown hE oc10 hM hJ.1 rfl (by decide) rfl (hJ.2 76 (by decide)).2 (by decide) tb_1253 dX10_carry_18 ?_
          refine lv_aload_n hx hb dX10_carry_21 rfl (lv_at hl 1 rfl) ?_
          refine m_geti (1000) 78 hx hb hts hown hE oc10 hM hJ.1 rfl (by decide) rfl tb_1255 dX10_carry_22 ?_
          have g10 := hI.get (1000) 78 (lo := 0) (hi := 10880) rfl
          refine m_iald (1076) hx hb hE hM (hJ.2 76 (by decide)).1 rfl (vp_in_iff.mpr (by omega)) dX10_carry_25 ?_
          refine m_iast (1023) hx hb hE hM hS (hJ.2 23 (by decide)).1 rfl (vp_in_iff.mpr (by omega)) dX10_carry_26 (fun H locs I11 eI11 hM hS => ?_)
          subst eI11
          have hat2 : (Ia2 1000 78).toInt = 2720 * (kk : Int) + 2602 + (x2_2).toInt := hat3
          have hk0 : 0 ≤ (x2_2).toInt := by omega
          have hkn : (x2_2).toInt < 8 := by omega
          have hI := hI.putx (n := 1023) (k := ((x2_2).toNatClampNeg)) (v := Ia2 (1076) (Ia2 (1000) 78).toNatClampNeg) (by rw [← rgimF (kk := kk) (b := 2602) (n := 8) (N := 1023) (a := Ia2 1000 78) (k := x2_2) (by decide) rfl (by omega) hk0 (by omega)]; exact hI _ _)
          have hK := hK.put (n := 1023) (k := ((x2_2).toNatClampNeg)) (v := Ia2 (1076) (Ia2 (1000) 78).toNatClampNeg) (by first | rfl | simp [inR])
          refine lv_goto (tgt := 42) hx hb dX10_carry_27 (by decide) ?_
          refine lv_aload_n hx hb dX10_carry_42 rfl (lv_at hl 1 rfl) ?_
          refine lv_dup hx hb dX10_carry_43 rfl ?_
          refine m_geti (1000) 78 hx hb hts hown hE oc10 hM hJ.1 rfl (by decide) rfl tb_1255 dX10_carry_44 ?_
          have z12 : (u2 Ia2 (1023) ((x2_2).toNatClampNeg) (Ia2 (1076) (Ia2 (1000) 78).toNatClampNeg)) (1000) 78 = Ia2 (1000) 78 := (show (u2 Ia2 (1023) ((x2_2).toNatClampNeg) (Ia2 (1076) (Ia2 (1000) 78).toNatClampNeg)) (1000) 78 = Ia2 (1000) 78 from by simp [u2_v])
          rw [z12]
          refine lv_iconst (v := (1)) hx hb dX10_carry_47 (by decide) ?_
          refine lv_iadd hx hb dX10_carry_48 ?_
          refine lv_topi (fun v13 ev13 => ?_)
          have tv13 := a_add ev13 (by omega) (by omega)
          refine m_puti (1000) 78 hx hb hts hown hE oc10 hM hS hJ.1 rfl (by decide) rfl rfl rfl rfl tb_1255 dX10_carry_49 (fun H locs I14 eI14 hM hS => ?_)
          subst eI14
          have hI := hI.put (n := 1000) (k := 78) (v := v13) (lo := 0) (hi := 10880) rfl (by first | omega | decide)
          have hK := hK.put (n := 1000) (k := 78) (v := v13) (by first | rfl | simp [inR])
          obtain ⟨v15, ev15⟩ : ∃ z : Int32, z = x2_2 + Int32.ofInt (1) := ⟨_, rfl⟩
          have tv15 := a_inc ev15 (by decide) (by omega) (by omega)
          refine lv_iinc (v := v15) (lv' := [(2, .int (v15)), (0, .ref (ad (1000))), (1, .ref (ad (1023)))]) hx hb dX10_carry_52 hl (k := 0) rfl ev15.symm (by decide) rfl (fun ls hl => ?_)
          refine lv_goto (tgt := 2) hx hb dX10_carry_55 (by decide) ?_
          exact ih2 (v15) (u2 (u2 Ia2 (1023) ((x2_2).toNatClampNeg) (Ia2 (1076) (Ia2 (1000) 78).toNatClampNeg)) (1000) 78 (v13)) La2 _ _ ls hI hK (by first | omega | decide) (by rw [u2_self]; omega) (fun hz => absurd hz (show (I 1000 79).toInt ≠ 0 by have hq := congrArg Int32.toInt (hK0.get 1000 79 rfl); omega)) (fun hz => LD.step (hw2 hz) (by omega) (by omega) (by decide) (by omega)) (by omega) hM hS (lv_sub hl [0, 1, 2] rfl)
  exact loop2 (_ + 1) (0) I L _ _ ls hI hK (by first | omega | decide) (by omega) (fun _ => SV.z (by decide)) (fun _ => LD.z (by decide)) (Nat.lt_succ_self _) hM hS (lv_sub hl [0, 1, 2] rfl)
