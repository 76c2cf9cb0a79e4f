theorem and31 {m : Int32} (h0 : 0 ≤ m.toInt) (h1 : m.toInt < 32) : (m &&& 31).toBitVec.smod 32 = BitVec.ofNat 32 m.toNatClampNeg := by
  have hm : ∀ k : Fin 32, ((Int32.ofNat k.val) &&& 31).toBitVec.smod 32 = BitVec.ofNat 32 k.val := by decide
  have ht : ((m.toNatClampNeg : Nat) : Int) = m.toInt := Int.toNat_of_nonneg h0
  have := hm ⟨m.toNatClampNeg, by omega⟩
  simp only at this
  have e : Int32.ofNat m.toNatClampNeg = m := by
    apply Int32.toInt_inj.mp
    rw [Int32.toInt_ofNat_of_lt (by omega), ht]
  rw [e] at this
  exact this
abbrev bitA (s : Int32) (k : Nat) : Prop := s.toBitVec.getLsbD k = true
theorem bit_and (x y : Int32) (k : Nat) : bitA (x &&& y) k ↔ bitA x k ∧ bitA y k := by
  unfold bitA
  rw [Int32.toBitVec_and, BitVec.getLsbD_and, Bool.and_eq_true]
theorem bit_0 (k : Nat) : ¬ bitA 0 k := by
  unfold bitA
  simp
theorem bit_or {s m : Int32} {k : Nat} (h0 : 0 ≤ m.toInt) (h1 : m.toInt < 32) (hk : k < 32) : bitA (s ||| (1 <<< (m &&& 31))) k ↔ bitA s k ∨ k = m.toNatClampNeg := by
  have ht : ((m.toNatClampNeg : Nat) : Int) = m.toInt := Int.toNat_of_nonneg h0
  unfold bitA
  rw [Int32.toBitVec_or, Int32.toBitVec_shiftLeft, and31 h0 h1, BitVec.getLsbD_or, Bool.or_eq_true]
  have : ((1 : Int32).toBitVec <<< BitVec.ofNat 32 m.toNatClampNeg).getLsbD k = true ↔ k = m.toNatClampNeg := by
    have hm : ∀ a b : Fin 32, ((1 : Int32).toBitVec <<< BitVec.ofNat 32 a.val).getLsbD b.val = true ↔ b.val = a.val := by decide
    exact hm ⟨m.toNatClampNeg, by omega⟩ ⟨k, hk⟩
  rw [this]
theorem bit_t {s m : Int32} (h0 : 0 ≤ m.toInt) (h1 : m.toInt < 32) : (s >>> (m &&& 31) &&& 1 = 1) ↔ bitA s m.toNatClampNeg := by
  have ht : ((m.toNatClampNeg : Nat) : Int) = m.toInt := Int.toNat_of_nonneg h0
  unfold bitA
  have e : (s >>> (m &&& 31) &&& 1 = 1) ↔ (s >>> (m &&& 31)).toBitVec.getLsbD 0 = true := by
    rw [← Int32.toBitVec_inj, Int32.toBitVec_and]
    constructor
    · intro h
      have := congrArg (fun z => BitVec.getLsbD z 0) h
      simpa using this
    · intro h
      apply BitVec.eq_of_getLsbD_eq
      intro i hi
      rw [BitVec.getLsbD_and]
      by_cases h2 : i = 0
      · subst h2; rw [h]; rfl
      · have : (1 : Int32).toBitVec.getLsbD i = false := by
          have hm : ∀ a : Fin 32, a.val ≠ 0 → (1 : Int32).toBitVec.getLsbD a.val = false := by decide
          exact hm ⟨i, hi⟩ h2
        rw [this, Bool.and_false]
  rw [e, Int32.toBitVec_shiftRight, and31 h0 h1]
  have hl : m.toNatClampNeg < 32 := by omega
  show (s.toBitVec.sshiftRight (BitVec.ofNat 32 m.toNatClampNeg).toNat).getLsbD 0 = true ↔ _
  rw [BitVec.getLsbD_sshiftRight, BitVec.toNat_ofNat, Nat.mod_eq_of_lt (by omega)]
  simp [hl]
-- mirrors that break by a set
def MWX (m w : Nat) (v : Int32) (r : Int32) (I : MI) : Prop := ∀ j, j < 24 → (bitA r j ↔ (j < m ∧ I 107 (24 * w + j) = v))
theorem MWX.z {w : Nat} {v : Int32} {I : MI} : MWX 0 w v 0 I := fun j _ => ⟨fun h => absurd h (bit_0 j), fun h => absurd h.1 (Nat.not_lt_zero j)⟩
theorem MWX.n {m w : Nat} {v r : Int32} {I : MI} (h : MWX m w v r I) (hn : ¬ I 107 (24 * w + m) = v) : MWX (m + 1) w v r I := fun j hj => by
  rw [h j hj]
  constructor
  · rintro ⟨h1, h2⟩; exact ⟨by omega, h2⟩
  · rintro ⟨h1, h2⟩
    by_cases hq : j = m
    · subst hq; exact absurd h2 hn
    · exact ⟨by omega, h2⟩
theorem MWX.y {m w : Nat} {v r k : Int32} {I : MI} (h : MWX m w v r I) (hy : I 107 (24 * w + m) = v) (hk : k.toNatClampNeg = m) (h0 : 0 ≤ k.toInt ∧ k.toInt < 24) : MWX (m + 1) w v (r ||| (1 <<< (k &&& 31))) I := fun j hj => by
  rw [bit_or h0.1 (by omega) (by omega), h j hj, hk]
  constructor
  · rintro (⟨h1, h2⟩ | h1)
    · exact ⟨by omega, h2⟩
    · exact ⟨by omega, by rw [h1]; exact hy⟩
  · rintro ⟨h1, h2⟩
    by_cases hq : j = m
    · exact Or.inr hq
    · exact Or.inl ⟨by omega, h2⟩
def SBK (m : Nat) (s v : Int32) (I J : MI) : Prop := ∀ n j, 1 ≤ n → n ≤ 23 → j < wdt n → cF 100 J n j = if n = 15 ∧ j < m ∧ bitA s j then v else cF 100 I n j
theorem SBK.z {s v : Int32} {I : MI} : SBK 0 s v I I := fun n j _ _ _ => by rw [if_neg (by omega)]
theorem SBK.n {m : Nat} {s v : Int32} {I J : MI} (h : SBK m s v I J) (hn : ¬ bitA s m) : SBK (m + 1) s v I J := fun n j h1 h2 hj => by
  rw [h n j h1 h2 hj]
  by_cases hq : n = 15 ∧ j < m ∧ bitA s j
  · rw [if_pos hq, if_pos ⟨hq.1, by omega, hq.2.2⟩]
  · rw [if_neg hq, if_neg]
    rintro ⟨g1, g2, g3⟩
    by_cases hz : j = m
    · subst hz; exact hn g3
    · exact hq ⟨g1, by omega, g3⟩
theorem SBK.y {m : Nat} {s v : Int32} {I J J2 : MI} (h : SBK m s v I J) (hy : bitA s m) (h2 : EqV (stV (cF 100 J) 15 m v) (cF 100 J2)) : SBK (m + 1) s v I J2 := fun n j g1 g2 hj => by
  rw [h2 n j g1 g2 hj]
  unfold stV
  by_cases hz : n = 15 ∧ j = m
  · rw [if_pos hz, if_pos ⟨hz.1, by omega, by rw [hz.2]; exact hy⟩]
  · rw [if_neg hz, h n j g1 g2 hj]
    by_cases hq : n = 15 ∧ j < m ∧ bitA s j
    · rw [if_pos hq, if_pos ⟨hq.1, by omega, hq.2.2⟩]
    · rw [if_neg hq, if_neg]
      rintro ⟨k1, k2, k3⟩
      exact hq ⟨k1, by omega, k3⟩
theorem SBK.nk {R P : List (Nat × Nat)} {m : Nat} {s v : Int32} {I J J2 : MI} (h : SBK m s v I J) (hK : Kp R P J J2) (hc : apb 100 R P = true) : SBK m s v I J2 := fun n j a b c => by rw [cF_fr hK hc]; exact h n j a b c
theorem SBK.bk {m m2 : Nat} {s x : Int32} {I I0 J J2 : MI} {r : Int32} (h : SBK m s 1 I J) (h2 : SBK m2 s 0 J J2) (hm : m2 = m) (hm24 : m ≤ 24) (hs : s = x &&& r) (hw : MWX m 8 0 r I0) (h7 : I0 107 = I 107) : KV 100 I J2 := fun n j a b c => by
  rw [h2 n j a b c, hm]
  by_cases hq : n = 15 ∧ j < m ∧ bitA s j
  · rw [if_pos hq]
    obtain ⟨q1, q2, q3⟩ := hq
    subst q1
    rw [hs, bit_and] at q3
    have := ((hw j (by omega)).mp q3.2).2
    rw [h7] at this
    exact this.symm
  · rw [if_neg hq, h n j a b c, if_neg hq]
-- aiming: places of the set
def GTX (V : VW) (I : MI) : Prop := ∀ k : Nat, (k : Int) < (I 30 5).toInt → I 32 k = V 9 (I 31 k).toNatClampNeg
def AMX (V : VW) (I : MI) : Prop := ∀ n j, 1 ≤ n → n ≤ 23 → j < wdt n → (n ≠ 9 ∨ ∀ k : Nat, (k : Int) < (I 30 5).toInt → (I 31 k).toNatClampNeg ≠ j) → cF 100 I n j = V n j
def PUT (a : Nat) (I J : MI) (x : Nat) : Prop := (∀ n j, 1 ≤ n → n ≤ 23 → j < wdt n → (n ≠ 9 ∨ ∀ k : Nat, (k : Int) < (I 30 5).toInt → (I 31 k).toNatClampNeg ≠ j) → cF 100 J n j = cF 100 I n j) ∧ ∀ k : Nat, k < x → ∃ k2 : Nat, (k2 : Int) < (I 30 5).toInt ∧ (I 31 k2).toNatClampNeg = (I 31 k).toNatClampNeg ∧ cF 100 J 9 (I 31 k).toNatClampNeg = I a k2
theorem PUT.z {a : Nat} {I : MI} : PUT a I I 0 := ⟨fun _ _ _ _ _ _ => rfl, fun k hk => absurd hk (Nat.not_lt_zero k)⟩
theorem PUT.step {a : Nat} {I J J2 : MI} {x m : Nat} {v : Int32} (h : PUT a I J x) (hx : (x : Int) < (I 30 5).toInt) (hm : m = (I 31 x).toNatClampNeg) (hm24 : m < 24) (hv : v = I a x) (h2 : EqV (stV (cF 100 J) 9 m v) (cF 100 J2)) (hr : ∀ k, (I 31 k).toNatClampNeg < 24) : PUT a I J2 (x + 1) := by
  refine ⟨fun n j g1 g2 hj hq => ?_, fun k hk => ?_⟩
  · rw [h2 n j g1 g2 hj, stV_ne, h.1 n j g1 g2 hj hq]
    rintro ⟨k1, k2⟩
    rcases hq with z | z
    · exact z k1
    · exact z x hx (by rw [← hm]; exact k2.symm)
  · rw [h2 9 _ (by decide) (by decide) (hr k)]
    by_cases hz : (I 31 k).toNatClampNeg = m
    · refine ⟨x, hx, by rw [hz, hm], ?_⟩
      rw [hz, stV_at, hv]
    · rw [stV_ne (fun z => hz z.2)]
      by_cases hk2 : k = x
      · subst hk2; exact absurd hm.symm hz
      · exact h.2 k (by omega)
theorem PUT.nk {R P : List (Nat × Nat)} {a x : Nat} {I J J2 : MI} (h : PUT a I J x) (hK : Kp R P J J2) (hc : apb 100 R P = true) : PUT a I J2 x := by
  unfold PUT
  rw [cF_fr hK hc]
  exact h
theorem AMX.put {V : VW} {a x : Nat} {I J : MI} (h : AMX V I) (hp : PUT a I J x) (h5 : J 30 5 = I 30 5) (h31 : J 31 = I 31) : AMX V J := fun n j a b c hq => by
  rw [h5, h31] at hq
  rw [hp.1 n j a b c hq]
  exact h n j a b c hq
theorem AMX.of {V : VW} {I J : MI} (h : AMX V I) (h5 : J 30 5 = I 30 5) (h31 : J 31 = I 31) (hc : cF 100 J = cF 100 I) : AMX V J := by
  unfold AMX
  rw [h5, h31, hc]
  exact h
theorem GTX.of {V : VW} {I J : MI} (h : GTX V I) (h5 : J 30 5 = I 30 5) (h31 : J 31 = I 31) (h32 : J 32 = I 32) : GTX V J := by
  unfold GTX
  rw [h5, h31, h32]
  exact h
theorem AMX.fin {V : VW} {I J : MI} {x : Nat} (h : AMX V I) (g : GTX V I) (hp : PUT 32 I J x) (hx : (I 30 5).toInt ≤ x) : EqV V (cF 100 J) := fun n j a b c => by
  by_cases hq : n ≠ 9 ∨ ∀ k : Nat, (k : Int) < (I 30 5).toInt → (I 31 k).toNatClampNeg ≠ j
  · rw [hp.1 n j a b c hq]; exact h n j a b c hq
  · obtain ⟨h9, hk⟩ := not_or.mp hq
    have h9 : n = 9 := Classical.not_not.mp h9
    subst h9
    obtain ⟨k, hk⟩ := Classical.not_forall.mp hk
    obtain ⟨k1, k3⟩ := Classical.not_imp.mp hk
    have k3 := Classical.not_not.mp k3
    obtain ⟨k2, g1, g2, g3⟩ := hp.2 k (by omega)
    rw [← k3, g3, g k2 g1, g2]
theorem GTX.add {V : VW} {I J : MI} {s m v : Int32} (h : GTX V I) (h0 : 0 ≤ (I 30 5).toInt) (e5 : (J 30 5).toInt = (I 30 5).toInt + 1) (e31 : ∀ k, J 31 k = if k = (I 30 5).toNatClampNeg then m else I 31 k) (e32 : ∀ k, J 32 k = if k = (I 30 5).toNatClampNeg then v else I 32 k) (hv : v = V 9 m.toNatClampNeg) : GTX V J := fun k hk => by
  have t := tn h0
  rw [e31, e32]
  by_cases hq : k = (I 30 5).toNatClampNeg
  · rw [if_pos hq, if_pos hq]; exact hv
  · rw [if_neg hq, if_neg hq]; exact h k (by omega)
