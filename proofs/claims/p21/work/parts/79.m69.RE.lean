-- what the calls' cases use
theorem TWK.sc7 {I : MI} (h : TWK I 100 (live I)) : I 1001 1 = I 100 0 ∧ I 1001 2 = I 100 1 ∧ I 1001 5 = I 100 5 ∧ I 1001 6 = I 100 6 ∧ I 1001 7 = I 100 7 ∧ I 1001 8 = I 100 8 ∧ I 1001 9 = I 100 9 := ⟨h.1 1 1 (by decide) (by decide) (by decide), h.1 1 2 (by decide) (by decide) (by decide), h.1 1 5 (by decide) (by decide) (by decide), h.1 1 6 (by decide) (by decide) (by decide), h.1 1 7 (by decide) (by decide) (by decide), h.1 1 8 (by decide) (by decide) (by decide), h.1 1 9 (by decide) (by decide) (by decide)⟩
theorem TWK.bg {I : MI} (h : TWK I 100 (live I)) : (I 1001 0).toInt = 1 ↔ 0 < (I 100 0).toInt := h.beg
theorem TWK.bz {I : MI} (h : TWK I 100 (live I)) : (I 1001 0).toInt = 1 ∨ ((I 100 8).toInt = 0 ∧ (I 100 9).toInt = 0) := by
  by_cases q : (cF 100 I 1 0).toInt = 1
  · exact Or.inl (h.bg.mpr (sc0_iff.mp q))
  · exact Or.inr (h.2.2.2 q)
theorem TWK.rk1 {I I1 : MI} (h : TWK I 100 (live I)) (c1 : ∀ n, 1000 ≤ n → I1 n = I n) : RKw (live I1) := by
  rw [live_out c1]
  exact (h.2.2.1.eq h.1).w.1
theorem TWK.ok1 {I I1 : MI} (h : TWK I 100 (live I)) (hI : INV I) (c1 : ∀ n, 1000 ≤ n → I1 n = I n) : OKW (live I1) := by
  rw [live_out c1]
  exact (OKW.C hI).eq h.1
theorem REL.lx {I I1 : MI} {G : MG} {a : Int32} (h : REL I G) (c1 : ∀ n, 1000 ≤ n → I1 n = I n) : (0 ≤ a.toInt ∧ a.toInt < (I1 1000 28).toInt) → LRL (lawC (200 + 10 * a.toNatClampNeg) I) I1 a.toNatClampNeg ∧ LWF (lawC (200 + 10 * a.toNatClampNeg) I) := fun hq => by
  have ta := tn hq.1
  rw [c1 1000 (by decide)] at hq
  have q := h.2.2.1.2.2 a.toNatClampNeg (by rw [h.2.2.1.1]; omega)
  exact ⟨q.1.of (fun n x y => c1 n (by omega)), q.2⟩
theorem cf6 {b : Nat} {J : MI} {k : Nat} : cF b J 6 k = J (b + 3) k := by
  unfold cF
  rw [if_neg (by decide)]
  show J (b + 3) (0 + k) = J (b + 3) k
  rw [Nat.zero_add]
theorem bv01 (a : Int32) : (bv a).toInt = 0 ∨ (bv a).toInt = 1 := by
  unfold bv
  split
  · exact Or.inl rfl
  · exact Or.inr rfl
theorem TWK.fr2 {I I1 I2 : MI} (h : TWK I 100 (live I)) (e1 : EqV (cF 100 I) (cF 100 I1)) (h4 : I1 104 = I 104) (c1 : ∀ n, 1000 ≤ n → I1 n = I n) (c2 : ∀ n, n < 1000 → I2 n = I1 n) (e2 : EqV (live I1) (live I2)) : TWK I2 100 (live I2) := h.quiet e1 h4 c1 e2 c2
-- answers
theorem okL_live {I I1 : MI} {a : Int32} (h : TWK I 100 (live I)) (hO : OKW (cF 100 I)) (c1 : ∀ n, 1000 ≤ n → I1 n = I n) : okL (cF 100 I) a ↔ okL (live I1) a := by
  rw [live_out c1]
  exact okL_eq h.1 hO.1
-- the rest of the state, call by call
theorem REL.q {R1 P1 R2 P2 : List (Nat × Nat)} {I I1 I2 : MI} {G : MG} (h : REL I G) (hT : TWK I2 100 (live I2)) (h8 : (I1 10 8).toInt = 0) (c2 : ∀ n, n < 1000 → I2 n = I1 n) (h5 : (I2 1000 59).toInt = 0) (k1 : Kp R1 P1 I I1) (k2 : Kp R2 P2 I1 I2) (o1 : rokS R1 P1 = true) (o2 : rokS R2 P2 = true) : REL I2 G := ⟨hT, ⟨by rw [c2 10 (by decide)]; exact h8, h5⟩, (h.2.2.kp k1 o1 (fun _ => rfl)).kp k2 o2 (fun _ => rfl)⟩
theorem Kp.no {I : MI} : Kp [] [] I I := Kp.rf
theorem Kp.ap20 {R P : List (Nat × Nat)} {I I2 : MI} (h : Kp R P I I2) (hc : (R.all (fun r => decide (r.2 ≤ 120) || decide (160 ≤ r.1)) && P.all (fun q => decide (q.1 < 120) || decide (160 ≤ q.1))) = true) : ∀ n, 120 ≤ n → n < 160 → I2 n = I n := fun n h1 h2 => funext fun k => by
  simp only [Bool.and_eq_true, List.all_eq_true, Bool.or_eq_true, decide_eq_true_eq] at hc
  refine h n k ?_ ?_
  · cases hq : inR R n with
    | false => rfl
    | true =>
      exfalso
      obtain ⟨a, ha, hb⟩ := List.any_eq_true.mp hq
      have := hc.1 a ha
      simp only [Bool.and_eq_true, decide_eq_true_eq] at hb
      omega
  · cases hq : P.contains (n, k) with
    | false => rfl
    | true =>
      exfalso
      have h3 : (n, k) ∈ P := by simpa using hq
      have := hc.2 (n, k) h3
      simp only at this
      omega
theorem REL.bt {I I1 : MI} {G : MG} (h : REL I G) (hI : INV I) (o1 : I1 1000 = I 1000) (o34 : I1 1034 = I 1034) : BTM I1 := by
  intro j hj
  rw [o1] at hj
  rw [o34, ← h.2.2.2.1.2 j hj]
  exact hI.get 3 j (lo := -128) (hi := 127) rfl
