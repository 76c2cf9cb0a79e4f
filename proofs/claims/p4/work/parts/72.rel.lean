-- how class and reference stand to each other: what small calls look at
def RS (I : MI) (b : Nat) (f : Nat → Int32) : Prop := f 1 = I b 0 ∧ f 2 = I b 1 ∧ f 5 = I b 5 ∧ f 7 = I b 7 ∧ f 9 = I b 9 ∧ ((f 0).toInt = 1 ↔ 0 < (I b 0).toInt)
def RIM (I : MI) (G : MG) (k : Nat) : Prop := (G 1 k = 0 ∧ (I 1077 k).toInt = 0) ∨ (G 1 k = 120 + 10 * k ∧ (I 1077 k).toInt ≠ 0 ∧ RS I (120 + 10 * k) (fun j => I 1076 (2720 * k + j)))
def REL (I : MI) (G : MG) : Prop := RS I 100 (I 1001) ∧ ∀ k, k < 4 → RIM I G k
def sens (n k : Nat) : Prop := (n = 100 ∧ (k = 0 ∨ k = 1 ∨ k = 5 ∨ k = 7 ∨ k = 9)) ∨ (120 ≤ n ∧ n < 160) ∨ (n = 1001 ∧ (k = 0 ∨ k = 1 ∨ k = 2 ∨ k = 5 ∨ k = 7 ∨ k = 9)) ∨ n = 1076 ∨ n = 1077
theorem RS.of {I I2 : MI} {b : Nat} {f f2 : Nat → Int32} (h : RS I b f) (h0 : I2 b 0 = I b 0) (h1 : I2 b 1 = I b 1) (h5 : I2 b 5 = I b 5) (h7 : I2 b 7 = I b 7) (h9 : I2 b 9 = I b 9) (f0 : f2 0 = f 0) (f1 : f2 1 = f 1) (f2' : f2 2 = f 2) (f5 : f2 5 = f 5) (f7 : f2 7 = f 7) (f9 : f2 9 = f 9) : RS I2 b f2 := by
  unfold RS
  rw [h0, h1, h5, h7, h9, f0, f1, f2', f5, f7, f9]
  exact h
theorem RIM.of {I I2 : MI} {G G2 : MG} {k : Nat} (h : RIM I G k) (hk : k < 4) (hg : G2 1 k = G 1 k) (hn : ∀ j, I2 (120 + 10 * k) j = I (120 + 10 * k) j) (hi : ∀ j, j < 10 → I2 1076 (2720 * k + j) = I 1076 (2720 * k + j)) (hm : I2 1077 k = I 1077 k) : RIM I2 G2 k := by
  unfold RIM
  rw [hg, hm]
  rcases h with h | ⟨h1, h2, h3⟩
  · exact Or.inl h
  · exact Or.inr ⟨h1, h2, h3.of (hn _) (hn _) (hn _) (hn _) (hn _) (hi 0 (by decide)) (hi 1 (by decide)) (hi 2 (by decide)) (hi 5 (by decide)) (hi 7 (by decide)) (hi 9 (by decide))⟩
theorem REL.ext {I I2 : MI} {G G2 : MG} (h : REL I G) (he : ∀ n k, sens n k → I2 n k = I n k) (hg : ∀ k, G2 1 k = G 1 k) : REL I2 G2 := by
  refine ⟨h.1.of ?_ ?_ ?_ ?_ ?_ ?_ ?_ ?_ ?_ ?_ ?_, fun k hk => (h.2 k hk).of hk (hg k) (fun j => he _ _ (by unfold sens; omega)) (fun j _ => he _ _ (by unfold sens; omega)) (he _ _ (by unfold sens; omega))⟩ <;> exact he _ _ (by unfold sens; omega)
def relok (ex : Nat × Nat) (R P : List (Nat × Nat)) : Bool := R.all (fun r => decide (r.2 ≤ 100 ∨ (101 ≤ r.1 ∧ r.2 ≤ 120) ∨ (160 ≤ r.1 ∧ r.2 ≤ 1001) ∨ (1002 ≤ r.1 ∧ r.2 ≤ 1076) ∨ 1078 ≤ r.1)) && P.all (fun q => decide (q = ex ∨ (q.1 < 100) ∨ (q.1 = 100 ∧ q.2 ≠ 0 ∧ q.2 ≠ 1 ∧ q.2 ≠ 5 ∧ q.2 ≠ 7 ∧ q.2 ≠ 9) ∨ (100 < q.1 ∧ q.1 < 120) ∨ (160 ≤ q.1 ∧ q.1 ≤ 1000) ∨ (q.1 = 1001 ∧ q.2 ≠ 0 ∧ q.2 ≠ 1 ∧ q.2 ≠ 2 ∧ q.2 ≠ 5 ∧ q.2 ≠ 7 ∧ q.2 ≠ 9) ∨ (1001 < q.1 ∧ q.1 < 1076) ∨ 1078 ≤ q.1))
theorem kp_sens {R P : List (Nat × Nat)} {I I2 : MI} (ex : Nat × Nat) (h : Kp R P I I2) (hc : relok ex R P = true) : ∀ n k, sens n k → (n, k) ≠ ex → I2 n k = I n k := by
  intro n k hs hx
  unfold relok at hc
  simp only [Bool.and_eq_true, List.all_eq_true, decide_eq_true_eq] at hc
  unfold sens at hs
  refine h n k ?_ ?_
  · cases hq : inR R n with
    | false => rfl
    | true =>
      exfalso
      obtain ⟨r, hr, hb⟩ := List.any_eq_true.mp hq
      have h1 := hc.1 r hr
      simp only [Bool.and_eq_true, decide_eq_true_eq] at hb
      omega
  · cases hq : P.contains (n, k) with
    | false => rfl
    | true =>
      exfalso
      have h3 : (n, k) ∈ P := by simpa using hq
      rcases hc.2 (n, k) h3 with h1 | h1
      · exact hx h1
      · simp only at h1
        omega
theorem REL.kp {R P : List (Nat × Nat)} {I I2 : MI} {G : MG} (h : REL I G) (hK : Kp R P I I2) (hc : relok (0, 999) R P = true) : REL I2 G := h.ext (fun n k hs => kp_sens (0, 999) hK hc n k hs (fun e => by unfold sens at hs; simp only [Prod.mk.injEq] at e; omega)) (fun _ => rfl)
theorem REL.kp5 {R P : List (Nat × Nat)} {I I2 : MI} {G : MG} (h : REL I G) (hK : Kp R P I I2) (hc : relok (1001, 5) R P = true) (h5 : I2 1001 5 = I 1001 5) : REL I2 G := h.ext (fun n k hs => by
  by_cases hq : (n, k) = (1001, 5)
  · simp only [Prod.mk.injEq] at hq
    rw [hq.1, hq.2]
    exact h5
  · exact kp_sens (1001, 5) hK hc n k hs hq) (fun _ => rfl)
theorem REL.kpg {R P : List (Nat × Nat)} {I I2 : MI} {G G2 : MG} (h : REL I G) (hK : Kp R P I I2) (hc : relok (0, 999) R P = true) (hg : ∀ k, G2 1 k = G 1 k) : REL I2 G2 := (h.kp hK hc).ext (fun _ _ _ => rfl) hg
-- the town that is there, anew; the images as they were
theorem REL.live {I I2 : MI} {G : MG} (h : REL I G) (hn : RS I2 100 (I2 1001)) (he : ∀ n, (120 ≤ n ∧ n < 160) ∨ n = 1076 ∨ n = 1077 → I2 n = I n) : REL I2 G := ⟨hn, fun k hk => (h.2 k hk).of hk rfl (fun j => by rw [he _ (by omega)]) (fun j _ => by rw [he _ (by omega)]) (by rw [he _ (by omega)])⟩
theorem beg_iff {I : MI} {G : MG} (h : REL I G) : (I 1001 0).toInt = 1 ↔ 0 < (I 100 0).toInt := h.1.2.2.2.2.2
theorem ASK.same {ok ok2 : Prop} {r r2 v w v2 w2 a : Int32} (h : ASK ok r v v2 a) (h2 : ASK ok2 r2 w w2 a) (e : ok ↔ ok2) (ev : v = w) : r = r2 ∧ v2 = w2 := by
  rcases h with ⟨h1, h3, h4⟩ | ⟨h1, h3, h4⟩ <;> rcases h2 with ⟨g1, g3, g4⟩ | ⟨g1, g3, g4⟩
  · exact ⟨by rw [h3, g3, ev], by rw [h4, g4]⟩
  · exact absurd (e.mp h1) g1
  · exact absurd (e.mpr g1) h1
  · exact ⟨by rw [h3, g3], by rw [h4, g4, ev]⟩
theorem ADD.same {ok ok2 : Prop} {r r2 v w v2 w2 : Int32} (h : ADD ok r v v2) (h2 : ADD ok2 r2 w w2) (e : ok ↔ ok2) (ev : v = w) : r = r2 ∧ v2 = w2 := by
  rcases h with ⟨h1, h3, h4⟩ | ⟨h1, h3, h4⟩ <;> rcases h2 with ⟨g1, g3, g4⟩ | ⟨g1, g3, g4⟩
  · exact ⟨by rw [h3, g3, ev], Int32.toInt_inj.mp (by rw [h4, g4, ev])⟩
  · exact absurd (e.mp h1) g1
  · exact absurd (e.mpr g1) h1
  · exact ⟨by rw [h3, g3], by rw [h4, g4, ev]⟩
theorem REL.put {I I1 I2 : MI} {G : MG} (h : REL I G) (j : Nat) (hj : j = 5 ∨ j = 7 ∨ j = 9) {R1 P1 R2 P2 : List (Nat × Nat)} (hk1 : Kp R1 P1 I I1) (hc1 : relok (100, j) R1 P1 = true) (hk2 : Kp R2 P2 I1 I2) (hc2 : relok (1001, j) R2 P2 = true) (e : I1 100 j = I2 1001 j) : REL I2 G := by
  have f1 := kp_sens (100, j) hk1 hc1
  have f2 := kp_sens (1001, j) hk2 hc2
  have f : ∀ n k, sens n k → (n, k) ≠ (100, j) → (n, k) ≠ (1001, j) → I2 n k = I n k := fun n k hs a b => (f2 n k hs b).trans (f1 n k hs a)
  have ne : ∀ n k m i : Nat, n ≠ m ∨ k ≠ i → (n, k) ≠ (m, i) := fun n k m i hh q => by simp only [Prod.mk.injEq] at q; omega
  have e2 : I2 1001 j = I2 100 j := by rw [← e, f2 100 j (by unfold sens; omega) (ne _ _ _ _ (by omega))]
  obtain ⟨⟨a1, a2, a5, a7, a9, a0⟩, him⟩ := h
  refine ⟨⟨?_, ?_, ?_, ?_, ?_, ?_⟩, fun k hk => (him k hk).of hk rfl (fun i => f _ _ (by unfold sens; omega) (ne _ _ _ _ (by omega)) (ne _ _ _ _ (by omega))) (fun i _ => f _ _ (by unfold sens; omega) (ne _ _ _ _ (by omega)) (ne _ _ _ _ (by omega))) (f _ _ (by unfold sens; omega) (ne _ _ _ _ (by omega)) (ne _ _ _ _ (by omega)))⟩
  · rw [f 1001 1 (by unfold sens; omega) (ne _ _ _ _ (by omega)) (ne _ _ _ _ (by omega)), f 100 0 (by unfold sens; omega) (ne _ _ _ _ (by omega)) (ne _ _ _ _ (by omega))]
    exact a1
  · rw [f 1001 2 (by unfold sens; omega) (ne _ _ _ _ (by omega)) (ne _ _ _ _ (by omega)), f 100 1 (by unfold sens; omega) (ne _ _ _ _ (by omega)) (ne _ _ _ _ (by omega))]
    exact a2
  · by_cases hq : j = 5
    · rw [← hq]
      exact e2
    · rw [f 1001 5 (by unfold sens; omega) (ne _ _ _ _ (by omega)) (ne _ _ _ _ (by omega)), f 100 5 (by unfold sens; omega) (ne _ _ _ _ (by omega)) (ne _ _ _ _ (by omega))]
      exact a5
  · by_cases hq : j = 7
    · rw [← hq]
      exact e2
    · rw [f 1001 7 (by unfold sens; omega) (ne _ _ _ _ (by omega)) (ne _ _ _ _ (by omega)), f 100 7 (by unfold sens; omega) (ne _ _ _ _ (by omega)) (ne _ _ _ _ (by omega))]
      exact a7
  · by_cases hq : j = 9
    · rw [← hq]
      exact e2
    · rw [f 1001 9 (by unfold sens; omega) (ne _ _ _ _ (by omega)) (ne _ _ _ _ (by omega)), f 100 9 (by unfold sens; omega) (ne _ _ _ _ (by omega)) (ne _ _ _ _ (by omega))]
      exact a9
  · rw [f 1001 0 (by unfold sens; omega) (ne _ _ _ _ (by omega)) (ne _ _ _ _ (by omega)), f 100 0 (by unfold sens; omega) (ne _ _ _ _ (by omega)) (ne _ _ _ _ (by omega))]
    exact a0
-- town
theorem REL.town {I I1 I2 : MI} {G : MG} {a b x y z r1 r2 : Int32} {Q : Prop} (h : REL I G) (y1 : (okT a b x y z ∧ r1 = 1 ∧ I1 = beginI I 100 a b x y z) ∨ (¬ okT a b x y z ∧ r1 = 0 ∧ I1 = I)) (y2 : (okT a b x y z ∧ r2 = 1 ∧ T10 I2 a b ∧ Q) ∨ (¬ okT a b x y z ∧ r2 = 0 ∧ I2 = I1)) (hk1 : Kp [(100, 107)] [] I I1) (hk2 : Kp [(1001, 1007)] [] I1 I2) : REL I2 G := by
  rcases y1 with ⟨h1, -, h3⟩ | ⟨h1, -, h3⟩ <;> rcases y2 with ⟨g1, -, g3, -⟩ | ⟨g1, -, g3⟩
  · refine h.live ?_ (fun n hn => (hk2.apart 1001 1007 rfl n (by omega)).trans (hk1.apart 100 107 rfl n (by omega)))
    have e : I2 100 = I1 100 := hk2.apart 1001 1007 rfl 100 (by decide)
    obtain ⟨t0, t1, t2, t5, t6, t7, t8, t9⟩ := g3
    have b0 : I1 100 0 = a := by rw [h3]; simp [beginI, fillI, u2_v]
    have b1 : I1 100 1 = b := by rw [h3]; simp [beginI, fillI, u2_v]
    have b5 : I1 100 5 = 0 := by rw [h3]; simp [beginI, fillI, u2_v]
    have b7 : I1 100 7 = 0 := by rw [h3]; simp [beginI, fillI, u2_v]
    have b9 : I1 100 9 = 0 := by rw [h3]; simp [beginI, fillI, u2_v]
    unfold RS
    rw [e, b0, b1, b5, b7, b9, t0, t1, t2, t5, t7, t9]
    refine ⟨rfl, rfl, rfl, rfl, rfl, fun _ => ?_, fun _ => by decide⟩
    have := h1.1
    omega
  · exact absurd h1 g1
  · exact absurd g1 h1
  · rw [g3, h3]
    exact h
-- images
theorem imL_r : ∀ t ∈ imL, t.2.1 + t.2.2 ≤ 2720 ∧ t.1 ≠ 1076 ∧ t.1 ≠ 1077 ∧ 1000 < t.1 ∧ t.1 < 1024 := by decide
theorem imL_s : (1001, 0, 10) ∈ imL := by decide
theorem REL.image {I I1 I2 : MI} {G G1 : MG} {a r1 r2 : Int32} (h : REL I G) (y1 : IMGX G G1 I I1 r1 a) (ho : ∀ n, 1000 ≤ n → I1 n = I n) (y2 : (r2 = -1 ∧ I2 = I1 ∧ ¬ ((0 ≤ a.toInt ∧ a.toInt ≤ 3) ∧ (I1 1001 0).toInt = 1)) ∨ (((0 ≤ a.toInt ∧ a.toInt ≤ 3) ∧ (I1 1001 0).toInt = 1) ∧ r2 = I1 1001 6 ∧ SV (a).toNatClampNeg imL (u2 I1 1077 (a).toNatClampNeg 1) I2)) {R P : List (Nat × Nat)} (hk2 : Kp R P I1 I2) (hc : ∀ n, n < 1000 → I2 n = I1 n) : REL I2 G1 := by
  have hb := beg_iff h
  rw [show I1 1001 0 = I 1001 0 from congrFun (ho 1001 (by decide)) 0] at y2
  rcases y1 with ⟨h1, -, k, hk, hgk, hcp, hfr, hgo⟩ | ⟨h1, -, h3, h4⟩ <;> rcases y2 with ⟨-, g2, g3⟩ | ⟨g1, -, g3⟩
  · exact absurd ⟨⟨h1.1, h1.2.1⟩, hb.mpr h1.2.2⟩ g3
  · have hk4 : k < 4 := by omega
    rw [cl_of hk] at g3
    obtain ⟨s1, s2, s3⟩ := g3
    have e1 : ∀ n, n ≠ 1076 → n ≠ 1000 → n ≠ 1077 → I2 n = I1 n := fun n p q w => (s3 n p q).trans (u2_ne _ _ _ w)
    have e77 : ∀ j, j ≠ k → I2 1077 j = I1 1077 j := fun j hj => by rw [s3 1077 (by decide) (by decide), u2_v, if_neg (by simp [hj])]
    have e77k : I2 1077 k = 1 := by rw [s3 1077 (by decide) (by decide), u2_self]
    have im : ∀ j, j < 10 → I2 1076 (2720 * k + j) = I 1001 j := fun j hj => by
      have := s1 _ imL_s j hj
      simp only [Nat.add_zero] at this
      rw [this, u2_ne _ _ _ (by decide), ho 1001 (by decide)]
    have imo : ∀ k', k' ≠ k → ∀ j, j < 10 → I2 1076 (2720 * k' + j) = I 1076 (2720 * k' + j) := fun k' hk' j hj => by
      rw [s2 _ (fun t ht => by have := imL_r t ht; omega), u2_ne _ _ _ (by decide), ho 1076 (by decide)]
    refine ⟨h.1.of ?_ ?_ ?_ ?_ ?_ ?_ ?_ ?_ ?_ ?_ ?_, fun k' hk' => ?_⟩
    any_goals (rw [e1 100 (by decide) (by decide) (by decide), hfr 100 (by omega)])
    any_goals (rw [e1 1001 (by decide) (by decide) (by decide), ho 1001 (by decide)])
    by_cases hq : k' = k
    · subst hq
      refine Or.inr ⟨hgk, by rw [e77k]; decide, ?_⟩
      have hc0 : ∀ j, j < 10 → I2 (120 + 10 * k') j = I 100 j := fun j hj => by rw [e1 _ (by omega) (by omega) (by omega)]; exact hcp.1 j hj
      unfold RS
      simp only [im 0 (by decide), im 1 (by decide), im 2 (by decide), im 5 (by decide), im 7 (by decide), im 9 (by decide), hc0 0 (by decide), hc0 1 (by decide), hc0 5 (by decide), hc0 7 (by decide), hc0 9 (by decide)]
      exact h.1
    · refine (h.2 k' hk').of hk' (hgo k' hq) (fun j => ?_) (imo k' hq) ?_
      · rw [e1 _ (by omega) (by omega) (by omega), hfr _ (by omega)]
      · rw [e77 k' hq, ho 1077 (by decide)]
  · rw [g2, h3, h4]
    exact h
  · exact absurd ⟨g1.1.1, g1.1.2, hb.mp g1.2⟩ h1
theorem REL.back {I I1 I2 : MI} {G : MG} {a r1 r2 : Int32} (h : REL I G) (y1 : BCKX G I I1 r1 a) (ho : ∀ n, 1000 ≤ n → I1 n = I n) (hl : ∀ n, 120 ≤ n → n < 160 → I1 n = I n) (y2 : (r2 = -1 ∧ I2 = I1 ∧ ¬ ((0 ≤ a.toInt ∧ a.toInt ≤ 3) ∧ (I1 1077 (a).toNatClampNeg).toInt ≠ 0)) ∨ (((0 ≤ a.toInt ∧ a.toInt ≤ 3) ∧ (I1 1077 (a).toNatClampNeg).toInt ≠ 0) ∧ r2 = I2 1001 6 ∧ LD (a).toNatClampNeg imL I1 I2)) (hc : ∀ n, n < 1000 → I2 n = I1 n) : REL I2 G := by
  rw [ho 1077 (by decide)] at y2
  rcases y1 with ⟨k, hk4, hk, hgk, -, hcp⟩ | ⟨h1, -, h3⟩ <;> rcases y2 with ⟨-, g2, g3⟩ | ⟨g1, -, g3⟩
  · rw [cl_of hk] at g3
    rcases h.2 k hk4 with ⟨q1, -⟩ | ⟨-, q2, -⟩
    · omega
    · exact absurd ⟨by omega, q2⟩ g3
  · rw [cl_of hk] at g1 g3
    obtain ⟨l1, l2⟩ := g3
    rcases h.2 k hk4 with ⟨q1, -⟩ | ⟨-, -, q3⟩
    · omega
    · refine h.live ?_ (fun n hn => ?_)
      · have hi : ∀ j, j < 10 → I2 1001 j = I 1076 (2720 * k + j) := fun j hj => by
          have := l1 _ imL_s j hj
          simp only [Nat.add_zero] at this
          rw [this, ho 1076 (by decide)]
        have hc0 : ∀ j, j < 10 → I2 100 j = I (120 + 10 * k) j := fun j hj => by rw [hc 100 (by decide)]; exact hcp.1 j hj
        unfold RS
        rw [hi 0 (by decide), hi 1 (by decide), hi 2 (by decide), hi 5 (by decide), hi 7 (by decide), hi 9 (by decide), hc0 0 (by decide), hc0 1 (by decide), hc0 5 (by decide), hc0 7 (by decide), hc0 9 (by decide)]
        exact q3
      · rcases hn with hn | hn | hn
        · rw [hc n (by omega), hl n hn.1 hn.2]
        · rw [hn, l2 1076 (by decide) (fun t ht => (imL_r t ht).2.1), ho 1076 (by decide)]
        · rw [hn, l2 1077 (by decide) (fun t ht => (imL_r t ht).2.2.1), ho 1077 (by decide)]
  · rw [g2, h3]
    exact h
  · exfalso
    have hz := h1 a.toNatClampNeg (by have := tn (i := a) (by omega); omega) (by have := tn (i := a) (by omega); omega)
    rcases h.2 a.toNatClampNeg (by have := tn (i := a) (by omega); omega) with ⟨-, q1⟩ | ⟨q1, -, -⟩
    · omega
    · omega
theorem rel0 : REL iA0 gA0 := by
  have hz : ∀ n k, ¬ (n = 1000) → iA0 n k = 0 := fun n k h => by simp only [iA0, u2_v]; simp [h, zI]
  refine ⟨?_, fun k hk => Or.inl ⟨by simp [gA0, gC0, u2_v, zG], by rw [hz _ _ (by decide)]; rfl⟩⟩
  have h1 : ∀ k, iA0 1001 k = 0 := fun k => hz 1001 k (by decide)
  have h2 : ∀ k, iA0 100 k = 0 := fun k => hz 100 k (by decide)
  unfold RS
  simp only [h1, h2]
  decide
