-- rock
def Sim (s t : (Nat → Int32) × Int32) : Prop := (∀ c, c < 576 → s.1 c = t.1 c) ∧ s.2 = t.2
theorem rkR_sim {v : Int32} {r : Nat} (hr : r < 24) : ∀ (m x : Nat) (s t : (Nat → Int32) × Int32), x + m ≤ 24 → Sim s t → Sim (rkR v r m x s) (rkR v r m x t) := by
  intro m
  induction m with
  | zero => intro x s t _ h; exact h
  | succ m ih =>
    intro x s t hx h
    simp only [rkR]
    refine ih (x + 1) _ _ (by omega) ⟨fun c hc => ?_, ?_⟩
    · simp only [rkC]
      split
      · rfl
      · exact h.1 c hc
    · simp only [h.1 (24 * r + x) (by omega), h.2]
theorem rkA_sim {v : Int32} {x w : Nat} (hx : x + w ≤ 24) : ∀ (m y : Nat) (s t : (Nat → Int32) × Int32), y + m ≤ 24 → Sim s t → Sim (rkA v x w m y s) (rkA v x w m y t) := by
  intro m
  induction m with
  | zero => intro y s t _ h; exact h
  | succ m ih =>
    intro y s t hy h
    simp only [rkA]
    exact ih (y + 1) _ _ (by omega) (rkR_sim (by omega) w x s t hx h)
theorem REL.rock {I I1 I2 : MI} {G : MG} {ok1 ok2 : Prop} {r1 r2 a b c d v : Int32} (h : REL I G) (hI : INV I) (y1 : RKX ok1 r1 I I1 101 a b c d v) (y2 : RKX ok2 r2 I1 I2 1002 a b c d v) (e : ok1 ↔ ok2) (hr : ok1 → (0 ≤ a.toInt ∧ a.toInt ≤ c.toInt ∧ c.toInt ≤ 23) ∧ 0 ≤ b.toInt ∧ b.toInt ≤ d.toInt ∧ d.toInt ≤ 23) (e1 : ∀ n, n ≠ 101 → I1 n = I n) (e2 : ∀ n, n ≠ 1002 → I2 n = I1 n) : r1 = r2 ∧ REL I2 G := by
  rcases y1 with ⟨h1, h2⟩ | ⟨h1, h2, h3⟩ <;> rcases y2 with ⟨g1, g2⟩ | ⟨g1, g2, g3⟩
  · have hb := hr h1
    have ta := tn (i := a) (by omega)
    have tb := tn (i := b) (by omega)
    have en : ∀ n, n ≠ 101 → n ≠ 1002 → I2 n = I n := fun n p q => (e2 n q).trans (e1 n p)
    have hs : Sim (I1 101, r1) (I2 1002, r2) := by
      rw [h2, g2]
      refine rkA_sim (by omega) _ _ _ _ (by omega) ⟨fun q hq => ?_, rfl⟩
      have h' : I 1002 q = I 101 q ∧ I 1003 q = I 102 q ∧ I 1006 q = I 103 q := h.1.2.1 q hq
      simp only
      rw [e1 1002 (by decide)]
      exact h'.1.symm
    refine ⟨hs.2, h.alive hI ⟨h.1.1.keep (fun k _ => by rw [en 100 (by decide) (by decide)]) (fun k _ => by rw [en 1001 (by decide) (by decide)]), fun q hq => ?_, h.1.2.2.keep (en 104 (by decide) (by decide)) (by rw [en 100 (by decide) (by decide)]) (fun n p q => en n (by omega) (by omega)) (by rw [en 100 (by decide) (by decide)])⟩ (fun n hn => en n (by omega) (by omega))⟩
    have h' : I 1002 q = I 101 q ∧ I 1003 q = I 102 q ∧ I 1006 q = I 103 q := h.1.2.1 q hq
    show I2 1002 q = I2 101 q ∧ I2 1003 q = I2 102 q ∧ I2 1006 q = I2 103 q
    rw [en 1003 (by decide) (by decide), en 102 (by decide) (by decide), en 1006 (by decide) (by decide), en 103 (by decide) (by decide), e2 101 (by decide)]
    exact ⟨(hs.1 q hq).symm, h'.2⟩
  · exact absurd (e.mp h1) g1
  · exact absurd (e.mpr g1) h1
  · rw [h2, g2, g3, h3]
    exact ⟨rfl, h⟩
-- yard
theorem REL.yard {I I1 I2 : MI} {G : MG} {ok1 ok2 : Prop} {r1 r2 a b c d : Int32} (h : REL I G) (hI : INV I) (y1 : ADDY ok1 r1 I I1 a b c d) (y2 : ADDYM ok2 r2 I1 I2 a b c d) (e : ok1 ↔ ok2) (e1 : ∀ n, (n = 101 ∨ n = 102 ∨ n = 103 ∨ (120 ≤ n ∧ n < 160) ∨ 1000 ≤ n) → I1 n = I n) (b1 : ∀ k, (k = 0 ∨ k = 1 ∨ k = 5 ∨ k = 7 ∨ k = 8) → I1 100 k = I 100 k) (e2 : ∀ n, (n < 1000 ∨ n = 1002 ∨ n = 1003 ∨ n = 1006 ∨ n = 1076 ∨ n = 1077) → I2 n = I1 n) (b2 : ∀ k, (k = 0 ∨ k = 1 ∨ k = 2 ∨ k = 5 ∨ k = 7 ∨ k = 8) → I2 1001 k = I1 1001 k) : r1 = r2 ∧ REL I2 G := by
  have hs : I 1001 1 = I 100 0 ∧ I 1001 2 = I 100 1 ∧ I 1001 5 = I 100 5 ∧ I 1001 7 = I 100 7 ∧ I 1001 8 = I 100 8 ∧ I 1001 9 = I 100 9 ∧ ((I 1001 0).toInt = 1 ↔ 0 < (I 100 0).toInt) := h.1.1
  have m1 : ∀ k, I1 1001 k = I 1001 k := fun k => congrFun (e1 1001 (by decide)) k
  rcases y1 with ⟨h1, h2, h3, h4⟩ | ⟨h1, h2, h3⟩ <;> rcases y2 with ⟨g1, g2, g3, q17, q18, q19, q20⟩ | ⟨g1, g2, g3⟩
  · have en : ∀ n, (n = 101 ∨ n = 102 ∨ n = 103 ∨ (120 ≤ n ∧ n < 160) ∨ n = 1002 ∨ n = 1003 ∨ n = 1006 ∨ n = 1076 ∨ n = 1077) → I2 n = I n := fun n hn => (e2 n (by omega)).trans (e1 n (by omega))
    have eb : ∀ k, I2 100 k = I1 100 k := fun k => congrFun (e2 100 (by decide)) k
    have e9 : I2 1001 9 = I2 100 9 := Int32.toInt_inj.mp (by rw [g3, eb 9, h3, m1 9, hs.2.2.2.2.2.1])
    refine ⟨by rw [h2, g2, m1 9]; exact hs.2.2.2.2.2.1.symm, h.alive hI ⟨?_, h.1.2.1.keep (fun n hn => en n (by omega)), fun hp q hq => ?_⟩ (fun n hn => en n (by omega))⟩
    · show I2 1001 1 = I2 100 0 ∧ I2 1001 2 = I2 100 1 ∧ I2 1001 5 = I2 100 5 ∧ I2 1001 7 = I2 100 7 ∧ I2 1001 8 = I2 100 8 ∧ I2 1001 9 = I2 100 9 ∧ ((I2 1001 0).toInt = 1 ↔ 0 < (I2 100 0).toInt)
      rw [e9, eb 0, eb 1, eb 5, eb 7, eb 8, b1 0 (by decide), b1 1 (by decide), b1 5 (by decide), b1 7 (by decide), b1 8 (by decide), b2 0 (by decide), b2 1 (by decide), b2 2 (by decide), b2 5 (by decide), b2 7 (by decide), b2 8 (by decide), m1 0, m1 1, m1 2, m1 5, m1 7, m1 8]
      exact ⟨hs.1, hs.2.1, hs.2.2.1, hs.2.2.2.1, hs.2.2.2.2.1, rfl, hs.2.2.2.2.2.2⟩
    · show (I2 104 q).toInt = yo (live I2) q (I2 100 9).toNatClampNeg
      have g9 := hI.get 100 9 (lo := 0) (hi := 8) rfl
      have t9 := tn (i := I 100 9) (by omega)
      have u9 := tn (i := I2 100 9) (by rw [eb 9, h3]; omega)
      rw [eb 9, h3] at u9
      have hk : (I2 100 9).toNatClampNeg = (I 100 9).toNatClampNeg + 1 := by rw [eb 9]; omega
      have hk1 : (I1 1001 9).toNatClampNeg = (I 100 9).toNatClampNeg := by rw [m1 9, hs.2.2.2.2.2.1]
      have hy : (I 104 q).toInt = yo (live I) q (I 100 9).toNatClampNeg := h.1.2.2 (by rw [← b1 0 (by decide), ← eb 0]; exact hp) q hq
      have hc : yo (live I2) q (I 100 9).toNatClampNeg = yo (live I) q (I 100 9).toNatClampNeg := yo_congr (fun k hk2 => by
        have z : ∀ n v, n = 1017 ∨ n = 1018 ∨ n = 1019 ∨ n = 1020 → u2 I1 n (I1 1001 9).toNatClampNeg v n k = I n k := fun n v hn => by rw [u2_v, if_neg (by rw [hk1]; omega), e1 n (by omega)]
        exact ⟨by show I2 1017 k = I 1017 k; rw [q17]; exact z _ _ (by decide), by show I2 1018 k = I 1018 k; rw [q18]; exact z _ _ (by decide), by show I2 1019 k = I 1019 k; rw [q19]; exact z _ _ (by decide), by show I2 1020 k = I 1020 k; rw [q20]; exact z _ _ (by decide)⟩)
      have w17 : live I2 17 (I 100 9).toNatClampNeg = a := by show I2 1017 _ = a; rw [q17, ← hk1, u2_self]
      have w18 : live I2 18 (I 100 9).toNatClampNeg = b := by show I2 1018 _ = b; rw [q18, ← hk1, u2_self]
      have w19 : live I2 19 (I 100 9).toNatClampNeg = c := by show I2 1019 _ = c; rw [q19, ← hk1, u2_self]
      have w20 : live I2 20 (I 100 9).toNatClampNeg = d := by show I2 1020 _ = d; rw [q20, ← hk1, u2_self]
      have hyi : yin (live I2) (I 100 9).toNatClampNeg q ↔ (b.toInt ≤ ((q / 24 : Nat) : Int) ∧ ((q / 24 : Nat) : Int) ≤ d.toInt ∧ a.toInt ≤ ((q % 24 : Nat) : Int) ∧ ((q % 24 : Nat) : Int) ≤ c.toInt) := by
        unfold yin
        rw [w17, w18, w19, w20]
        constructor
        · intro z; exact ⟨z.2.1, z.2.2, z.1.1, z.1.2⟩
        · intro z; exact ⟨⟨z.2.2.1, z.2.2.2⟩, z.1, z.2.1⟩
      rw [hk, e2 104 (by decide), h4 q hq]
      by_cases hm : (I 104 q).toInt = -1
      · have hc0 : yo (live I2) q (I 100 9).toNatClampNeg = -1 := by rw [hc, ← hy]; exact hm
        by_cases hin : yin (live I2) (I 100 9).toNatClampNeg q
        · rw [yo_hit hc0 hin, if_pos ⟨hyi.mp hin, hm⟩]
          omega
        · rw [yo_miss hc0 hin, if_neg (fun z => hin (hyi.mpr z.1))]
          exact hm
      · rw [yo_stay (k := (I 100 9).toNatClampNeg) (by rw [hc, ← hy]; exact hm) _ (by omega), if_neg (fun z => hm z.2), hc]
        exact hy
  · exact absurd (e.mp h1) g1
  · exact absurd (e.mpr g1) h1
  · rw [h2, g2, g3, h3]
    exact ⟨rfl, h⟩
-- town
theorem REL.town {I I1 I2 : MI} {G : MG} {a b x y z r1 r2 : Int32} (h : REL I G) (hI : INV I) (y1 : (okT a b x y z ∧ r1 = 1 ∧ I1 = beginI I 100 a b x y z) ∨ (¬ okT a b x y z ∧ r1 = 0 ∧ I1 = I)) (y2 : (okT a b x y z ∧ r2 = 1 ∧ T10 I2 a b ∧ ∀ j, j < 576 → I2 1002 j = 0 ∧ I2 1003 j = -1 ∧ I2 1006 j = -1) ∨ (¬ okT a b x y z ∧ r2 = 0 ∧ I2 = I1)) (hk1 : Kp [(100, 107)] [] I I1) (hk2 : Kp [(1001, 1007)] [] I1 I2) : REL I2 G := by
  rcases y1 with ⟨h1, -, h3⟩ | ⟨h1, -, h3⟩ <;> rcases y2 with ⟨g1, -, g3, g4⟩ | ⟨g1, -, g3⟩
  · have e : ∀ n, n < 1001 → I2 n = I1 n := fun n hn => hk2.apart 1001 1007 rfl n (by omega)
    refine h.alive hI ⟨?_, fun c hc => ?_, fun _ c hc => ?_⟩ (fun n hn => (hk2.apart 1001 1007 rfl n (by omega)).trans (hk1.apart 100 107 rfl n (by omega)))
    · obtain ⟨t0, t1, t2, t5, t6, t7, t8, t9⟩ := g3
      have b0 : I1 100 0 = a := by rw [h3]; simp [beginI, fillI, u2_v]
      have b1 : I1 100 1 = b := by rw [h3]; simp [beginI, fillI, u2_v]
      have b5 : I1 100 5 = 0 := by rw [h3]; simp [beginI, fillI, u2_v]
      have b7 : I1 100 7 = 0 := by rw [h3]; simp [beginI, fillI, u2_v]
      have b8 : I1 100 8 = 0 := by rw [h3]; simp [beginI, fillI, u2_v]
      have b9 : I1 100 9 = 0 := by rw [h3]; simp [beginI, fillI, u2_v]
      show I2 1001 1 = I2 100 0 ∧ I2 1001 2 = I2 100 1 ∧ I2 1001 5 = I2 100 5 ∧ I2 1001 7 = I2 100 7 ∧ I2 1001 8 = I2 100 8 ∧ I2 1001 9 = I2 100 9 ∧ ((I2 1001 0).toInt = 1 ↔ 0 < (I2 100 0).toInt)
      rw [e 100 (by decide), b0, b1, b5, b7, b8, b9, t0, t1, t2, t5, t7, t8, t9]
      refine ⟨rfl, rfl, rfl, rfl, rfl, rfl, fun _ => ?_, fun _ => by decide⟩
      have := h1.1
      omega
    · show I2 1002 c = I2 101 c ∧ I2 1003 c = I2 102 c ∧ I2 1006 c = I2 103 c
      have g := g4 c hc
      rw [g.1, g.2.1, g.2.2, e 101 (by decide), e 102 (by decide), e 103 (by decide), h3]
      refine ⟨?_, ?_, ?_⟩ <;> simp [beginI, fillI, u2_v, hc]
    · show (I2 104 c).toInt = yo (live I2) c (I2 100 9).toNatClampNeg
      rw [e 104 (by decide), e 100 (by decide), show I1 100 9 = 0 from by rw [h3]; simp [beginI, fillI, u2_v], show I1 104 c = -1 from by rw [h3]; simp [beginI, fillI, u2_v, hc]]
      rfl
  · exact absurd h1 g1
  · exact absurd g1 h1
  · rw [g3, h3]
    exact h
-- images
theorem sv_F {k : Nat} {J I2 : MI} (s1 : ∀ t ∈ imL, ∀ j, j < t.2.2 → I2 1076 (2720 * k + t.2.1 + j) = J t.1 j) : FS (live J) (imag I2 k) := by
  have f : ∀ n m, (1000 + n, bs n, m) ∈ imL → ∀ j, j < m → imag I2 k n j = live J n j := fun n m hm j hj => s1 _ hm j hj
  refine ⟨⟨f 1 10 (by decide) 0 (by decide), f 1 10 (by decide) 1 (by decide), f 1 10 (by decide) 2 (by decide), f 1 10 (by decide) 5 (by decide), f 1 10 (by decide) 7 (by decide), f 1 10 (by decide) 8 (by decide), f 1 10 (by decide) 9 (by decide)⟩, fun c hc => ⟨f 2 576 (by decide) c hc, f 3 576 (by decide) c hc, f 6 576 (by decide) c hc⟩, fun j hj => ⟨f 17 8 (by decide) j hj, f 18 8 (by decide) j hj, f 19 8 (by decide) j hj, f 20 8 (by decide) j hj⟩⟩
theorem ld_F {k : Nat} {J I2 : MI} (l1 : ∀ t ∈ imL, ∀ j, j < t.2.2 → I2 t.1 j = J 1076 (2720 * k + t.2.1 + j)) : FS (imag J k) (live I2) := by
  have f : ∀ n m, (1000 + n, bs n, m) ∈ imL → ∀ j, j < m → live I2 n j = imag J k n j := fun n m hm j hj => l1 _ hm j hj
  refine ⟨⟨f 1 10 (by decide) 0 (by decide), f 1 10 (by decide) 1 (by decide), f 1 10 (by decide) 2 (by decide), f 1 10 (by decide) 5 (by decide), f 1 10 (by decide) 7 (by decide), f 1 10 (by decide) 8 (by decide), f 1 10 (by decide) 9 (by decide)⟩, fun c hc => ⟨f 2 576 (by decide) c hc, f 3 576 (by decide) c hc, f 6 576 (by decide) c hc⟩, fun j hj => ⟨f 17 8 (by decide) j hj, f 18 8 (by decide) j hj, f 19 8 (by decide) j hj, f 20 8 (by decide) j hj⟩⟩
theorem CPF.bs {b c : Nat} {I I1 I2 : MI} (h : CPF b c I I1) (e : ∀ i, i < 5 → I2 (b + i) = I1 (b + i)) : BS I I2 c b := by
  obtain ⟨h0, h1, h2, h3, h4, -⟩ := h
  have e0 := e 0 (by decide)
  simp only [Nat.add_zero] at e0
  refine ⟨⟨?_, ?_, ?_, ?_, ?_, ?_⟩, fun q hq => ⟨?_, ?_, ?_, ?_⟩⟩
  · rw [e0]; exact h0 0 (by decide)
  · rw [e0]; exact h0 1 (by decide)
  · rw [e0]; exact h0 5 (by decide)
  · rw [e0]; exact h0 7 (by decide)
  · rw [e0]; exact h0 8 (by decide)
  · rw [e0]; exact h0 9 (by decide)
  · rw [e 1 (by decide)]; exact h1 q hq
  · rw [e 2 (by decide)]; exact h2 q hq
  · rw [e 3 (by decide)]; exact h3 q hq
  · rw [e 4 (by decide)]; exact h4 q hq
theorem REL.image {I I1 I2 : MI} {G G1 : MG} {a r1 r2 : Int32} (h : REL I G) (hI : INV I) (y1 : IMGX G G1 I I1 r1 a) (ho : ∀ n, 1000 ≤ n → I1 n = I n) (y2 : (r2 = -1 ∧ I2 = I1 ∧ ¬ ((0 ≤ a.toInt ∧ a.toInt ≤ 3) ∧ (I1 1001 0).toInt = 1)) ∨ (((0 ≤ a.toInt ∧ a.toInt ≤ 3) ∧ (I1 1001 0).toInt = 1) ∧ r2 = I1 1001 6 ∧ SV (a).toNatClampNeg imL (u2 I1 1077 (a).toNatClampNeg 1) I2)) : REL I2 G1 := by
  have hb := beg_iff h
  rw [show I1 1001 0 = I 1001 0 from congrFun (ho 1001 (by decide)) 0] at y2
  rcases y1 with ⟨h1, -, k, hk, hgk, hcp, hfr, hgo⟩ | ⟨h1, -, h3, h4⟩ <;> rcases y2 with ⟨-, g2, g3⟩ | ⟨g1, -, g3⟩
  · exact absurd ⟨⟨h1.1, h1.2.1⟩, hb.mpr h1.2.2⟩ g3
  · have hk4 : k < 4 := by omega
    rw [cl_of hk] at g3
    obtain ⟨s1, s2, s3⟩ := g3
    have e1 : ∀ n, n ≠ 1076 → n ≠ 1000 → n ≠ 1077 → I2 n = I1 n := fun n p q w => (s3 n p q).trans (u2_ne _ _ _ w)
    have e77 : ∀ j, j ≠ k → I2 1077 j = I1 1077 j := fun j hj => by rw [s3 1077 (by decide) (by decide), u2_v, if_neg (by simp [hj])]
    have e77k : I2 1077 k = 1 := by rw [s3 1077 (by decide) (by decide), u2_self]
    have imo : ∀ k', k' ≠ k → ∀ j, j < 2720 → I2 1076 (2720 * k' + j) = I 1076 (2720 * k' + j) := fun k' hk' j hj => by
      rw [s2 _ (fun t ht => by have := imL_r t ht; omega), u2_ne _ _ _ (by decide), ho 1076 (by decide)]
    have ea : ∀ n, (100 ≤ n ∧ n ≤ 104) ∨ (1001 ≤ n ∧ n ≤ 1020) → I2 n = I n := fun n hn => by
      rw [e1 n (by omega) (by omega) (by omega)]
      by_cases hq : n < 1000
      · exact hfr n (by omega)
      · exact ho n (by omega)
    refine ⟨⟨h.1.1.keep (fun j _ => by rw [ea 100 (by decide)]) (fun j _ => by rw [ea 1001 (by decide)]), h.1.2.1.keep (fun n hn => ea n (by omega)), h.1.2.2.keep (ea 104 (by decide)) (by rw [ea 100 (by decide)]) (fun n p q => ea n (by omega)) (by rw [ea 100 (by decide)])⟩, fun k' hk' => ?_⟩
    by_cases hq : k' = k
    · subst hq
      refine Or.inr ⟨hgk, by rw [e77k]; decide, ?_⟩
      have hF : FS (live I) (imag I2 k') := sv_F (J := I) (fun t ht j hj => by
        rw [s1 t ht j hj, u2_ne _ _ _ (imL_r t ht).2.2.1, ho _ (by have := imL_r t ht; omega)])
      exact h.1.to (hcp.bs (fun i hi => e1 _ (by omega) (by omega) (by omega))) hF (c9 hI rfl)
    · refine (h.2 k' hk').to hk' hI (hgo k' hq) (fun i hi => ?_) (imo k' hq) ?_
      · rw [e1 _ (by omega) (by omega) (by omega), hfr _ (by omega)]
      · rw [e77 k' hq, ho 1077 (by decide)]
  · rw [g2, h3, h4]
    exact h
  · exact absurd ⟨g1.1.1, g1.1.2, hb.mp g1.2⟩ h1
theorem REL.back {I I1 I2 : MI} {G : MG} {a r1 r2 : Int32} (h : REL I G) (hI : INV I) (y1 : BCKX G I I1 r1 a) (ho : ∀ n, 1000 ≤ n → I1 n = I n) (hl : ∀ n, 120 ≤ n → n < 160 → I1 n = I n) (y2 : (r2 = -1 ∧ I2 = I1 ∧ ¬ ((0 ≤ a.toInt ∧ a.toInt ≤ 3) ∧ (I1 1077 (a).toNatClampNeg).toInt ≠ 0)) ∨ (((0 ≤ a.toInt ∧ a.toInt ≤ 3) ∧ (I1 1077 (a).toNatClampNeg).toInt ≠ 0) ∧ r2 = I2 1001 6 ∧ LD (a).toNatClampNeg imL I1 I2)) (hc : ∀ n, n < 1000 → I2 n = I1 n) : REL I2 G := by
  rw [ho 1077 (by decide)] at y2
  rcases y1 with ⟨k, hk4, hk, hgk, -, hcp⟩ | ⟨h1, -, h3⟩ <;> rcases y2 with ⟨-, g2, g3⟩ | ⟨g1, -, g3⟩
  · rw [cl_of hk] at g3
    rcases h.2 k hk4 with ⟨q1, -⟩ | ⟨-, q2, -⟩
    · omega
    · exact absurd ⟨by omega, q2⟩ g3
  · rw [cl_of hk] at g1 g3
    obtain ⟨l1, l2⟩ := g3
    rcases h.2 k hk4 with ⟨q1, -⟩ | ⟨-, -, q3⟩
    · omega
    · refine h.alive hI ?_ (fun n hn => ?_)
      · have hF : FS (imag I k) (live I2) := ld_F (J := I) (fun t ht j hj => by rw [l1 t ht j hj, ho 1076 (by decide)])
        exact q3.to (hcp.bs (fun i hi => hc _ (by omega))) hF (c9 hI (rg_im hk4))
      · rcases hn with hn | hn | hn
        · rw [hc n (by omega), hl n hn.1 hn.2]
        · rw [hn, l2 1076 (by decide) (fun t ht => (imL_r t ht).2.1), ho 1076 (by decide)]
        · rw [hn, l2 1077 (by decide) (fun t ht => (imL_r t ht).2.2.1), ho 1077 (by decide)]
  · rw [g2, h3]
    exact h
  · exfalso
    have hz := h1 a.toNatClampNeg (by have := tn (i := a) (by omega); omega) (by have := tn (i := a) (by omega); omega)
    rcases h.2 a.toNatClampNeg (by have := tn (i := a) (by omega); omega) with ⟨-, q1⟩ | ⟨q1, -, -⟩
    · omega
    · omega
theorem rel0 : REL iA0 gA0 := by
  have hz : ∀ n k, ¬ (n = 1000) → iA0 n k = 0 := fun n k h => by simp only [iA0, u2_v]; simp [h, zI]
  have h1 : ∀ k, iA0 1001 k = 0 := fun k => hz 1001 k (by decide)
  have h2 : ∀ k, iA0 100 k = 0 := fun k => hz 100 k (by decide)
  refine ⟨⟨?_, fun c _ => ?_, fun hp => ?_⟩, fun k hk => Or.inl ⟨by simp [gA0, gC0, u2_v, zG], by rw [hz _ _ (by decide)]; rfl⟩⟩
  · show iA0 1001 1 = iA0 100 0 ∧ iA0 1001 2 = iA0 100 1 ∧ iA0 1001 5 = iA0 100 5 ∧ iA0 1001 7 = iA0 100 7 ∧ iA0 1001 8 = iA0 100 8 ∧ iA0 1001 9 = iA0 100 9 ∧ ((iA0 1001 0).toInt = 1 ↔ 0 < (iA0 100 0).toInt)
    simp only [h1, h2]
    decide
  · show iA0 1002 c = iA0 101 c ∧ iA0 1003 c = iA0 102 c ∧ iA0 1006 c = iA0 103 c
    rw [hz 1002 c (by decide), hz 101 c (by decide), hz 1003 c (by decide), hz 102 c (by decide), hz 1006 c (by decide), hz 103 c (by decide)]
    exact ⟨rfl, rfl, rfl⟩
  · rw [h2] at hp
    exact absurd hp (by decide)
