-- what calls that change a town do to the pair
theorem st_r {V : VW} {m k j : Nat} {x : Int32} (P : Int32 → Prop) (hx : P x) (hq : P (V m j)) : P (stV V m k x m j) := by
  by_cases e : j = k
  · rw [e, stV_at]; exact hx
  · rw [stV_ne (fun z => e z.2)]; exact hq
theorem RKv.r24 {V : VW} {m k : Nat} {x : Int32} (h : RKv V) (hm : (m = 9 ∧ 0 ≤ x.toInt ∧ x.toInt ≤ 7) ∨ (m = 14 ∧ 0 ≤ x.toInt ∧ x.toInt ≤ 1000) ∨ (m = 15 ∧ 0 ≤ x.toInt ∧ x.toInt ≤ 1) ∨ m = 16) : RKv (stV V m k x) := by
  obtain ⟨h1, h2, h3, h4, h5⟩ := h
  rcases hm with ⟨rfl, hx⟩ | ⟨rfl, hx⟩ | ⟨rfl, hx⟩ | rfl
  · exact ⟨h1, h2, h3, fun j hj => ⟨st_r (fun z => 0 ≤ z.toInt ∧ z.toInt ≤ 7) hx (h4 j hj).1, (h4 j hj).2⟩, h5⟩
  · exact ⟨h1, h2, h3, fun j hj => ⟨(h4 j hj).1, (h4 j hj).2.1, (h4 j hj).2.2.1, (h4 j hj).2.2.2.1, st_r (fun z => 0 ≤ z.toInt ∧ z.toInt ≤ 1000) hx (h4 j hj).2.2.2.2.1, (h4 j hj).2.2.2.2.2⟩, h5⟩
  · exact ⟨h1, h2, h3, fun j hj => ⟨(h4 j hj).1, (h4 j hj).2.1, (h4 j hj).2.2.1, (h4 j hj).2.2.2.1, (h4 j hj).2.2.2.2.1, st_r (fun z => 0 ≤ z.toInt ∧ z.toInt ≤ 1) hx (h4 j hj).2.2.2.2.2⟩, h5⟩
  · exact ⟨h1, h2, h3, h4, h5⟩
theorem RKv.s45 {V : VW} {c : Nat} {x y : Int32} (h : RKv V) (hx : -1 ≤ x.toInt ∧ x.toInt ≤ 7) (hy : 0 ≤ y.toInt ∧ y.toInt ≤ 99999) : RKv (stV (stV V 4 c x) 5 c y) := by
  obtain ⟨h1, h2, h3, h4⟩ := h
  refine ⟨h1, h2, fun j hj => ⟨?_, ?_⟩, h4⟩
  · rw [stV_ne (by omega)]
    exact st_r (fun z => -1 ≤ z.toInt ∧ z.toInt ≤ 7) hx (h3 j hj).1
  · refine st_r (fun z => 0 ≤ z.toInt ∧ z.toInt ≤ 99999) hy ?_
    rw [stV_ne (by omega)]
    exact (h3 j hj).2
-- sun
theorem TWK.sun {I I1 I2 : MI} {ok1 ok2 : Prop} {r1 r2 x y : Int32} {c : Nat} (h : TWK I 100 (live I)) (y1 : SNT ok1 r1 I I1 (stV (stV (cF 100 I) 4 c x) 5 c y) (cF 100 I1)) (y2 : SNT ok2 r2 I1 I2 (stV (stV (live I1) 4 c x) 5 c y) (live I2)) (e : ok1 ↔ ok2) (hr : ok1 → (-1 ≤ x.toInt ∧ x.toInt ≤ 7) ∧ (0 ≤ y.toInt ∧ y.toInt ≤ 99999) ∧ 0 < (I 100 0).toInt) (h4 : I1 104 = I 104) (c1 : ∀ n, 1000 ≤ n → I1 n = I n) (c2 : ∀ n, n < 1000 → I2 n = I1 n) : r1 = r2 ∧ TWK I2 100 (live I2) := by
  rw [live_out c1] at y2
  rcases y1 with ⟨h1, h2, h3⟩ | ⟨h1, h2, h3⟩ <;> rcases y2 with ⟨g1, g2, g3⟩ | ⟨g1, g2, g3⟩
  · have q := hr h1
    exact ⟨h2.trans g2.symm, TWK.new h3 g3 (stV_eq (stV_eq h.1 _ _ _) _ _ _) (h.2.2.1.s45 q.1 q.2.1) (BZ.of (show (cF 100 I 1 0).toInt = 1 from sc0_iff.mpr q.2.2)) (h.yd h3 h4 rfl rfl (fun _ _ => ⟨rfl, rfl, rfl, rfl⟩)) c2⟩
  · exact absurd (e.mp h1) g1
  · exact absurd (e.mpr g1) h1
  · refine ⟨h2.trans g2.symm, ?_⟩
    rw [show I2 = I from g3.trans h3]
    exact h
-- sets
theorem srow_ok {a n : Int32} (h : okE a n) : (srow a = 9 ∧ 0 ≤ n.toInt ∧ n.toInt ≤ 7) ∨ (srow a = 14 ∧ 0 ≤ n.toInt ∧ n.toInt ≤ 1000) ∨ (srow a = 15 ∧ 0 ≤ n.toInt ∧ n.toInt ≤ 1) ∨ srow a = 16 := by
  unfold okE at h
  unfold srow
  rcases h with ⟨h0, h⟩ | ⟨h0, h⟩ | ⟨h0, h⟩ | ⟨h0, h⟩
  · rw [if_pos h0]; exact Or.inl ⟨rfl, h⟩
  · rw [if_neg (by omega), if_pos h0]; exact Or.inr (Or.inl ⟨rfl, h⟩)
  · rw [if_neg (by omega), if_neg (by omega), if_pos h0]; exact Or.inr (Or.inr (Or.inl ⟨rfl, h⟩))
  · rw [if_neg (by omega), if_neg (by omega), if_neg (by omega)]; exact Or.inr (Or.inr (Or.inr rfl))
theorem TWK.sets {I I1 I2 : MI} {ok1 ok2 : Prop} {r1 r2 a n : Int32} {k : Nat} (h : TWK I 100 (live I)) (y1 : SET (ok1 ∧ okE a n) r1 (cF 100 I (srow a) k) I I1 (stV (cF 100 I) (srow a) k n) (cF 100 I1)) (y2 : SET (ok2 ∧ okE a n) r2 (live I1 (srow a) k) I1 I2 (stV (live I1) (srow a) k n) (live I2)) (e : ok1 ↔ ok2) (hr : ok1 → k < 24) (h4 : I1 104 = I 104) (c1 : ∀ n, 1000 ≤ n → I1 n = I n) (c2 : ∀ n, n < 1000 → I2 n = I1 n) : r1 = r2 ∧ TWK I2 100 (live I2) := by
  rw [live_out c1] at y2
  rcases y1 with ⟨h1, h2, h3⟩ | ⟨h1, h2, h3⟩ <;> rcases y2 with ⟨g1, g2, g3⟩ | ⟨g1, g2, g3⟩
  · have q := srow_ok h1.2
    generalize srow a = m at q h2 h3 g2 g3
    have hm : m = 9 ∨ m = 14 ∨ m = 15 ∨ m = 16 := by omega
    have hw : k < wdt m := by
      have := hr h1.1
      rcases hm with rfl | rfl | rfl | rfl <;> exact this
    refine ⟨h2.trans ((h.1 m k (by omega) (by omega) hw).symm.trans g2.symm), TWK.new h3 g3 (stV_eq h.1 _ _ _) (h.2.2.1.r24 q) ?_ ?_ c2⟩
    · rcases hm with rfl | rfl | rfl | rfl <;> exact h.2.2.2
    · rcases hm with rfl | rfl | rfl | rfl <;> exact h.yd h3 h4 rfl rfl (fun _ _ => ⟨rfl, rfl, rfl, rfl⟩)
  · exact absurd ⟨e.mp h1.1, h1.2⟩ g1
  · exact absurd ⟨e.mpr g1.1, g1.2⟩ h1
  · refine ⟨h2.trans g2.symm, ?_⟩
    rw [show I2 = I from g3.trans h3]
    exact h
-- eyes
theorem TWK.eyes {I I1 I2 : MI} {ok1 ok2 : Prop} {r1 r2 v : Int32} {c : Nat} (h : TWK I 100 (live I)) (y1 : SETA ok1 r1 I I1 102 c v) (y2 : SETA ok2 r2 I1 I2 1003 c v) (e : ok1 ↔ ok2) (hr : ok1 → c < 576) (c1 : ∀ n, 1000 ≤ n → I1 n = I n) (c2 : ∀ n, n < 1000 → I2 n = I1 n) : r1 = r2 ∧ TWK I2 100 (live I2) := by
  rcases y1 with ⟨h1, h2, h3⟩ | ⟨h1, h2, h3⟩ <;> rcases y2 with ⟨g1, g2, g3⟩ | ⟨g1, g2, g3⟩
  · have hc := hr h1
    have e1 : EqV (stV (cF 100 I) 3 c v) (cF 100 I1) := by rw [h3]; exact cF_at (b := 100) (n := 3) (by decide) hc
    have e2 : EqV (stV (live I1) 3 c v) (live I2) := by rw [g3]; exact EqV.rf.of (live_put (n := 3))
    rw [live_out c1] at e2
    have ev : I 1003 c = I 102 c := (h.1 3 c (by decide) (by decide) hc).trans cf3
    refine ⟨by rw [h2, g2, c1 1003 (by decide)]; exact ev.symm, TWK.new e1 e2 (stV_eq h.1 _ _ _) h.2.2.1 h.2.2.2 (h.yd e1 (by rw [h3]; exact u2_ne _ _ _ (by decide)) rfl rfl (fun _ _ => ⟨rfl, rfl, rfl, rfl⟩)) c2⟩
  · exact absurd (e.mp h1) g1
  · exact absurd (e.mpr g1) h1
  · refine ⟨h2.trans g2.symm, ?_⟩
    rw [show I2 = I from g3.trans h3]
    exact h
-- month, falls
theorem kp_one {p : Nat × Nat} {I I2 : MI} (h : Kp [] [p] I I2) : ∀ n k, (n, k) ≠ p → I2 n k = I n k := fun n k hq => h n k rfl (by simp [hq])
theorem u2_of {I J : MI} {n k : Nat} {v : Int32} (h : ∀ m j, (m, j) ≠ (n, k) → J m j = I m j) (hv : J n k = v) : J = u2 I n k v := by
  funext m j
  rw [u2_v]
  by_cases e : m = n ∧ j = k
  · rw [if_pos e, e.1, e.2]; exact hv
  · rw [if_neg e]; exact h m j (fun z => e ⟨congrArg Prod.fst z, congrArg Prod.snd z⟩)
theorem RKv.m57 {V : VW} {k : Nat} {v : Int32} (h : RKv V) (hk : (k = 5 ∧ 0 ≤ v.toInt ∧ v.toInt ≤ 11) ∨ (k = 7 ∧ 0 ≤ v.toInt ∧ v.toInt ≤ 99)) : RKv (stV V 1 k v) := by
  obtain ⟨⟨h1, h2, h3, h4, h5, h6⟩, h7⟩ := h
  rcases hk with ⟨rfl, hv⟩ | ⟨rfl, hv⟩
  · exact ⟨⟨h1, h2, hv, h4, h5, h6⟩, h7⟩
  · exact ⟨⟨h1, h2, h3, h4, hv, h6⟩, h7⟩
theorem TWK.ask {I I1 I2 : MI} {ok1 ok2 : Prop} {r1 r2 a : Int32} {k : Nat} (h : TWK I 100 (live I)) (y1 : ASK ok1 r1 (I 100 k) (I1 100 k) a) (y2 : ASK ok2 r2 (I1 1001 k) (I2 1001 k) a) (e : ok1 ↔ ok2) (hr : ok1 → (k = 5 ∧ 0 ≤ a.toInt ∧ a.toInt ≤ 11) ∨ (k = 7 ∧ 0 ≤ a.toInt ∧ a.toInt ≤ 99)) (hk : k = 5 ∨ k = 7) (f1 : ∀ n j, (n, j) ≠ (100, k) → I1 n j = I n j) (f2 : ∀ n j, (n, j) ≠ (1001, k) → I2 n j = I1 n j) : r1 = r2 ∧ TWK I2 100 (live I2) := by
  have w1 := u2_of f1 rfl
  have w2 := u2_of f2 rfl
  have hl : live I1 = live I := by
    funext m j
    show I1 (1000 + m) j = I (1000 + m) j
    rw [w1, u2_ne _ _ _ (by omega)]
  have c2 : ∀ n, n < 1000 → I2 n = I1 n := fun n hn => by rw [w2]; exact u2_ne _ _ _ (by omega)
  have ev : I1 1001 k = I 100 k := by
    rw [w1, u2_ne _ _ _ (by decide)]
    rcases hk with rfl | rfl
    · exact h.1 1 5 (by decide) (by decide) (by decide)
    · exact h.1 1 7 (by decide) (by decide) (by decide)
  have same : I1 100 k = I 100 k → I2 1001 k = I1 1001 k → TWK I2 100 (live I2) := fun a1 a2 => by
    rw [show I2 = I from by
      funext m j
      by_cases q2 : (m, j) = (1001, k)
      · obtain ⟨z1, z2⟩ := Prod.mk.inj q2
        rw [z1, z2, a2]
        exact f1 1001 k (by simp)
      · rw [f2 m j q2]
        by_cases q1 : (m, j) = (100, k)
        · obtain ⟨z1, z2⟩ := Prod.mk.inj q1
          rw [z1, z2]
          exact a1
        · exact f1 m j q1]
    exact h
  rcases y1 with ⟨h1, h2, h3⟩ | ⟨h1, h2, h3⟩ <;> rcases y2 with ⟨g1, g2, g3⟩ | ⟨g1, g2, g3⟩
  · have q := hr h1
    rw [h3] at w1
    rw [g3] at w2
    have e1 : EqV (stV (cF 100 I) 1 k a) (cF 100 I1) := by rw [w1]; exact cF_sc (by omega)
    have e2 : EqV (stV (live I) 1 k a) (live I2) := by rw [w2, ← hl]; exact EqV.rf.of (live_put (n := 1))
    have h4 : I1 104 = I 104 := by rw [w1]; exact u2_ne _ _ _ (by decide)
    refine ⟨by rw [h2, g2, ev], TWK.new e1 e2 (stV_eq h.1 _ _ _) (h.2.2.1.m57 q) ?_ ?_ c2⟩
    · rcases hk with rfl | rfl <;> exact h.2.2.2
    · rcases hk with rfl | rfl <;> exact h.yd e1 h4 rfl rfl (fun _ _ => ⟨rfl, rfl, rfl, rfl⟩)
  · exact absurd (e.mp h1) g1
  · exact absurd (e.mpr g1) h1
  · exact ⟨h2.trans g2.symm, same h3 g3⟩
-- a new town
theorem YLY.beg {I : MI} {a b x y z : Int32} : YLY 100 (beginI I 100 a b x y z) := fun c hc => by
  rw [show beginI I 100 a b x y z 100 9 = 0 from by simp [beginI, fillI, u2_v], show beginI I 100 a b x y z (100 + 4) c = -1 from by simp [beginI, fillI, u2_v, hc]]
  rfl
theorem cF_beg {I : MI} {a b x y z : Int32} (ha : 0 < a.toInt) : EqV (twnV (cF 100 I) a b x y z) (cF 100 (beginI I 100 a b x y z)) := fun n k h1 h2 hk => by
  by_cases e1 : n = 1
  · subst e1
    have hk : k < 10 := hk
    rcases (show k = 0 ∨ k = 1 ∨ k = 2 ∨ k = 3 ∨ k = 4 ∨ k = 5 ∨ k = 6 ∨ k = 7 ∨ k = 8 ∨ k = 9 by omega) with rfl | rfl | rfl | rfl | rfl | rfl | rfl | rfl | rfl | rfl <;> simp [cF, sC, twnV, beginI, fillI, u2_v, ha]
  · by_cases e2 : n ≤ 6
    · rcases (show n = 2 ∨ n = 3 ∨ n = 4 ∨ n = 5 ∨ n = 6 by omega) with rfl | rfl | rfl | rfl | rfl
      · have hk : k < 576 := hk
        simp [cF, nc, ofs, twnV, beginI, fillI, u2_v, hk]
      · have hk : k < 576 := hk
        simp [cF, nc, ofs, twnV, beginI, fillI, u2_v, hk]
      · have hk : k < 288 := hk
        simp [cF, nc, ofs, twnV, beginI, fillI, u2_v, hk]
      · have hk : k < 288 := hk
        simp [cF, nc, ofs, twnV, beginI, fillI, u2_v, hk]
      · have hk : k < 576 := hk
        simp [cF, nc, ofs, twnV, beginI, fillI, u2_v, hk]
    · have q : nc n = 7 ∨ nc n = 8 := by unfold nc; (repeat' split) <;> omega
      have ht : twnV (cF 100 I) a b x y z n k = cF 100 I n k := by
        unfold twnV
        rw [if_neg e1, if_neg (by omega), if_neg (by omega)]
      rw [ht]
      unfold cF
      rw [if_neg e1, if_neg e1]
      rcases q with q | q <;> rw [q] <;> simp [beginI, fillI, u2_v]
theorem RKv.twn {V : VW} {a b x y z : Int32} (h : RKv V) (ok : okT a b x y z) : RKv (twnV V a b x y z) := by
  obtain ⟨h1, h2, h3, h4, h5⟩ := h
  have z0 : (0 : Int32).toInt = 0 := rfl
  have z1 : (-1 : Int32).toInt = -1 := rfl
  unfold okT at ok
  have g : (24 * y + x).toInt = 24 * y.toInt + x.toInt := by
    have t : (24 * y).toInt = 24 * y.toInt := a_mulL (c := 24) rfl (by decide) (by omega) (by omega)
    exact (a_add rfl (by omega) (by omega)).trans (by rw [t])
  have d : ∀ m : Int, 0 ≤ m → 0 ≤ (0 : Int32).toInt ∧ (0 : Int32).toInt ≤ m := fun m hm => by rw [z0]; omega
  have d1 : -1 ≤ (-1 : Int32).toInt ∧ (-1 : Int32).toInt ≤ 7 := by rw [z1]; omega
  refine ⟨⟨?_, ?_, d 11 (by omega), d 9999 (by omega), d 99 (by omega), d 24 (by omega), d 8 (by omega)⟩, fun c hc => Or.inl z0, fun j hj => ⟨d1, d 99999 (by omega)⟩, h4, h5⟩
  · show 0 ≤ z.toInt ∧ z.toInt ≤ 1000
    omega
  · show 0 ≤ (24 * y + x).toInt ∧ (24 * y + x).toInt < 576
    omega
theorem TWK.town {I I1 I2 : MI} {r1 r2 a b x y z : Int32} (h : TWK I 100 (live I)) (y1 : (okT a b x y z ∧ r1 = 1 ∧ I1 = beginI I 100 a b x y z) ∨ (¬ okT a b x y z ∧ r1 = 0 ∧ I1 = I)) (y2 : SNT (okT a b x y z) r2 I1 I2 (twnV (live I1) a b x y z) (live I2)) (c1 : ∀ n, 1000 ≤ n → I1 n = I n) (c2 : ∀ n, n < 1000 → I2 n = I1 n) : r1 = r2 ∧ TWK I2 100 (live I2) := by
  rw [live_out c1] at y2
  rcases y1 with ⟨h1, h2, h3⟩ | ⟨h1, h2, h3⟩ <;> rcases y2 with ⟨g1, g2, g3⟩ | ⟨g1, g2, g3⟩
  · have ha : 0 < a.toInt := by unfold okT at h1; omega
    refine ⟨h2.trans g2.symm, TWK.new (by rw [h3]; exact cF_beg ha) g3 (twnV_eq h.1) (h.2.2.1.twn h1) (BZ.of (show (1 : Int32).toInt = 1 from rfl)) (fun _ => by rw [h3]; exact YLY.beg) c2⟩
  · exact absurd h1 g1
  · exact absurd g1 h1
  · refine ⟨h2.trans g2.symm, ?_⟩
    rw [show I2 = I from g3.trans h3]
    exact h
-- a new mirror
theorem RKv.mir {V : VW} {c : Nat} {x y s l t r o : Int32} (h : RKv V) (h8 : (V 1 8).toInt < 24) (hs : 0 ≤ s.toInt ∧ s.toInt ≤ 7) (hl : 0 ≤ l.toInt ∧ l.toInt ≤ 1000) (ht : 0 ≤ t.toInt ∧ t.toInt ≤ 1000) (hr : 0 ≤ r.toInt ∧ r.toInt ≤ 4) : RKv (mirV V c x y s l t r o) := by
  obtain ⟨⟨h1, h2, h3, h4, h5, h6, h7⟩, g2, g3, g4, g5⟩ := h
  have e8 : (V 1 8 + 1).toInt = (V 1 8).toInt + 1 := (a_add rfl (by rw [show (1 : Int32).toInt = 1 from rfl]; omega) (by rw [show (1 : Int32).toInt = 1 from rfl]; omega)).trans (by rw [show (1 : Int32).toInt = 1 from rfl])
  have z0 : (0 : Int32).toInt = 0 := rfl
  refine ⟨⟨h1, h2, h3, h4, h5, ?_, h7⟩, g2, g3, fun j hj => ?_, g5⟩
  · show 0 ≤ (V 1 8 + 1).toInt ∧ (V 1 8 + 1).toInt ≤ 24
    omega
  · have q := g4 j hj
    by_cases e : j = (V 1 8).toNatClampNeg
    · have n9 : mirV V c x y s l t r o 9 j = s := by unfold mirV; rw [if_neg (by omega), if_neg (by omega)]; exact if_pos ⟨by decide, by decide, e⟩
      have n10 : mirV V c x y s l t r o 10 j = l := by unfold mirV; rw [if_neg (by omega), if_neg (by omega)]; exact if_pos ⟨by decide, by decide, e⟩
      have n11 : mirV V c x y s l t r o 11 j = t := by unfold mirV; rw [if_neg (by omega), if_neg (by omega)]; exact if_pos ⟨by decide, by decide, e⟩
      have n12 : mirV V c x y s l t r o 12 j = r := by unfold mirV; rw [if_neg (by omega), if_neg (by omega)]; exact if_pos ⟨by decide, by decide, e⟩
      have n14 : mirV V c x y s l t r o 14 j = 0 := by unfold mirV; rw [if_neg (by omega), if_neg (by omega)]; exact if_pos ⟨by decide, by decide, e⟩
      have n15 : mirV V c x y s l t r o 15 j = 0 := by unfold mirV; rw [if_neg (by omega), if_neg (by omega)]; exact if_pos ⟨by decide, by decide, e⟩
      rw [n9, n10, n11, n12, n14, n15, z0]
      exact ⟨hs, hl, ht, hr, by omega, by omega⟩
    · have n : ∀ m, 7 ≤ m → mirV V c x y s l t r o m j = V m j := fun m hm => by
        unfold mirV
        rw [if_neg (by omega), if_neg (by omega), if_neg (fun z => e z.2.2)]
      rw [n 9 (by decide), n 10 (by decide), n 11 (by decide), n 12 (by decide), n 14 (by decide), n 15 (by decide)]
      exact q
theorem TWK.mirror {I I1 I2 : MI} {ok1 ok2 : Prop} {r1 r2 x y s l t r o : Int32} {c : Nat} (h : TWK I 100 (live I)) (y1 : ADT ok1 r1 (I 100 8) I I1 (mirV (cF 100 I) c x y s l t r o) (cF 100 I1)) (y2 : ADT ok2 r2 (I1 1001 8) I1 I2 (mirV (live I1) c x y s l t r o) (live I2)) (e : ok1 ↔ ok2) (hr : ok1 → 0 < (I 100 0).toInt ∧ (I 100 8).toInt < 24 ∧ (0 ≤ s.toInt ∧ s.toInt ≤ 7) ∧ (0 ≤ l.toInt ∧ l.toInt ≤ 1000) ∧ (0 ≤ t.toInt ∧ t.toInt ≤ 1000) ∧ 0 ≤ r.toInt ∧ r.toInt ≤ 4) (h4 : I1 104 = I 104) (c1 : ∀ n, 1000 ≤ n → I1 n = I n) (c2 : ∀ n, n < 1000 → I2 n = I1 n) : r1 = r2 ∧ TWK I2 100 (live I2) := by
  rw [live_out c1, c1 1001 (by decide)] at y2
  have e8 : I 1001 8 = I 100 8 := h.1 1 8 (by decide) (by decide) (by decide)
  rcases y1 with ⟨h1, h2, h3⟩ | ⟨h1, h2, h3⟩ <;> rcases y2 with ⟨g1, g2, g3⟩ | ⟨g1, g2, g3⟩
  · obtain ⟨q0, q8, qs, ql, qt, qr⟩ := hr h1
    exact ⟨by rw [h2, g2, e8], TWK.new h3 g3 (mirV_eq h.1) (h.2.2.1.mir q8 qs ql qt qr) (BZ.of (show (cF 100 I 1 0).toInt = 1 from sc0_iff.mpr q0)) (h.yd h3 h4 rfl rfl (fun _ _ => ⟨rfl, rfl, rfl, rfl⟩)) c2⟩
  · exact absurd (e.mp h1) g1
  · exact absurd (e.mpr g1) h1
  · refine ⟨h2.trans g2.symm, ?_⟩
    rw [show I2 = I from g3.trans h3]
    exact h
