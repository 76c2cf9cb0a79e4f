-- images, the text, laws: what calls do to the pair
theorem imL_w : ∀ t ∈ imL, t.2.1 + t.2.2 ≤ 2720 := by decide
theorem imL_n : ∀ t ∈ imL, 1001 ≤ t.1 ∧ t.1 ≤ 1023 := by decide
theorem cF_lo {I1 I2 : MI} {b : Nat} (c2 : ∀ n, n < 1000 → I2 n = I1 n) (hb : b + 9 ≤ 1000) : cF b I2 = cF b I1 := cF_kp (fun n _ a => c2 n (by omega))
theorem cl_to {a : Int32} {k : Nat} (h : a.toInt = k) : a.toNatClampNeg = k := by
  have := tn (i := a) (by omega)
  omega
theorem REL.image {I I1 I2 : MI} {G G1 : MG} {a r1 r2 : Int32} (h : REL I G) (y1 : IMGX G G1 I I1 r1 a) (ho : ∀ n, 1000 ≤ n → I1 n = I n) (y2 : (r2 = -1 ∧ I2 = I1 ∧ ¬ ((0 ≤ a.toInt ∧ a.toInt ≤ 3) ∧ (I1 1001 0).toInt = 1)) ∨ (((0 ≤ a.toInt ∧ a.toInt ≤ 3) ∧ (I1 1001 0).toInt = 1) ∧ r2 = I1 1001 6 ∧ SV (a).toNatClampNeg imL (u2 I1 1077 (a).toNatClampNeg 1) I2)) (hc : ∀ n, n < 1000 → I2 n = I1 n) (h5 : I2 1000 59 = I1 1000 59) (h24 : I2 1000 24 = I1 1000 24) (h28 : I2 1000 28 = I1 1000 28) : r1 = r2 ∧ REL I2 G1 := by
  obtain ⟨hT, ⟨f8, f5⟩, hL, hP, hM⟩ := h
  rw [ho 1001 (by decide)] at y2
  have e6 : I 1001 6 = I 100 6 := hT.1 1 6 (by decide) (by decide) (by decide)
  rcases y1 with ⟨h1, hr1, k, hk, hgk, hcp, hfr, hgo⟩ | ⟨h1, hr1, h3, h4⟩ <;> rcases y2 with ⟨hr2, g2, g3⟩ | ⟨g1, hr2, g3⟩
  · exact absurd ⟨⟨h1.1, h1.2.1⟩, hT.beg.mpr h1.2.2⟩ g3
  · have hk4 : k < 4 := by omega
    rw [cl_to hk] at g3
    obtain ⟨s1, s2, s3⟩ := g3
    have e1 : ∀ n, 1000 < n → n ≠ 1076 → n ≠ 1077 → I2 n = I n := fun n p q w => ((s3 n q (by omega)).trans (u2_ne _ _ _ w)).trans (ho n (by omega))
    have e0 : ∀ n, n < 1000 → ¬ (120 + 10 * k ≤ n ∧ n < 129 + 10 * k) → I2 n = I n := fun n p q => (hc n p).trans (hfr n q)
    refine ⟨by rw [hr1, hr2, e6], (hT.fr (fun n a b => e0 n (by omega) (by omega))).to EqV.rf (fun n j a b _ => congrFun (e1 (1000 + n) (by omega) (by omega) (by omega)) j) (fun g => g), ⟨by rw [e0 10 (by decide) (by omega)]; exact f8, by rw [h5, ho 1000 (by decide)]; exact f5⟩, hL.ext (by rw [e0 0 (by decide) (by omega)]) (by rw [h28, ho 1000 (by decide)]) (fun n a b => e0 n (by omega) (by omega)) (fun n a b => e1 n (by omega) (by omega) (by omega)), hP.ext (by rw [e0 0 (by decide) (by omega)]) (by rw [h24, ho 1000 (by decide)]) (e0 3 (by decide) (by omega)) (e1 1034 (by decide) (by decide) (by decide)), fun k' hk' => ?_⟩
    by_cases hq : k' = k
    · subst hq
      refine Or.inr ⟨hgk, ?_, hT.to ?_ ?_ (fun g _ => ((hcp.yly (g h1.2.2) hT.n9)).fr (fun n a b => hc n (by omega)))⟩
      · rw [s3 1077 (by decide) (by decide), u2_self]
        decide
      · rw [cF_lo hc (by omega)]
        exact hcp.eqv
      · have e3 : EqV (live I) (live (u2 I1 1077 k' 1)) := fun n j a b _ => by
          show u2 I1 1077 k' 1 (1000 + n) j = I (1000 + n) j
          rw [u2_ne _ _ _ (by omega), ho (1000 + n) (by omega)]
        exact e3.tr (sv_V s1)
    · refine (hM k' hk').ext (hgo k' hq) (fun n a b => e0 n (by omega) (by omega)) (fun j hj => ?_) ?_
      · rw [s2 _ (fun t ht => by have := imL_w t ht; omega), u2_ne _ _ _ (by decide), ho 1076 (by decide)]
      · rw [s3 1077 (by decide) (by decide), u2_v, if_neg (fun z => hq z.2), ho 1077 (by decide)]
  · rw [g2, h3, h4]
    exact ⟨hr1.trans hr2.symm, hT, ⟨f8, f5⟩, hL, hP, hM⟩
  · exact absurd ⟨g1.1.1, g1.1.2, hT.beg.mp g1.2⟩ h1
theorem REL.back {I I1 I2 : MI} {G : MG} {a r1 r2 : Int32} (h : REL I G) (y1 : BCKX G I I1 r1 a) (ho : ∀ n, 1000 ≤ n → I1 n = I n) (hl : ∀ n, ¬ (100 ≤ n ∧ n < 110) → I1 n = I n) (y2 : (r2 = -1 ∧ I2 = I1 ∧ ¬ ((0 ≤ a.toInt ∧ a.toInt ≤ 3) ∧ (I1 1077 (a).toNatClampNeg).toInt ≠ 0)) ∨ (((0 ≤ a.toInt ∧ a.toInt ≤ 3) ∧ (I1 1077 (a).toNatClampNeg).toInt ≠ 0) ∧ r2 = I2 1001 6 ∧ LD (a).toNatClampNeg imL I1 I2)) (hc : ∀ n, n < 1000 → I2 n = I1 n) (h5 : I2 1000 59 = I1 1000 59) (h24 : I2 1000 24 = I1 1000 24) (h28 : I2 1000 28 = I1 1000 28) : r1 = r2 ∧ REL I2 G := by
  obtain ⟨hT, ⟨f8, f5⟩, hL, hP, hM⟩ := h
  rw [ho 1077 (by decide)] at y2
  rcases y1 with ⟨k, hk4, hk, hgk, hr1, hcp⟩ | ⟨h1, hr1, h3⟩ <;> rcases y2 with ⟨hr2, g2, g3⟩ | ⟨g1, hr2, g3⟩
  · exfalso
    rcases hM k hk4 with ⟨m1, m2⟩ | ⟨m1, m2, m3⟩
    · omega
    · exact g3 ⟨by omega, by rw [cl_to hk]; exact m2⟩
  · rw [cl_to hk] at g3
    obtain ⟨l1, l2⟩ := g3
    rcases hM k hk4 with ⟨m1, m2⟩ | ⟨m1, m2, m3⟩
    · exfalso; omega
    have e1 : ∀ n, 1023 < n → I2 n = I n := fun n p => (l2 n (by omega) (fun t ht => by have := imL_n t ht; omega)).trans (ho n (by omega))
    have e0 : ∀ n, n < 1000 → ¬ (100 ≤ n ∧ n < 110) → I2 n = I n := fun n p q => (hc n p).trans (hl n q)
    have hT2 : TWK I2 100 (live I2) := m3.to (by rw [cF_lo hc (by decide)]; exact hcp.eqv) ((imV_eq (I := I) (I2 := I1) (fun j _ => by rw [ho 1076 (by decide)])).tr (ld_V l1)) (fun g hp => by
      have q0 : I2 100 0 = I (120 + 10 * k) 0 := by rw [hc 100 (by decide)]; exact hcp.1 0 (by decide)
      exact (hcp.yly (g (by rw [← q0]; exact hp)) m3.n9).fr (fun n a b => hc n (by omega)))
    have e6 : I2 1001 6 = I2 100 6 := hT2.1 1 6 (by decide) (by decide) (by decide)
    refine ⟨by rw [hr1, hr2, e6, hc 100 (by decide)], hT2, ⟨by rw [e0 10 (by decide) (by omega)]; exact f8, by rw [h5, ho 1000 (by decide)]; exact f5⟩, hL.ext (by rw [e0 0 (by decide) (by omega)]) (by rw [h28, ho 1000 (by decide)]) (fun n a b => e0 n (by omega) (by omega)) (fun n a b => e1 n (by omega)), hP.ext (by rw [e0 0 (by decide) (by omega)]) (by rw [h24, ho 1000 (by decide)]) (e0 3 (by decide) (by omega)) (e1 1034 (by decide)), hM.ext (fun _ => rfl) (fun n a b => e0 n (by omega) (by omega)) (e1 1076 (by decide)) (e1 1077 (by decide))⟩
  · rw [g2, h3]
    exact ⟨hr1.trans hr2.symm, hT, ⟨f8, f5⟩, hL, hP, hM⟩
  · exfalso
    have ta := tn (i := a) g1.1.1
    rcases hM a.toNatClampNeg (by omega) with ⟨m1, m2⟩ | ⟨m1, m2, m3⟩
    · exact g1.2 m2
    · have := h1 a.toNatClampNeg (by omega) ta.symm
      omega
-- the text
theorem TPQ.feed {I I1 I2 : MI} {r1 r2 a b c d e : Int32} (h : TPQ I) (hI : INV I) (y1 : FEEDX (I 0 15) (I1 0 15) (I 3) (I1 3) r1 a b c d e) (y2 : FEEDX (I1 1000 24) (I2 1000 24) (I1 1034) (I2 1034) r2 a b c d e) (o1 : I1 1000 = I 1000) (o34 : I1 1034 = I 1034) (f0 : I2 0 = I1 0) (f3 : I2 3 = I1 3) : r1 = r2 ∧ TPQ I2 := by
  obtain ⟨h2, h3⟩ := h
  have g := hI.get 1000 24 (lo := 0) (hi := 400) rfl
  rw [o1, o34] at y2
  unfold TPQ
  rcases y1 with ⟨a1, a2, a3, a4⟩ | ⟨a1, a2, a3, a4⟩ <;> rcases y2 with ⟨b1, b2, b3, b4⟩ | ⟨b1, b2, b3, b4⟩
  · refine ⟨Int32.toInt_inj.mp (by omega), ?_, ?_⟩
    · rw [f0, a3, b3]; exact h2
    · rw [f3, a4, b3, b4]; exact h3
  · omega
  · omega
  · have t1 := tn (i := I 0 15) (by omega)
    have t2 := tn (i := I 1000 24) (by omega)
    refine ⟨by rw [a3, b3]; exact Int32.toInt_inj.mp (by omega), ?_, ?_⟩
    · rw [f0]; omega
    · intro j hj
      rw [f3]
      rw [show (I 0 15).toNatClampNeg = (I 1000 24).toNatClampNeg from by omega] at a4
      exact a4.same b4 (fun k hk => h3 k (by omega)) j (by omega)
theorem TPQ.fin {I I1 I2 : MI} {r1 r2 a : Int32} (h : TPQ I) (y1 : ENDX (I 0 15) (I1 0 15) r1 a) (y2 : ENDX (I1 1000 24) (I2 1000 24) r2 a) (e3 : I1 3 = I 3) (o1 : I1 1000 = I 1000) (o34 : I1 1034 = I 1034) (f0 : I2 0 = I1 0) (f3 : I2 3 = I1 3) (f34 : I2 1034 = I1 1034) : r1 = r2 ∧ TPQ I2 := by
  obtain ⟨h2, h3⟩ := h
  rw [o1] at y2
  unfold TPQ
  rcases y1 with ⟨a1, a2, a3⟩ | ⟨a1, a2, a3⟩ <;> rcases y2 with ⟨b1, b2, b3⟩ | ⟨b1, b2, b3⟩
  · refine ⟨by rw [a2, b2], ?_, ?_⟩
    · rw [f0, a3, b3]
    · intro j hj
      rw [f3, e3, f34, o34]
      rw [b3] at hj
      exact h3 j (by omega)
  · omega
  · omega
  · refine ⟨Int32.toInt_inj.mp (by omega), ?_, ?_⟩
    · rw [f0, a3, b3]; exact h2
    · rw [f3, e3, b3, f34, o34]; exact h3
-- laws
theorem OLD.lrl {I J : MI} {s r : Nat} {L : LWt} (h : LRL L I r) (h5 : (L 0 5).toNatClampNeg ≤ 12) (hr : r < s) (ho : OLD I (u2 J 1037 s (I 1037 s)) s) : LRL L J r := by
  obtain ⟨o1, o2, o3⟩ := ho
  refine h.ext h5 ?_ (fun j hj => ?_) (fun i hi => ?_)
  · have := congrFun o3 r
    rw [u2_v, if_neg (fun z => by omega)] at this
    exact this
  · have := o1 (300 * r + j) (by omega)
    rw [u2_ne _ _ _ (by decide), u2_ne _ _ _ (by decide)] at this
    exact this
  · have := o2 (12 * r + i) (by omega)
    rw [u2_ne _ _ _ (by decide), u2_ne _ _ _ (by decide), u2_ne _ _ _ (by decide), u2_ne _ _ _ (by decide)] at this
    exact this
theorem lB_in {c : Nat} (h : c < 7) : 200 + 10 * c ∈ lB := by
  rcases (show c = 0 ∨ c = 1 ∨ c = 2 ∨ c = 3 ∨ c = 4 ∨ c = 5 ∨ c = 6 by omega) with rfl | rfl | rfl | rfl | rfl | rfl | rfl <;> decide
theorem REL.law {I I1 I2 : MI} {G : MG} {r1 r2 : Int32} (h : REL I G) (hI : INV I) (hI1 : INV I1) (y1 : LAWC I I1 r1) (y2 : LAWM I1 I2 r2) (o1 : ∀ n, 1000 ≤ n → I1 n = I n) (e3 : I1 3 = I 3) (c2 : ∀ n, n < 1000 → I2 n = I1 n) (f34 : I2 1034 = I1 1034) : r1 = r2 ∧ LWQ I2 ∧ TPQ I2 := by
  obtain ⟨-, -, ⟨h1, h6, hW⟩, ⟨h2, h3⟩, -⟩ := h
  have g := hI.get 1000 24 (lo := 0) (hi := 400) rfl
  have hT : TM I1 = TXT (I 3) (I 0 15).toInt := by
    unfold TM
    rw [o1 1000 (by decide), o1 1034 (by decide), h2]
    exact (TXT_ext h3).symm
  have g28 := hI.get 1000 28 (lo := 0) (hi := 6) rfl
  have t28 := tn (i := I 1000 28) g28.1
  have t14 := tn (i := I 0 14) (by omega)
  unfold LAWM at y2
  rw [hT, o1 1000 (by decide)] at y2
  have k2 : ∀ j : Nat, (j : Int) < (I 0 14).toInt → ((∀ n, 200 + 10 * j ≤ n → n < 200 + 10 * j + 6 → I1 n = I n) → (∀ L : LWt, (L 0 5).toNatClampNeg ≤ 12 → LRL L I1 j → LRL L I2 j) → LRL (lawC (200 + 10 * j) I2) I2 j ∧ LWF (lawC (200 + 10 * j) I2)) := fun j hj en hh => by
    have q := hW j hj
    have q5 : ((lawC (200 + 10 * j) I) 0 5).toNatClampNeg ≤ 12 := by
      have z := q.2.1
      have := tn (i := (lawC (200 + 10 * j) I) 0 5) z.1
      omega
    have hl : ∀ n, n < 6 → lawC (200 + 10 * j) I2 n = lawC (200 + 10 * j) I n := fun n hn => (c2 (200 + 10 * j + n) (by omega)).trans (en (200 + 10 * j + n) (by omega) (by omega))
    exact ⟨(hh _ q5 (q.1.of (fun n a b => o1 n (by omega)))).eqL hl, q.2.eq hl⟩
  have z15 : I2 0 = I1 0 := c2 0 (by decide)
  have z3 : I2 3 = I1 3 := c2 3 (by decide)
  rcases y1 with ⟨a1, a2, a3⟩ | ⟨a1, a2, a9, F, pt, c, a3, a4, a5⟩ <;> rcases y2 with ⟨b1, b2, b3⟩ | ⟨b1, b2, b9, b3⟩
  · have e : I2 = I := b3.trans a3
    exact ⟨Int32.toInt_inj.mp (by omega), by rw [e]; exact ⟨h1, h6, hW⟩, by rw [e]; exact ⟨h2, h3⟩⟩
  · omega
  · omega
  · have hF : 0 ≤ F.1 := by
      obtain ⟨F2, e1, e2⟩ := crun_ends (T := TXT (I 3) (I 0 15).toInt) (TXT_ok (by omega)) 401 0 0 pt [] 0 [] 0 0 c (by decide) (by decide)
      rw [a4] at e1
      rw [Option.some.inj e1]
      exact e2
    have hTP : TPQ I2 := ⟨by rw [z15]; omega, fun j hj => by omega⟩
    have hs : (I 1000 28).toNatClampNeg = (I 0 14).toNatClampNeg := by omega
    rw [hs] at b9 b3
    have hold : ∀ j : Nat, (j : Int) < (I 0 14).toInt → LRL (lawC (200 + 10 * j) I2) I2 j ∧ LWF (lawC (200 + 10 * j) I2) := fun j hj => k2 j hj (fun n p q => a9 n (by omega) (by omega) (by omega)) (fun L h5 hL => OLD.lrl hL h5 (by omega) b9)
    rcases b3 F 401 pt c a3 hF a4 with ⟨c1, ⟨z, c2', c3⟩, c4⟩ | ⟨c1, c2', c3, c5⟩
    · rcases a5 with ⟨d1, ⟨y, d2, d3⟩, d4⟩ | ⟨d1, d2, d3, d5, d6⟩
      · refine ⟨by rw [d2, c2', Int32.toInt_inj.mp (show y.toInt = z.toInt by omega)], ⟨by rw [z15]; omega, by rw [z15]; omega, fun j hj => hold j (by rw [z15] at hj; omega)⟩, hTP⟩
      · exact absurd d1 c1
    · rcases a5 with ⟨d1, -, -⟩ | ⟨d1, d2, d3, d5, d6⟩
      · exact absurd c1 d1
      · refine ⟨Int32.toInt_inj.mp (by omega), ⟨by rw [z15]; omega, by rw [z15]; omega, fun j hj => ?_⟩, hTP⟩
        rw [z15] at hj
        by_cases hj2 : (j : Int) < (I 0 14).toInt
        · exact hold j hj2
        · have ej : j = (I 0 14).toNatClampNeg := by omega
          rw [ej]
          have hB : 200 + 10 * (I 0 14).toNatClampNeg ∈ lB := lB_in (by omega)
          have g5 := hI1.get (200 + 10 * (I 0 14).toNatClampNeg) 5 (rgw0 hB).1
          have g6 := hI1.get (200 + 10 * (I 0 14).toNatClampNeg) 6 (rgw0 hB).2
          have hl : ∀ n, n < 6 → lawC (200 + 10 * (I 0 14).toNatClampNeg) I2 n = lawC (200 + 10 * (I 0 14).toNatClampNeg) I1 n := fun n hn => c2 (200 + 10 * (I 0 14).toNatClampNeg + n) (by omega)
          exact ⟨(LRL.mk d5 d6 c5 g5.1).eqL hl, (LWF.mk d5 d6 (law_wt (TXT_ok (by omega)) a3 a4) d1 g5.1 g6.1).eq hl⟩
-- the beginning
theorem REL.start {I : MI} {G : MG} (hI : ∀ n k, n ≠ 1000 → I n k = 0) (h0 : ∀ k, k ≠ 33 → k ≠ 57 → I 1000 k = 0) (hG : ∀ k, G 1 k = 0) : REL I G := by
  have z0 : (0 : Int32).toInt = 0 := rfl
  have h100 : ∀ k, I 100 k = 0 := fun k => hI 100 k (by decide)
  have n8 : ∀ n, nc n ≤ 8 := fun n => by unfold nc; (repeat' split) <;> omega
  have hc : ∀ n k, cF 100 I n k = 0 := fun n k => by
    unfold cF
    by_cases q : n = 1
    · rw [if_pos q]
      unfold sC
      split <;> simp only [h100] <;> first | rfl | decide
    · rw [if_neg q]
      have := n8 n
      exact hI _ _ (by omega)
  have z : ∀ n k, (cF 100 I n k).toInt = 0 := fun n k => by rw [hc]; rfl
  have hl : ∀ n k, n < 24 → 1 ≤ n → live I n k = 0 := fun n k _ _ => hI (1000 + n) k (by omega)
  refine ⟨⟨fun n k a b _ => (hl n k (by omega) a).trans (hc n k).symm, fun hp => ?_, ?_, fun _ => ⟨z 1 8, z 1 9⟩⟩, ⟨by rw [hI 10 8 (by decide)]; rfl, by rw [h0 59 (by decide) (by decide)]; rfl⟩, ⟨by rw [hI 0 14 (by decide), h0 28 (by decide) (by decide)], by rw [hI 0 14 (by decide)]; decide, fun j hj => ?_⟩, ⟨by rw [hI 0 15 (by decide), h0 24 (by decide) (by decide)], fun j hj => ?_⟩, fun k hk => Or.inl ⟨hG k, by rw [hI 1077 k (by decide)]; rfl⟩⟩
  · rw [hI 100 0 (by decide), z0] at hp
    omega
  · have b : ∀ (n k : Nat) (lo hi : Int), lo ≤ 0 → 0 ≤ hi → lo ≤ (cF 100 I n k).toInt ∧ (cF 100 I n k).toInt ≤ hi := fun n k lo hi p q => by rw [z]; exact ⟨p, q⟩
    exact ⟨⟨b _ _ _ _ (by decide) (by decide), ⟨by rw [z]; decide, by rw [z]; decide⟩, b _ _ _ _ (by decide) (by decide), b _ _ _ _ (by decide) (by decide), b _ _ _ _ (by decide) (by decide), b _ _ _ _ (by decide) (by decide), b _ _ _ _ (by decide) (by decide)⟩, fun c _ => Or.inl (z 2 c), fun j _ => ⟨b _ _ _ _ (by decide) (by decide), b _ _ _ _ (by decide) (by decide)⟩, fun k _ => ⟨b _ _ _ _ (by decide) (by decide), b _ _ _ _ (by decide) (by decide), b _ _ _ _ (by decide) (by decide), b _ _ _ _ (by decide) (by decide), b _ _ _ _ (by decide) (by decide), b _ _ _ _ (by decide) (by decide)⟩, fun k _ => b _ _ _ _ (by decide) (by decide)⟩
  · rw [hI 0 14 (by decide), z0] at hj
    omega
  · rw [h0 24 (by decide) (by decide), z0] at hj
    omega
