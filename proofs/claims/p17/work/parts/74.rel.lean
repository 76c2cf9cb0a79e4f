-- how class and reference stand to each other, with their rows of cells
def bs (n : Nat) : Nat := match n with | 1 => 0 | 2 => 10 | 3 => 586 | 6 => 1738 | 17 => 2554 | 18 => 2562 | 19 => 2570 | 20 => 2578 | _ => 0
def imag (I : MI) (k : Nat) : Nat → Nat → Int32 := fun n j => I 1076 (2720 * k + bs n + j)
def RSs (I : MI) (b : Nat) (F : Nat → Nat → Int32) : Prop := F 1 1 = I b 0 ∧ F 1 2 = I b 1 ∧ F 1 5 = I b 5 ∧ F 1 7 = I b 7 ∧ F 1 8 = I b 8 ∧ F 1 9 = I b 9 ∧ ((F 1 0).toInt = 1 ↔ 0 < (I b 0).toInt)
def RSa (I : MI) (b : Nat) (F : Nat → Nat → Int32) : Prop := ∀ c, c < 576 → F 2 c = I (b + 1) c ∧ F 3 c = I (b + 2) c ∧ F 6 c = I (b + 3) c
def RSy (I : MI) (b : Nat) (F : Nat → Nat → Int32) : Prop := 0 < (I b 0).toInt → ∀ c, c < 576 → (I (b + 4) c).toInt = yo F c (I b 9).toNatClampNeg
def RS (I : MI) (b : Nat) (F : Nat → Nat → Int32) : Prop := RSs I b F ∧ RSa I b F ∧ RSy I b F
def RIM (I : MI) (G : MG) (k : Nat) : Prop := (G 1 k = 0 ∧ (I 1077 k).toInt = 0) ∨ (G 1 k = 120 + 10 * k ∧ (I 1077 k).toInt ≠ 0 ∧ RS I (120 + 10 * k) (imag I k))
def REL (I : MI) (G : MG) : Prop := RS I 100 (live I) ∧ ∀ k, k < 4 → RIM I G k
def FS (F F2 : Nat → Nat → Int32) : Prop := (F2 1 0 = F 1 0 ∧ F2 1 1 = F 1 1 ∧ F2 1 2 = F 1 2 ∧ F2 1 5 = F 1 5 ∧ F2 1 7 = F 1 7 ∧ F2 1 8 = F 1 8 ∧ F2 1 9 = F 1 9) ∧ (∀ c, c < 576 → F2 2 c = F 2 c ∧ F2 3 c = F 3 c ∧ F2 6 c = F 6 c) ∧ ∀ k, k < 8 → F2 17 k = F 17 k ∧ F2 18 k = F 18 k ∧ F2 19 k = F 19 k ∧ F2 20 k = F 20 k
def BS (I I2 : MI) (b b2 : Nat) : Prop := (I2 b2 0 = I b 0 ∧ I2 b2 1 = I b 1 ∧ I2 b2 5 = I b 5 ∧ I2 b2 7 = I b 7 ∧ I2 b2 8 = I b 8 ∧ I2 b2 9 = I b 9) ∧ ∀ c, c < 576 → I2 (b2 + 1) c = I (b + 1) c ∧ I2 (b2 + 2) c = I (b + 2) c ∧ I2 (b2 + 3) c = I (b + 3) c ∧ I2 (b2 + 4) c = I (b + 4) c
theorem RS.to {I I2 : MI} {b b2 : Nat} {F F2 : Nat → Nat → Int32} (h : RS I b F) (hB : BS I I2 b b2) (hF : FS F F2) (h9 : (I b 9).toNatClampNeg ≤ 8) : RS I2 b2 F2 := by
  obtain ⟨⟨a1, a2, a5, a7, a8, a9, a0⟩, ha, hy⟩ := h
  obtain ⟨⟨b0, b1, b5, b7, b8, b9⟩, bc⟩ := hB
  obtain ⟨⟨f0, f1, f2, f5, f7, f8, f9⟩, fc, fy⟩ := hF
  refine ⟨⟨?_, ?_, ?_, ?_, ?_, ?_, ?_⟩, fun c hc => ?_, fun hp c hc => ?_⟩
  · rw [f1, b0]; exact a1
  · rw [f2, b1]; exact a2
  · rw [f5, b5]; exact a5
  · rw [f7, b7]; exact a7
  · rw [f8, b8]; exact a8
  · rw [f9, b9]; exact a9
  · rw [f0, b0]; exact a0
  · rw [(fc c hc).1, (fc c hc).2.1, (fc c hc).2.2, (bc c hc).1, (bc c hc).2.1, (bc c hc).2.2.1]
    exact ha c hc
  · rw [(bc c hc).2.2.2, b9, hy (by rw [← b0]; exact hp) c hc]
    exact (yo_congr (fun k hk => fy k (by omega))).symm
theorem c9 {I : MI} (hI : INV I) {b : Nat} (hb : rg b 9 = (0, 8)) : (I b 9).toNatClampNeg ≤ 8 := by
  have g := hI.get b 9 hb
  have := tn (i := I b 9) (by omega)
  omega
theorem rg_im {k : Nat} (hk : k < 4) : rg (120 + 10 * k) 9 = (0, 8) := by
  rcases (show k = 0 ∨ k = 1 ∨ k = 2 ∨ k = 3 by omega) with rfl | rfl | rfl | rfl <;> rfl
theorem RIM.to {I I2 : MI} {G G2 : MG} {k : Nat} (h : RIM I G k) (hk : k < 4) (hI : INV I) (hg : G2 1 k = G 1 k) (hn : ∀ i, i < 5 → I2 (120 + 10 * k + i) = I (120 + 10 * k + i)) (hi : ∀ j, j < 2720 → I2 1076 (2720 * k + j) = I 1076 (2720 * k + j)) (hm : I2 1077 k = I 1077 k) : RIM I2 G2 k := by
  unfold RIM
  rw [hg, hm]
  rcases h with h | ⟨h1, h2, h3⟩
  · exact Or.inl h
  · refine Or.inr ⟨h1, h2, h3.to ?_ ?_ (c9 hI (rg_im hk))⟩
    · have e0 := hn 0 (by decide)
      have e1 := hn 1 (by decide)
      have e2 := hn 2 (by decide)
      have e3 := hn 3 (by decide)
      have e4 := hn 4 (by decide)
      simp only [Nat.add_zero] at e0
      refine ⟨?_, fun c _ => ?_⟩
      · simp only [e0, and_self]
      · simp only [e1, e2, e3, e4, and_self]
    · have f : ∀ n j, bs n + j < 2720 → imag I2 k n j = imag I k n j := fun n j hj => by
        have := hi (bs n + j) hj
        unfold imag
        rw [Nat.add_assoc]
        exact this
      refine ⟨⟨f 1 0 (by decide), f 1 1 (by decide), f 1 2 (by decide), f 1 5 (by decide), f 1 7 (by decide), f 1 8 (by decide), f 1 9 (by decide)⟩, fun c hc => ⟨f 2 c (by show 10 + c < 2720; omega), f 3 c (by show 586 + c < 2720; omega), f 6 c (by show 1738 + c < 2720; omega)⟩, fun j hj => ⟨f 17 j (by show 2554 + j < 2720; omega), f 18 j (by show 2562 + j < 2720; omega), f 19 j (by show 2570 + j < 2720; omega), f 20 j (by show 2578 + j < 2720; omega)⟩⟩
def sens (n k : Nat) : Prop := (n = 100 ∧ (k = 0 ∨ k = 1 ∨ k = 5 ∨ k = 7 ∨ k = 8 ∨ k = 9)) ∨ (101 ≤ n ∧ n ≤ 104) ∨ (120 ≤ n ∧ n < 160) ∨ (n = 1001 ∧ (k = 0 ∨ k = 1 ∨ k = 2 ∨ k = 5 ∨ k = 7 ∨ k = 8 ∨ k = 9)) ∨ n = 1002 ∨ n = 1003 ∨ n = 1006 ∨ (1017 ≤ n ∧ n ≤ 1020) ∨ n = 1076 ∨ n = 1077
theorem REL.alive {I I2 : MI} {G : MG} (h : REL I G) (hI : INV I) (hn : RS I2 100 (live I2)) (he : ∀ n, (120 ≤ n ∧ n < 160) ∨ n = 1076 ∨ n = 1077 → I2 n = I n) : REL I2 G := ⟨hn, fun k hk => (h.2 k hk).to hk hI rfl (fun i hi => he _ (by omega)) (fun j _ => by rw [he _ (by omega)]) (by rw [he _ (by omega)])⟩
theorem REL.ext {I I2 : MI} {G G2 : MG} (h : REL I G) (hI : INV I) (e : ∀ n k, sens n k → I2 n k = I n k) (hg : ∀ k, G2 1 k = G 1 k) : REL I2 G2 := by
  refine ⟨h.1.to ⟨⟨?_, ?_, ?_, ?_, ?_, ?_⟩, fun c hc => ⟨?_, ?_, ?_, ?_⟩⟩ ⟨⟨?_, ?_, ?_, ?_, ?_, ?_, ?_⟩, fun c hc => ⟨?_, ?_, ?_⟩, fun k hk => ⟨?_, ?_, ?_, ?_⟩⟩ (c9 hI rfl), fun k hk => (h.2 k hk).to hk hI (hg k) (fun i hi => funext fun j => e _ _ (by unfold sens; omega)) (fun j _ => e _ _ (by unfold sens; omega)) (e _ _ (by unfold sens; omega))⟩
  all_goals first | exact e _ _ (by unfold sens; omega) | (show I2 _ _ = I _ _; exact e _ _ (by unfold sens; omega))
def relok (ex : Nat × Nat) (R P : List (Nat × Nat)) : Bool := R.all (fun r => decide (r.2 ≤ 100 ∨ (105 ≤ r.1 ∧ r.2 ≤ 120) ∨ (160 ≤ r.1 ∧ r.2 ≤ 1001) ∨ (1004 ≤ r.1 ∧ r.2 ≤ 1006) ∨ (1007 ≤ r.1 ∧ r.2 ≤ 1017) ∨ (1021 ≤ r.1 ∧ r.2 ≤ 1076) ∨ 1078 ≤ r.1)) && P.all (fun q => decide (q = ex ∨ (q.1 < 100) ∨ (q.1 = 100 ∧ q.2 ≠ 0 ∧ q.2 ≠ 1 ∧ q.2 ≠ 5 ∧ q.2 ≠ 7 ∧ q.2 ≠ 8 ∧ q.2 ≠ 9) ∨ (104 < q.1 ∧ q.1 < 120) ∨ (160 ≤ q.1 ∧ q.1 ≤ 1000) ∨ (q.1 = 1001 ∧ q.2 ≠ 0 ∧ q.2 ≠ 1 ∧ q.2 ≠ 2 ∧ q.2 ≠ 5 ∧ q.2 ≠ 7 ∧ q.2 ≠ 8 ∧ q.2 ≠ 9) ∨ (1003 < q.1 ∧ q.1 < 1006) ∨ (1006 < q.1 ∧ q.1 < 1017) ∨ (1020 < q.1 ∧ q.1 < 1076) ∨ 1078 ≤ q.1))
theorem kp_sens {R P : List (Nat × Nat)} {I I2 : MI} (ex : Nat × Nat) (h : Kp R P I I2) (hc : relok ex R P = true) : ∀ n k, sens n k → (n, k) ≠ ex → I2 n k = I n k := by
  intro n k hs hx
  unfold relok at hc
  simp only [Bool.and_eq_true, List.all_eq_true, decide_eq_true_eq] at hc
  unfold sens at hs
  refine h n k ?_ ?_
  · cases hq : inR R n with
    | false => rfl
    | true =>
      exfalso
      obtain ⟨r, hr, hb⟩ := List.any_eq_true.mp hq
      have h1 := hc.1 r hr
      simp only [Bool.and_eq_true, decide_eq_true_eq] at hb
      omega
  · cases hq : P.contains (n, k) with
    | false => rfl
    | true =>
      exfalso
      have h3 : (n, k) ∈ P := by simpa using hq
      rcases hc.2 (n, k) h3 with h1 | h1
      · exact hx h1
      · simp only at h1
        omega
theorem REL.kp {R P : List (Nat × Nat)} {I I2 : MI} {G : MG} (h : REL I G) (hI : INV I) (hK : Kp R P I I2) (hc : relok (0, 999) R P = true) : REL I2 G := h.ext hI (fun n k hs => kp_sens (0, 999) hK hc n k hs (fun e => by unfold sens at hs; simp only [Prod.mk.injEq] at e; omega)) (fun _ => rfl)
theorem REL.kp5 {R P : List (Nat × Nat)} {I I2 : MI} {G : MG} (h : REL I G) (hI : INV I) (hK : Kp R P I I2) (hc : relok (1001, 5) R P = true) (h5 : I2 1001 5 = I 1001 5) : REL I2 G := h.ext hI (fun n k hs => by
  by_cases hq : (n, k) = (1001, 5)
  · simp only [Prod.mk.injEq] at hq
    rw [hq.1, hq.2]
    exact h5
  · exact kp_sens (1001, 5) hK hc n k hs hq) (fun _ => rfl)
theorem REL.kpg {R P : List (Nat × Nat)} {I I2 : MI} {G G2 : MG} (h : REL I G) (hI : INV I) (hK : Kp R P I I2) (hc : relok (0, 999) R P = true) (hg : ∀ k, G2 1 k = G 1 k) : REL I2 G2 := h.ext hI (fun n k hs => kp_sens (0, 999) hK hc n k hs (fun e => by unfold sens at hs; simp only [Prod.mk.injEq] at e; omega)) hg
theorem beg_iff {I : MI} {G : MG} (h : REL I G) : (I 1001 0).toInt = 1 ↔ 0 < (I 100 0).toInt := h.1.1.2.2.2.2.2.2
theorem ASK.same {ok ok2 : Prop} {r r2 v w v2 w2 a : Int32} (h : ASK ok r v v2 a) (h2 : ASK ok2 r2 w w2 a) (e : ok ↔ ok2) (ev : v = w) : r = r2 ∧ v2 = w2 := by
  rcases h with ⟨h1, h3, h4⟩ | ⟨h1, h3, h4⟩ <;> rcases h2 with ⟨g1, g3, g4⟩ | ⟨g1, g3, g4⟩
  · exact ⟨by rw [h3, g3, ev], by rw [h4, g4]⟩
  · exact absurd (e.mp h1) g1
  · exact absurd (e.mpr g1) h1
  · exact ⟨by rw [h3, g3], by rw [h4, g4, ev]⟩
theorem imL_r : ∀ t ∈ imL, t.2.1 + t.2.2 ≤ 2720 ∧ t.1 ≠ 1076 ∧ t.1 ≠ 1077 ∧ 1000 < t.1 ∧ t.1 < 1024 := by decide
theorem RSs.keep {I I2 : MI} (h : RSs I 100 (live I)) (b : ∀ k, (k = 0 ∨ k = 1 ∨ k = 5 ∨ k = 7 ∨ k = 8 ∨ k = 9) → I2 100 k = I 100 k) (m : ∀ k, (k = 0 ∨ k = 1 ∨ k = 2 ∨ k = 5 ∨ k = 7 ∨ k = 8 ∨ k = 9) → I2 1001 k = I 1001 k) : RSs I2 100 (live I2) := by
  have h' : I 1001 1 = I 100 0 ∧ I 1001 2 = I 100 1 ∧ I 1001 5 = I 100 5 ∧ I 1001 7 = I 100 7 ∧ I 1001 8 = I 100 8 ∧ I 1001 9 = I 100 9 ∧ ((I 1001 0).toInt = 1 ↔ 0 < (I 100 0).toInt) := h
  show I2 1001 1 = I2 100 0 ∧ I2 1001 2 = I2 100 1 ∧ I2 1001 5 = I2 100 5 ∧ I2 1001 7 = I2 100 7 ∧ I2 1001 8 = I2 100 8 ∧ I2 1001 9 = I2 100 9 ∧ ((I2 1001 0).toInt = 1 ↔ 0 < (I2 100 0).toInt)
  rw [b 0 (by decide), b 1 (by decide), b 5 (by decide), b 7 (by decide), b 8 (by decide), b 9 (by decide), m 0 (by decide), m 1 (by decide), m 2 (by decide), m 5 (by decide), m 7 (by decide), m 8 (by decide), m 9 (by decide)]
  exact h'
theorem RSa.keep {I I2 : MI} (h : RSa I 100 (live I)) (e : ∀ n, (n = 101 ∨ n = 102 ∨ n = 103 ∨ n = 1002 ∨ n = 1003 ∨ n = 1006) → I2 n = I n) : RSa I2 100 (live I2) := by
  intro c hc
  have h' : I 1002 c = I 101 c ∧ I 1003 c = I 102 c ∧ I 1006 c = I 103 c := h c hc
  show I2 1002 c = I2 101 c ∧ I2 1003 c = I2 102 c ∧ I2 1006 c = I2 103 c
  rw [e 1002 (by decide), e 101 (by decide), e 1003 (by decide), e 102 (by decide), e 1006 (by decide), e 103 (by decide)]
  exact h'
theorem RSy.keep {I I2 : MI} (h : RSy I 100 (live I)) (e4 : I2 104 = I 104) (e9 : I2 100 9 = I 100 9) (er : ∀ n, 1017 ≤ n → n ≤ 1020 → I2 n = I n) (e0 : I2 100 0 = I 100 0) : RSy I2 100 (live I2) := by
  intro hp c hc
  have h' : (I 104 c).toInt = yo (live I) c (I 100 9).toNatClampNeg := h (by rw [← e0]; exact hp) c hc
  show (I2 104 c).toInt = yo (live I2) c (I2 100 9).toNatClampNeg
  rw [e4, e9, h']
  refine (yo_congr (fun k _ => ⟨?_, ?_, ?_, ?_⟩)).symm
  · exact congrFun (er 1017 (by decide) (by decide)) k
  · exact congrFun (er 1018 (by decide) (by decide)) k
  · exact congrFun (er 1019 (by decide) (by decide)) k
  · exact congrFun (er 1020 (by decide) (by decide)) k
theorem Kp.slot {I I1 : MI} {n j : Nat} (h : Kp [] [(n, j)] I I1) : (∀ m, m ≠ n → I1 m = I m) ∧ ∀ k, k ≠ j → I1 n k = I n k := by
  refine ⟨fun m hm => funext fun k => h m k rfl ?_, fun k hk => h n k rfl ?_⟩
  · simp [hm]
  · simp [hk]
theorem REL.put {I I1 I2 : MI} {G : MG} (h : REL I G) (hI : INV I) (j : Nat) (hj : j = 5 ∨ j = 7) (hk1 : Kp [] [(100, j)] I I1) (hk2 : Kp [] [(1001, j)] I1 I2) (e : I1 100 j = I2 1001 j) : REL I2 G := by
  obtain ⟨p1, p2⟩ := hk1.slot
  obtain ⟨q1, q2⟩ := hk2.slot
  have en : ∀ n, n ≠ 100 → n ≠ 1001 → I2 n = I n := fun n a b => (q1 n b).trans (p1 n a)
  have eb : ∀ k, I2 100 k = I1 100 k := fun k => congrFun (q1 100 (by decide)) k
  have em : ∀ k, k ≠ j → I2 1001 k = I 1001 k := fun k hk => (q2 k hk).trans (congrFun (p1 1001 (by decide)) k)
  refine h.alive hI ⟨?_, h.1.2.1.keep (fun n hn => en n (by omega) (by omega)), h.1.2.2.keep (en 104 (by decide) (by decide)) ((eb 9).trans (p2 9 (by omega))) (fun n a b => en n (by omega) (by omega)) ((eb 0).trans (p2 0 (by omega)))⟩ (fun n hn => en n (by omega) (by omega))
  have h' : I 1001 1 = I 100 0 ∧ I 1001 2 = I 100 1 ∧ I 1001 5 = I 100 5 ∧ I 1001 7 = I 100 7 ∧ I 1001 8 = I 100 8 ∧ I 1001 9 = I 100 9 ∧ ((I 1001 0).toInt = 1 ↔ 0 < (I 100 0).toInt) := h.1.1
  show I2 1001 1 = I2 100 0 ∧ I2 1001 2 = I2 100 1 ∧ I2 1001 5 = I2 100 5 ∧ I2 1001 7 = I2 100 7 ∧ I2 1001 8 = I2 100 8 ∧ I2 1001 9 = I2 100 9 ∧ ((I2 1001 0).toInt = 1 ↔ 0 < (I2 100 0).toInt)
  rcases hj with rfl | rfl
  · rw [← e, eb 0, eb 1, eb 5, eb 7, eb 8, eb 9, p2 0 (by decide), p2 1 (by decide), p2 7 (by decide), p2 8 (by decide), p2 9 (by decide), em 0 (by decide), em 1 (by decide), em 2 (by decide), em 7 (by decide), em 8 (by decide), em 9 (by decide)]
    exact ⟨h'.1, h'.2.1, rfl, h'.2.2.2⟩
  · rw [← e, eb 0, eb 1, eb 5, eb 7, eb 8, eb 9, p2 0 (by decide), p2 1 (by decide), p2 5 (by decide), p2 8 (by decide), p2 9 (by decide), em 0 (by decide), em 1 (by decide), em 2 (by decide), em 5 (by decide), em 8 (by decide), em 9 (by decide)]
    exact ⟨h'.1, h'.2.1, h'.2.2.1, rfl, h'.2.2.2.2⟩
-- eyes
theorem REL.eyes {I I1 I2 : MI} {G : MG} {ok1 ok2 : Prop} {r1 r2 v : Int32} {c : Nat} (h : REL I G) (hI : INV I) (y1 : SETA ok1 r1 I I1 102 c v) (y2 : SETA ok2 r2 I1 I2 1003 c v) (e : ok1 ↔ ok2) (hc : ok1 → c < 576) : r1 = r2 ∧ REL I2 G := by
  rcases y1 with ⟨h1, h2, h3⟩ | ⟨h1, h2, h3⟩ <;> rcases y2 with ⟨g1, g2, g3⟩ | ⟨g1, g2, g3⟩
  · have hcc := hc h1
    have ha : I 1002 c = I 101 c ∧ I 1003 c = I 102 c ∧ I 1006 c = I 103 c := h.1.2.1 c hcc
    have en : ∀ n, n ≠ 102 → n ≠ 1003 → I2 n = I n := fun n a b => by rw [g3, u2_ne _ _ _ b, h3, u2_ne _ _ _ a]
    refine ⟨by rw [h2, g2, h3, u2_ne _ _ _ (by decide)]; exact ha.2.1.symm, h.alive hI ⟨h.1.1.keep (fun k _ => by rw [en 100 (by decide) (by decide)]) (fun k _ => by rw [en 1001 (by decide) (by decide)]), fun c' hc' => ?_, h.1.2.2.keep (en 104 (by decide) (by decide)) (by rw [en 100 (by decide) (by decide)]) (fun n a b => en n (by omega) (by omega)) (by rw [en 100 (by decide) (by decide)])⟩ (fun n hn => en n (by omega) (by omega))⟩
    have h' : I 1002 c' = I 101 c' ∧ I 1003 c' = I 102 c' ∧ I 1006 c' = I 103 c' := h.1.2.1 c' hc'
    show I2 1002 c' = I2 101 c' ∧ I2 1003 c' = I2 102 c' ∧ I2 1006 c' = I2 103 c'
    rw [en 1002 (by decide) (by decide), en 101 (by decide) (by decide), en 1006 (by decide) (by decide), en 103 (by decide) (by decide), g3, h3]
    refine ⟨h'.1, ?_, h'.2.2⟩
    simp only [u2_v]
    by_cases hq : c' = c
    · simp [hq]
    · simp [hq, h'.2.1]
  · exact absurd (e.mp h1) g1
  · exact absurd (e.mpr g1) h1
  · rw [h2, g2, g3, h3]
    exact ⟨rfl, h⟩
-- mirror
theorem REL.mirror {I I1 I2 : MI} {G : MG} {ok1 ok2 : Prop} {r1 r2 : Int32} {c : Nat} (h : REL I G) (hI : INV I) (y1 : ADDM ok1 r1 I I1 100 8 103 c) (y2 : ADDM ok2 r2 I1 I2 1001 8 1006 c) (e : ok1 ↔ ok2) (e1 : ∀ n, (n = 101 ∨ n = 102 ∨ n = 104 ∨ (120 ≤ n ∧ n < 160) ∨ 1000 ≤ n) → I1 n = I n) (b1 : ∀ k, (k = 0 ∨ k = 1 ∨ k = 5 ∨ k = 7 ∨ k = 9) → I1 100 k = I 100 k) (e2 : ∀ n, (n < 1000 ∨ n = 1002 ∨ n = 1003 ∨ (1017 ≤ n ∧ n ≤ 1020) ∨ n = 1076 ∨ n = 1077) → I2 n = I1 n) (b2 : ∀ k, (k = 0 ∨ k = 1 ∨ k = 2 ∨ k = 5 ∨ k = 7 ∨ k = 9) → I2 1001 k = I1 1001 k) : r1 = r2 ∧ REL I2 G := by
  have hs : I 1001 1 = I 100 0 ∧ I 1001 2 = I 100 1 ∧ I 1001 5 = I 100 5 ∧ I 1001 7 = I 100 7 ∧ I 1001 8 = I 100 8 ∧ I 1001 9 = I 100 9 ∧ ((I 1001 0).toInt = 1 ↔ 0 < (I 100 0).toInt) := h.1.1
  have m1 : ∀ k, I1 1001 k = I 1001 k := fun k => congrFun (e1 1001 (by decide)) k
  rcases y1 with ⟨h1, h2, h3, h4⟩ | ⟨h1, h2, h3⟩ <;> rcases y2 with ⟨g1, g2, g3, g4⟩ | ⟨g1, g2, g3⟩
  · have en : ∀ n, (n = 101 ∨ n = 102 ∨ n = 104 ∨ (120 ≤ n ∧ n < 160) ∨ n = 1002 ∨ n = 1003 ∨ (1017 ≤ n ∧ n ≤ 1020) ∨ n = 1076 ∨ n = 1077) → I2 n = I n := fun n hn => (e2 n (by omega)).trans (e1 n (by omega))
    have eb : ∀ k, I2 100 k = I1 100 k := fun k => congrFun (e2 100 (by decide)) k
    refine ⟨by rw [h2, g2, m1 8]; exact hs.2.2.2.2.1.symm, h.alive hI ⟨?_, fun c' hc' => ?_, h.1.2.2.keep (en 104 (by decide)) ((eb 9).trans (b1 9 (by decide))) (fun n a b => en n (by omega)) ((eb 0).trans (b1 0 (by decide)))⟩ (fun n hn => en n (by omega))⟩
    · show I2 1001 1 = I2 100 0 ∧ I2 1001 2 = I2 100 1 ∧ I2 1001 5 = I2 100 5 ∧ I2 1001 7 = I2 100 7 ∧ I2 1001 8 = I2 100 8 ∧ I2 1001 9 = I2 100 9 ∧ ((I2 1001 0).toInt = 1 ↔ 0 < (I2 100 0).toInt)
      have e8 : I2 1001 8 = I2 100 8 := Int32.toInt_inj.mp (by rw [g3, eb 8, h3, m1 8, hs.2.2.2.2.1])
      rw [e8, eb 0, eb 1, eb 5, eb 7, eb 9, b1 0 (by decide), b1 1 (by decide), b1 5 (by decide), b1 7 (by decide), b1 9 (by decide), b2 0 (by decide), b2 1 (by decide), b2 2 (by decide), b2 5 (by decide), b2 7 (by decide), b2 9 (by decide), m1 0, m1 1, m1 2, m1 5, m1 7, m1 9]
      exact ⟨hs.1, hs.2.1, hs.2.2.1, hs.2.2.2.1, rfl, hs.2.2.2.2.2⟩
    · have h' : I 1002 c' = I 101 c' ∧ I 1003 c' = I 102 c' ∧ I 1006 c' = I 103 c' := h.1.2.1 c' hc'
      show I2 1002 c' = I2 101 c' ∧ I2 1003 c' = I2 102 c' ∧ I2 1006 c' = I2 103 c'
      rw [en 1002 (by decide), en 101 (by decide), en 1003 (by decide), en 102 (by decide), g4, e2 103 (by decide), h4]
      refine ⟨h'.1, h'.2.1, ?_⟩
      simp only [u2_v]
      by_cases hq : c' = c
      · simp [hq, m1 8, hs.2.2.2.2.1]
      · simp [hq, congrFun (e1 1006 (by decide)) c', h'.2.2]
  · exact absurd (e.mp h1) g1
  · exact absurd (e.mpr g1) h1
  · rw [h2, g2, g3, h3]
    exact ⟨rfl, h⟩
