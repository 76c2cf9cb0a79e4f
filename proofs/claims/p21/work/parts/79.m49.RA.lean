-- class and reference with all that they hold
theorem LRL.eqL {L L2 : LWt} {J : MI} {r : Nat} (h : LRL L J r) (e : ∀ n, n < 6 → L2 n = L n) : LRL L2 J r := by
  unfold LRL at h ⊢
  rw [e 0 (by decide), e 1 (by decide), e 2 (by decide), e 3 (by decide), e 4 (by decide), e 5 (by decide)]
  exact h
theorem YLY.fr {b : Nat} {I I2 : MI} (h : YLY b I) (e : ∀ n, b ≤ n → n < b + 9 → I2 n = I n) : YLY b I2 := by
  unfold YLY
  rw [cF_kp e, e b (by omega) (by omega), e (b + 4) (by omega) (by omega)]
  exact h
def BZ (V : VW) : Prop := (V 1 0).toInt ≠ 1 → (V 1 8).toInt = 0 ∧ (V 1 9).toInt = 0
theorem BZ.eq {V W : VW} (h : BZ V) (e : EqV V W) : BZ W := by
  have e1 : ∀ k, k < 10 → W 1 k = V 1 k := fun k hk => e 1 k (by decide) (by decide) hk
  unfold BZ
  rw [e1 0 (by decide), e1 8 (by decide), e1 9 (by decide)]
  exact h
theorem BZ.of {V : VW} (h : (V 1 0).toInt = 1) : BZ V := fun g => absurd h g
-- a town at b against a table
def TWK (I : MI) (b : Nat) (F : VW) : Prop := EqV (cF b I) F ∧ (0 < (I b 0).toInt → YLY b I) ∧ RKv (cF b I) ∧ BZ (cF b I)
theorem TWK.to {I I2 : MI} {b b2 : Nat} {F F2 : VW} (h : TWK I b F) (e : EqV (cF b I) (cF b2 I2)) (ef : EqV F F2) (hy : (0 < (I b 0).toInt → YLY b I) → 0 < (I2 b2 0).toInt → YLY b2 I2) : TWK I2 b2 F2 := ⟨(e.sy.tr h.1).tr ef, hy h.2.1, h.2.2.1.eq e, h.2.2.2.eq e⟩
theorem TWK.fr {I I2 : MI} {b : Nat} {F : VW} (h : TWK I b F) (e : ∀ n, b ≤ n → n < b + 9 → I2 n = I n) : TWK I2 b F := h.to (by rw [cF_kp e]; exact EqV.rf) EqV.rf (fun g hp => (g (by rw [← e b (by omega) (by omega)]; exact hp)).fr e)
theorem TWK.n9 {I : MI} {b : Nat} {F : VW} (h : TWK I b F) : (I b 9).toNatClampNeg ≤ 8 := by
  have g : 0 ≤ (I b 9).toInt ∧ (I b 9).toInt ≤ 8 := h.2.2.1.1.2.2.2.2.2.2
  have := tn (i := I b 9) g.1
  omega
theorem TWK.beg {I : MI} {b : Nat} {F : VW} (h : TWK I b F) : (F 1 0).toInt = 1 ↔ 0 < (I b 0).toInt := by
  rw [h.1 1 0 (by decide) (by decide) (by decide)]
  exact sc0_iff
theorem live_out {I I1 : MI} (c1 : ∀ n, 1000 ≤ n → I1 n = I n) : live I1 = live I := by
  funext n j
  exact congrFun (c1 (1000 + n) (by omega)) j
theorem TWK.quiet {I I1 I2 : MI} (h : TWK I 100 (live I)) (e1 : EqV (cF 100 I) (cF 100 I1)) (h4 : I1 104 = I 104) (c1 : ∀ n, 1000 ≤ n → I1 n = I n) (e2 : EqV (live I1) (live I2)) (c2 : ∀ n, n < 1000 → I2 n = I1 n) : TWK I2 100 (live I2) := by
  have e9 : I1 100 9 = I 100 9 := e1 1 9 (by decide) (by decide) (by decide)
  have t1 : TWK I1 100 (live I) := h.to e1 EqV.rf (fun g hp => (g (by
    have e0 := e1 1 0 (by decide) (by decide) (by decide)
    exact sc0_iff.mp (by rw [← e0]; exact sc0_iff.mpr hp))).of h4 e9 (e1.yds) h.n9)
  refine (t1.to EqV.rf (by rw [← live_out c1]; exact e2) (fun g => g)).fr (fun n a b => c2 n (by omega))
theorem TWK.new {I1 I2 : MI} {V W : VW} (e1 : EqV V (cF 100 I1)) (e2 : EqV W (live I2)) (e : EqV V W) (hk : RKv V) (hz : BZ V) (hy : 0 < (I1 100 0).toInt → YLY 100 I1) (c2 : ∀ n, n < 1000 → I2 n = I1 n) : TWK I2 100 (live I2) := TWK.fr (I := I1) ⟨(e1.sy.tr e).tr e2, hy, hk.eq e1, hz.eq e1⟩ (fun n _ b => c2 n (by omega))
-- yards as they were
theorem TWK.yd {I I1 : MI} {F V : VW} (h : TWK I 100 F) (e1 : EqV V (cF 100 I1)) (h4 : I1 104 = I 104) (h0 : V 1 0 = cF 100 I 1 0) (h9 : V 1 9 = cF 100 I 1 9) (hv : ∀ k, k < 8 → V 17 k = cF 100 I 17 k ∧ V 18 k = cF 100 I 18 k ∧ V 19 k = cF 100 I 19 k ∧ V 20 k = cF 100 I 20 k) : 0 < (I1 100 0).toInt → YLY 100 I1 := fun hp => by
  have e0 := e1 1 0 (by decide) (by decide) (by decide)
  have e9 : I1 100 9 = I 100 9 := (e1 1 9 (by decide) (by decide) (by decide)).trans h9
  refine (h.2.1 (sc0_iff.mp (by rw [← h0, ← e0]; exact sc0_iff.mpr hp))).of h4 e9 (fun k hk => ?_) h.n9
  obtain ⟨q1, q2, q3, q4⟩ := e1.yds k hk
  obtain ⟨p1, p2, p3, p4⟩ := hv k hk
  exact ⟨q1.trans p1, q2.trans p2, q3.trans p3, q4.trans p4⟩
theorem OKW.C {I : MI} (hI : INV I) : OKW (cF 100 I) := by
  have g0 := hI.get 100 0 (lo := 0) (hi := 24) rfl
  have g1 := hI.get 100 1 (lo := 0) (hi := 24) rfl
  have g5 := hI.get 100 5 (lo := 0) (hi := 11) rfl
  have g8 := hI.get 100 8 (lo := 0) (hi := 24) rfl
  have g9 := hI.get 100 9 (lo := 0) (hi := 8) rfl
  have t9 := tn (i := I 100 9) g9.1
  refine ⟨g5, g8, g9, ⟨g0.2, g1.2⟩, fun c _ => ?_, fun c _ => ?_⟩
  · have q := yo_lt (F := cF 100 I) (c := c) (I 100 9).toNatClampNeg
    show -1 ≤ (Int32.ofInt (yo (cF 100 I) c (I 100 9).toNatClampNeg)).toInt ∧ (Int32.ofInt (yo (cF 100 I) c (I 100 9).toNatClampNeg)).toInt < 8
    have e := i32 (c := Int32.ofInt (yo (cF 100 I) c (I 100 9).toNatClampNeg)) (z := yo (cF 100 I) c (I 100 9).toNatClampNeg) (by omega) rfl
    rw [e]
    omega
  · have q := hI.get 103 c (lo := -1) (hi := 23) rfl
    have e : cF 100 I 6 c = I 103 c := by
      unfold cF
      rw [if_neg (by decide)]
      show I (100 + 3) (0 + c) = I 103 c
      rw [Nat.zero_add]
    show -1 ≤ (cF 100 I 6 c).toInt ∧ (cF 100 I 6 c).toInt < 24
    rw [e]
    omega
-- images
def ba (n : Nat) : Nat := match n with | 2 => 10 | 3 => 586 | 4 => 1162 | 5 => 1450 | 6 => 1738 | 7 => 2314 | 8 => 2338 | 9 => 2362 | 10 => 2386 | 11 => 2410 | 12 => 2434 | 13 => 2458 | 14 => 2482 | 15 => 2506 | 16 => 2530 | 17 => 2554 | 18 => 2562 | 19 => 2570 | 20 => 2578 | 21 => 2586 | 22 => 2594 | 23 => 2602 | _ => 0
theorem ba_in : ∀ n : Fin 24, 1 ≤ n.val → (1000 + n.val, ba n.val, wdt n.val) ∈ imL := by decide
theorem ba_lt : ∀ n : Fin 24, ba n.val + wdt n.val ≤ 2720 := by decide
def imV (I : MI) (k : Nat) : VW := fun n j => I 1076 (2720 * k + ba n + j)
theorem imV_eq {I I2 : MI} {k : Nat} (e : ∀ j, j < 2720 → I2 1076 (2720 * k + j) = I 1076 (2720 * k + j)) : EqV (imV I k) (imV I2 k) := fun n j h1 h2 hj => by
  have := ba_lt ⟨n, by omega⟩
  simp only at this
  unfold imV
  rw [Nat.add_assoc]
  exact e (ba n + j) (by omega)
theorem sv_V {k : Nat} {J I2 : MI} (s1 : ∀ t ∈ imL, ∀ j, j < t.2.2 → I2 1076 (2720 * k + t.2.1 + j) = J t.1 j) : EqV (live J) (imV I2 k) := fun n j h1 h2 hj => s1 _ (ba_in ⟨n, by omega⟩ h1) j hj
theorem ld_V {k : Nat} {J I2 : MI} (l1 : ∀ t ∈ imL, ∀ j, j < t.2.2 → I2 t.1 j = J 1076 (2720 * k + t.2.1 + j)) : EqV (imV J k) (live I2) := fun n j h1 h2 hj => l1 _ (ba_in ⟨n, by omega⟩ h1) j hj
def RIM (I : MI) (G : MG) (k : Nat) : Prop := (G 1 k = 0 ∧ (I 1077 k).toInt = 0) ∨ (G 1 k = 120 + 10 * k ∧ (I 1077 k).toInt ≠ 0 ∧ TWK I (120 + 10 * k) (imV I k))
theorem RIM.ext {I I2 : MI} {G G2 : MG} {k : Nat} (h : RIM I G k) (hg : G2 1 k = G 1 k) (en : ∀ n, 120 + 10 * k ≤ n → n < 120 + 10 * k + 9 → I2 n = I n) (ei : ∀ j, j < 2720 → I2 1076 (2720 * k + j) = I 1076 (2720 * k + j)) (em : I2 1077 k = I 1077 k) : RIM I2 G2 k := by
  unfold RIM
  rw [hg, em]
  rcases h with h | ⟨h1, h2, h3⟩
  · exact Or.inl h
  · exact Or.inr ⟨h1, h2, (h3.fr en).to EqV.rf (imV_eq ei) (fun g => g)⟩
-- laws, the text, images
def LWQ (I : MI) : Prop := (I 0 14).toInt = (I 1000 28).toInt ∧ (I 0 14).toInt ≤ 6 ∧ ∀ j : Nat, (j : Int) < (I 0 14).toInt → LRL (lawC (200 + 10 * j) I) I j ∧ LWF (lawC (200 + 10 * j) I)
def TPQ (I : MI) : Prop := (I 0 15).toInt = (I 1000 24).toInt ∧ ∀ j : Nat, (j : Int) < (I 1000 24).toInt → I 3 j = I 1034 j
def IMQ (I : MI) (G : MG) : Prop := ∀ k, k < 4 → RIM I G k
theorem LWQ.ext {I I2 : MI} (h : LWQ I) (h14 : I2 0 14 = I 0 14) (h28 : I2 1000 28 = I 1000 28) (e2 : ∀ n, 200 ≤ n → n < 300 → I2 n = I n) (e3 : ∀ n, 1035 ≤ n → n ≤ 1041 → I2 n = I n) : LWQ I2 := by
  unfold LWQ
  rw [h14, h28]
  refine ⟨h.1, h.2.1, fun j hj => ?_⟩
  have hl : ∀ n, n < 6 → lawC (200 + 10 * j) I2 n = lawC (200 + 10 * j) I n := fun n hn => e2 (200 + 10 * j + n) (by omega) (by have := h.2.1; omega)
  have q := h.2.2 j hj
  exact ⟨(q.1.of e3).eqL hl, q.2.eq hl⟩
theorem TPQ.ext {I I2 : MI} (h : TPQ I) (h15 : I2 0 15 = I 0 15) (h24 : I2 1000 24 = I 1000 24) (h3 : I2 3 = I 3) (h34 : I2 1034 = I 1034) : TPQ I2 := by
  unfold TPQ
  rw [h15, h24, h3, h34]
  exact h
theorem IMQ.ext {I I2 : MI} {G G2 : MG} (h : IMQ I G) (hg : ∀ k, G2 1 k = G 1 k) (e1 : ∀ n, 120 ≤ n → n < 160 → I2 n = I n) (e2 : I2 1076 = I 1076) (e3 : I2 1077 = I 1077) : IMQ I2 G2 := fun k hk => (h k hk).ext (hg k) (fun n a b => e1 n (by omega) (by omega)) (fun j _ => by rw [e2]) (by rw [e3])
def RST (I : MI) (G : MG) : Prop := LWQ I ∧ TPQ I ∧ IMQ I G
def sen (n k : Nat) : Prop := (n = 0 ∧ (k = 14 ∨ k = 15)) ∨ n = 3 ∨ (120 ≤ n ∧ n < 160) ∨ (200 ≤ n ∧ n < 300) ∨ (n = 1000 ∧ (k = 24 ∨ k = 28)) ∨ (1034 ≤ n ∧ n ≤ 1041) ∨ n = 1076 ∨ n = 1077
def rokS (R P : List (Nat × Nat)) : Bool := R.all (fun r => decide (r.2 ≤ 0 ∨ (1 ≤ r.1 ∧ r.2 ≤ 3) ∨ (4 ≤ r.1 ∧ r.2 ≤ 120) ∨ (160 ≤ r.1 ∧ r.2 ≤ 200) ∨ (300 ≤ r.1 ∧ r.2 ≤ 1000) ∨ (1001 ≤ r.1 ∧ r.2 ≤ 1034) ∨ (1042 ≤ r.1 ∧ r.2 ≤ 1076) ∨ 1078 ≤ r.1)) && P.all (fun q => decide ((q.1 = 0 ∧ q.2 ≠ 14 ∧ q.2 ≠ 15) ∨ (1 ≤ q.1 ∧ q.1 < 3) ∨ (4 ≤ q.1 ∧ q.1 < 120) ∨ (160 ≤ q.1 ∧ q.1 < 200) ∨ (300 ≤ q.1 ∧ q.1 < 1000) ∨ (q.1 = 1000 ∧ q.2 ≠ 24 ∧ q.2 ≠ 28) ∨ (1001 ≤ q.1 ∧ q.1 < 1034) ∨ (1042 ≤ q.1 ∧ q.1 < 1076) ∨ 1078 ≤ q.1))
theorem kp_S {R P : List (Nat × Nat)} {I I2 : MI} (h : Kp R P I I2) (hc : rokS R P = true) : ∀ n k, sen n k → I2 n k = I n k := by
  intro n k hs
  unfold rokS at hc
  simp only [Bool.and_eq_true, List.all_eq_true, decide_eq_true_eq] at hc
  unfold sen at hs
  refine h n k ?_ ?_
  · cases hq : inR R n with
    | false => rfl
    | true =>
      exfalso
      obtain ⟨r, hr, hb⟩ := List.any_eq_true.mp hq
      have h1 := hc.1 r hr
      simp only [Bool.and_eq_true, decide_eq_true_eq] at hb
      omega
  · cases hq : P.contains (n, k) with
    | false => rfl
    | true =>
      exfalso
      have h3 : (n, k) ∈ P := by simpa using hq
      have h1 := hc.2 (n, k) h3
      simp only at h1
      omega
theorem RST.ext {I I2 : MI} {G G2 : MG} (h : RST I G) (e : ∀ n k, sen n k → I2 n k = I n k) (hg : ∀ k, G2 1 k = G 1 k) : RST I2 G2 := by
  have r : ∀ n, (∀ k, sen n k) → I2 n = I n := fun n hn => funext fun k => e n k (hn k)
  refine ⟨h.1.ext (e 0 14 (by unfold sen; omega)) (e 1000 28 (by unfold sen; omega)) (fun n a b => r n (fun k => by unfold sen; omega)) (fun n a b => r n (fun k => by unfold sen; omega)), h.2.1.ext (e 0 15 (by unfold sen; omega)) (e 1000 24 (by unfold sen; omega)) (r 3 (fun k => by unfold sen; omega)) (r 1034 (fun k => by unfold sen; omega)), h.2.2.ext hg (fun n a b => r n (fun k => by unfold sen; omega)) (r 1076 (fun k => by unfold sen; omega)) (r 1077 (fun k => by unfold sen; omega))⟩
theorem RST.kp {R P : List (Nat × Nat)} {I I2 : MI} {G G2 : MG} (h : RST I G) (hK : Kp R P I I2) (hc : rokS R P = true) (hg : ∀ k, G2 1 k = G 1 k) : RST I2 G2 := h.ext (kp_S hK hc) hg
def REL (I : MI) (G : MG) : Prop := TWK I 100 (live I) ∧ ((I 10 8).toInt = 0 ∧ (I 1000 59).toInt = 0) ∧ RST I G
