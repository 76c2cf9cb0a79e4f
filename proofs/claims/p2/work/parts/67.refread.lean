-- code of laws in the reference: how many values stand on the stack
def net (f g : Nat → Int32) : Nat → Nat → Nat → Nat → Prop
  | 0, _, n, n2 => n = n2
  | m + 1, j, n, n2 => ((f j).toInt = 0 → net f g m (j + 1) (n + 1) n2) ∧ ((f j).toInt = 1 → (0 ≤ (g j).toInt ∧ (g j).toInt ≤ 12) ∧ net f g m (j + 1) (n + 1) n2) ∧ ((f j).toInt = 9 → 1 ≤ n ∧ net f g m (j + 1) n n2) ∧ ((f j).toInt ≠ 0 ∧ (f j).toInt ≠ 1 ∧ (f j).toInt ≠ 9 → 2 ≤ n ∧ net f g m (j + 1) (n - 1) n2)
theorem net_add {f g : Nat → Int32} {m2 n1 n2 : Nat} : ∀ {m j n : Nat}, net f g m j n n1 → net f g m2 (j + m) n1 n2 → net f g (m + m2) j n n2 := by
  intro m
  induction m with
  | zero =>
    intro j n h1 h2
    simp only [net] at h1
    subst h1
    simpa using h2
  | succ m ih =>
    intro j n h1 h2
    rw [show m + 1 + m2 = (m + m2) + 1 from by omega]
    rw [show j + (m + 1) = j + 1 + m from by omega] at h2
    simp only [net] at h1 ⊢
    exact ⟨fun q => ih (h1.1 q) h2, fun q => ⟨(h1.2.1 q).1, ih (h1.2.1 q).2 h2⟩, fun q => ⟨(h1.2.2.1 q).1, ih (h1.2.2.1 q).2 h2⟩, fun q => ⟨(h1.2.2.2 q).1, ih (h1.2.2.2 q).2 h2⟩⟩
theorem net_mono {f g : Nat → Int32} {d : Nat} : ∀ {m j n n2 : Nat}, net f g m j n n2 → net f g m j (n + d) (n2 + d) := by
  intro m
  induction m with
  | zero =>
    intro j n n2 h
    simp only [net] at h ⊢
    omega
  | succ m ih =>
    intro j n n2 h
    simp only [net] at h ⊢
    refine ⟨fun q => ?_, fun q => ⟨(h.2.1 q).1, ?_⟩, fun q => ⟨by have := (h.2.2.1 q).1; omega, ih (h.2.2.1 q).2⟩, fun q => ?_⟩
    · have := ih (h.1 q)
      rwa [show n + 1 + d = n + d + 1 from by omega] at this
    · have := ih (h.2.1 q).2
      rwa [show n + 1 + d = n + d + 1 from by omega] at this
    · have h1 := (h.2.2.2 q).1
      have := ih (h.2.2.2 q).2
      rw [show n - 1 + d = n + d - 1 from by omega] at this
      exact ⟨by omega, this⟩
theorem net_ext {f g f2 g2 : Nat → Int32} : ∀ {m j n n2 : Nat}, (∀ i, j ≤ i → i < j + m → f2 i = f i ∧ g2 i = g i) → net f g m j n n2 → net f2 g2 m j n n2 := by
  intro m
  induction m with
  | zero => intro j n n2 _ h; exact h
  | succ m ih =>
    intro j n n2 he h
    have e0 := he j (by omega) (by omega)
    have e1 : ∀ i, j + 1 ≤ i → i < j + 1 + m → f2 i = f i ∧ g2 i = g i := fun i h1 h2 => he i (by omega) (by omega)
    simp only [net] at h ⊢
    rw [e0.1, e0.2]
    exact ⟨fun q => ih e1 (h.1 q), fun q => ⟨(h.2.1 q).1, ih e1 (h.2.1 q).2⟩, fun q => ⟨(h.2.2.1 q).1, ih e1 (h.2.2.1 q).2⟩, fun q => ⟨(h.2.2.2 q).1, ih e1 (h.2.2.2 q).2⟩⟩
theorem net_st {f g : Nat → Int32} {m j n n2 : Nat} (h : net f g m j n n2) (hm : 0 < m) : ((f j).toInt = 0 → net f g (m - 1) (j + 1) (n + 1) n2) ∧ ((f j).toInt = 1 → (0 ≤ (g j).toInt ∧ (g j).toInt ≤ 12) ∧ net f g (m - 1) (j + 1) (n + 1) n2) ∧ ((f j).toInt = 9 → 1 ≤ n ∧ net f g (m - 1) (j + 1) n n2) ∧ ((f j).toInt ≠ 0 ∧ (f j).toInt ≠ 1 ∧ (f j).toInt ≠ 9 → 2 ≤ n ∧ net f g (m - 1) (j + 1) (n - 1) n2) := by
  obtain ⟨k, rfl⟩ : ∃ k, m = k + 1 := ⟨m - 1, by omega⟩
  exact h
-- from store to store: the code before stays, what comes is well made
def CT (I I2 : MI) (n n2 : Nat) : Prop := (∀ j : Nat, (j : Int) < 300 * (I 1000 27).toInt + (I 1000 29).toInt → I2 1035 j = I 1035 j ∧ I2 1036 j = I 1036 j) ∧ ((I2 1000 26).toInt = 0 → net (I2 1035) (I2 1036) ((I2 1000 29).toInt - (I 1000 29).toInt).toNat (300 * (I 1000 27).toInt + (I 1000 29).toInt).toNat n n2)
theorem CT.rf (I : MI) (n : Nat) : CT I I n n := ⟨fun _ _ => ⟨rfl, rfl⟩, fun _ => by rw [show ((I 1000 29).toInt - (I 1000 29).toInt).toNat = 0 from by omega]; rfl⟩
theorem CT.mono {I I2 : MI} {n n2 : Nat} (h : CT I I2 n n2) (d : Nat) : CT I I2 (n + d) (n2 + d) := ⟨h.1, fun q => net_mono (h.2 q)⟩
theorem CT.link {I J I2 : MI} {n n2 : Nat} (h : CT I J n n2) (h35 : I2 1035 = J 1035) (h36 : I2 1036 = J 1036) (h29 : (I2 1000 29).toInt = (J 1000 29).toInt) (hf : (I2 1000 26).toInt = 0 → (J 1000 26).toInt = 0) : CT I I2 n n2 := ⟨fun j hj => by rw [h35, h36]; exact h.1 j hj, fun q => by rw [h35, h36, h29]; exact h.2 (hf q)⟩
theorem CT.comp {I J I2 : MI} {n n1 n2 : Nat} (h : CT I J n n1) (h2 : CT J I2 n1 n2) (hs : (J 1000 27).toInt = (I 1000 27).toInt) (h0 : 0 ≤ (I 1000 27).toInt ∧ 0 ≤ (I 1000 29).toInt) (he : (I 1000 29).toInt ≤ (J 1000 29).toInt) (he2 : (J 1000 29).toInt ≤ (I2 1000 29).toInt) (hf : (I2 1000 26).toInt = 0 → (J 1000 26).toInt = 0) : CT I I2 n n2 := by
  refine ⟨fun j hj => ?_, fun q => ?_⟩
  · have h3 := h2.1 j (by omega)
    have h4 := h.1 j hj
    rw [h3.1, h3.2]
    exact h4
  · have h3 := h2.2 q
    have h4 := h.2 (hf q)
    have h5 : net (I2 1035) (I2 1036) ((J 1000 29).toInt - (I 1000 29).toInt).toNat (300 * (I 1000 27).toInt + (I 1000 29).toInt).toNat n n1 := net_ext (fun i h6 h7 => h2.1 i (by omega)) h4
    have h6 := net_add (m2 := ((I2 1000 29).toInt - (J 1000 29).toInt).toNat) (n2 := n2) h5 (by rw [show (300 * (I 1000 27).toInt + (I 1000 29).toInt).toNat + ((J 1000 29).toInt - (I 1000 29).toInt).toNat = (300 * (J 1000 27).toInt + (J 1000 29).toInt).toNat from by omega]; exact h3)
    rw [show ((J 1000 29).toInt - (I 1000 29).toInt).toNat + ((I2 1000 29).toInt - (J 1000 29).toInt).toNat = ((I2 1000 29).toInt - (I 1000 29).toInt).toNat from by omega] at h6
    exact h6
-- one entry more
def ENT (I I2 : MI) (a b : Int32) : Prop := ∀ j : Nat, (I2 1035 j = if (I 1000 26).toInt = 0 ∧ (j : Int) = 300 * (I 1000 27).toInt + (I 1000 29).toInt then a else I 1035 j) ∧ (I2 1036 j = if (I 1000 26).toInt = 0 ∧ (j : Int) = 300 * (I 1000 27).toInt + (I 1000 29).toInt then b else I 1036 j)
theorem ENT.ct {I I2 : MI} {a b : Int32} {n n2 : Nat} (h : ENT I I2 a b) (h0 : 0 ≤ (I 1000 27).toInt ∧ 0 ≤ (I 1000 29).toInt) (hf : (I2 1000 26).toInt = (I 1000 26).toInt) (he : (I 1000 26).toInt = 0 → (I2 1000 29).toInt = (I 1000 29).toInt + 1) (hq : (a.toInt = 0 → n2 = n + 1) ∧ (a.toInt = 1 → (0 ≤ b.toInt ∧ b.toInt ≤ 12) ∧ n2 = n + 1) ∧ (a.toInt = 9 → 1 ≤ n ∧ n2 = n) ∧ (a.toInt ≠ 0 ∧ a.toInt ≠ 1 ∧ a.toInt ≠ 9 → 2 ≤ n ∧ n2 = n - 1)) : CT I I2 n n2 := by
  refine ⟨fun j hj => ?_, fun q => ?_⟩
  · have := h j
    rw [if_neg (by omega), if_neg (by omega)] at this
    exact this
  · have q0 : (I 1000 26).toInt = 0 := by omega
    have h1 := h (300 * (I 1000 27).toInt + (I 1000 29).toInt).toNat
    rw [if_pos ⟨q0, by omega⟩, if_pos ⟨q0, by omega⟩] at h1
    rw [show ((I2 1000 29).toInt - (I 1000 29).toInt).toNat = 0 + 1 from by have := he q0; omega]
    simp only [net]
    rw [h1.1, h1.2]
    exact ⟨fun z => (hq.1 z).symm, fun z => ⟨(hq.2.1 z).1, (hq.2.1 z).2.symm⟩, fun z => ⟨(hq.2.2.1 z).1, (hq.2.2.1 z).2.symm⟩, fun z => ⟨(hq.2.2.2 z).1, (hq.2.2.2 z).2.symm⟩⟩
-- what waits on the stack of signs
def sk (P : Int32 → Nat) (f : Nat → Int32) : Nat → Nat
  | 0 => 0
  | k + 1 => sk P f k + P (f k)
theorem sk_ext {P : Int32 → Nat} {f f2 : Nat → Int32} : ∀ {k : Nat}, (∀ i, i < k → f2 i = f i) → sk P f2 k = sk P f k := by
  intro k
  induction k with
  | zero => intro _; rfl
  | succ k ih =>
    intro h
    rw [sk, sk, h k (by omega), ih (fun i hi => h i (by omega))]
def pN (v : Int32) : Nat := if v.toInt = 9 ∨ v.toInt = 10 ∨ v.toInt = 11 then 1 else 0
def pB (v : Int32) : Nat := if v.toInt = 10 ∨ v.toInt = 11 then 1 else 0
def NS (I : MI) : Nat := sk pN (I 1042) (I 1000 32).toNatClampNeg
def NB (I : MI) : Nat := sk pB (I 1042) (I 1000 32).toNatClampNeg
theorem NS_of {I I2 : MI} (h : I2 1042 = I 1042) (h2 : (I2 1000 32).toInt = (I 1000 32).toInt) : NS I2 = NS I ∧ NB I2 = NB I := by
  have := Int32.toInt_inj.mp h2
  simp only [NS, NB, h, this]
  exact ⟨rfl, rfl⟩
theorem NS_0 {I : MI} (h : (I 1000 32).toInt = 0) : NS I = 0 ∧ NB I = 0 := by
  have : (I 1000 32).toNatClampNeg = 0 := by
    have := tn (i := I 1000 32) (by omega)
    omega
  simp only [NS, NB, this, sk]
  exact ⟨rfl, rfl⟩
theorem NS_push {I I2 : MI} {k : Int32} (h : ∀ j, I2 1042 j = if j = (I 1000 32).toNatClampNeg then k else I 1042 j) (h0 : 0 ≤ (I 1000 32).toInt) (h2 : (I2 1000 32).toInt = (I 1000 32).toInt + 1) : NS I2 = NS I + pN k ∧ NB I2 = NB I + pB k := by
  have t1 := tn h0
  have t2 := tn (i := I2 1000 32) (by omega)
  have e : (I2 1000 32).toNatClampNeg = (I 1000 32).toNatClampNeg + 1 := by omega
  have hk := h (I 1000 32).toNatClampNeg
  rw [if_pos rfl] at hk
  have hr : ∀ i, i < (I 1000 32).toNatClampNeg → I2 1042 i = I 1042 i := fun i hi => by rw [h i, if_neg (by omega)]
  simp only [NS, NB, e, sk, hk, sk_ext hr]
  exact ⟨rfl, rfl⟩
theorem NS_pop {I I2 : MI} (h : I2 1042 = I 1042) (h0 : 0 < (I 1000 32).toInt) (h2 : (I2 1000 32).toInt = (I 1000 32).toInt - 1) : NS I = NS I2 + pN (I 1042 (I2 1000 32).toNatClampNeg) ∧ NB I = NB I2 + pB (I 1042 (I2 1000 32).toNatClampNeg) := by
  have t1 := tn (i := I 1000 32) (by omega)
  have t2 := tn (i := I2 1000 32) (by omega)
  have e : (I 1000 32).toNatClampNeg = (I2 1000 32).toNatClampNeg + 1 := by omega
  simp only [NS, NB, e, sk, h]
  exact ⟨rfl, rfl⟩
theorem pN_v {k : Int32} : (k.toInt = 9 → pN k = 1 ∧ pB k = 0) ∧ (k.toInt = 10 ∨ k.toInt = 11 → pN k = 1 ∧ pB k = 1) ∧ (k.toInt = 12 → pN k = 0 ∧ pB k = 0) := by
  refine ⟨fun h => ?_, fun h => ?_, fun h => ?_⟩
  · simp [pN, pB, h]
  · rcases h with h | h <;> simp [pN, pB, h]
  · simp [pN, pB, h]
-- clauses and laws
def CLr (I : MI) (r c : Nat) (t : Int) : Prop := (I 1040 c).toInt ≤ t ∧ (I 1041 c).toInt ≤ t ∧ (∃ d, net (I 1035) (I 1036) ((I 1040 c).toInt - (I 1039 c).toInt).toNat (300 * (r : Int) + (I 1039 c).toInt).toNat 0 d) ∧ ∃ d, net (I 1035) (I 1036) ((I 1041 c).toInt - (I 1040 c).toInt).toNat (300 * (r : Int) + (I 1040 c).toInt).toNat 0 d
theorem CLr.ext {I I2 : MI} {r c : Nat} {t t2 : Int} (h : CLr I r c t) (hI : INV I) (ht : t ≤ t2) (h39 : I2 1039 c = I 1039 c) (h40 : I2 1040 c = I 1040 c) (h41 : I2 1041 c = I 1041 c) (hc : ∀ j : Nat, (j : Int) < 300 * (r : Int) + t → I2 1035 j = I 1035 j ∧ I2 1036 j = I 1036 j) : CLr I2 r c t2 := by
  obtain ⟨h1, h2, ⟨d, h3⟩, d2, h4⟩ := h
  have g1 := hI.get 1039 c (lo := 0) (hi := 300) rfl
  have g2 := hI.get 1040 c (lo := 0) (hi := 300) rfl
  refine ⟨by rw [h40]; omega, by rw [h41]; omega, ⟨d, ?_⟩, d2, ?_⟩
  · rw [h40, h39]
    exact net_ext (fun i h6 h7 => hc i (by omega)) h3
  · rw [h41, h40]
    exact net_ext (fun i h6 h7 => hc i (by omega)) h4
def LWR (I : MI) (r : Nat) : Prop := r < 6 ∧ 0 ≤ (I 1037 r).toInt ∧ (I 1037 r).toInt ≤ 12 ∧ ∀ i : Nat, (i : Int) < (I 1037 r).toInt → CLr I r (12 * r + i) 300
def LWM (I : MI) : Prop := ∀ r : Nat, (r : Int) < (I 1000 28).toInt → LWR I r
theorem LWR.of {I I2 : MI} {r : Nat} (h : LWR I r) (h35 : I2 1035 = I 1035) (h36 : I2 1036 = I 1036) (h37 : I2 1037 = I 1037) (h39 : I2 1039 = I 1039) (h40 : I2 1040 = I 1040) (h41 : I2 1041 = I 1041) : LWR I2 r := by
  unfold LWR CLr
  rw [h35, h36, h37, h39, h40, h41]
  exact h
theorem LWR.kp {R P : List (Nat × Nat)} {I I2 : MI} {r : Nat} (h : LWR I r) (hK : Kp R P I I2) (hc : ([1035, 1036, 1037, 1039, 1040, 1041].all (fun n => !(inR R n || P.any (fun q => q.1 == n)))) = true) : LWR I2 r := by
  simp only [List.all_cons, List.all_nil, Bool.and_true, Bool.and_eq_true, Bool.not_eq_true'] at hc
  obtain ⟨h1, h2, h3, h4, h5, h6⟩ := hc
  exact h.of (hK.getA _ h1) (hK.getA _ h2) (hK.getA _ h3) (hK.getA _ h4) (hK.getA _ h5) (hK.getA _ h6)
theorem LWM.kp {R P : List (Nat × Nat)} {I I2 : MI} (h : LWM I) (hK : Kp R P I I2) (hc : ([1035, 1036, 1037, 1039, 1040, 1041].all (fun n => !(inR R n || P.any (fun q => q.1 == n)))) = true) (h28 : (inR R 1000 || P.contains (1000, 28)) = false) : LWM I2 := by
  intro r hr
  rw [hK.get 1000 28 h28] at hr
  exact (h r hr).kp hK hc
theorem CT.mono0 {I I2 : MI} {n2 : Nat} (h : CT I I2 0 n2) (d : Nat) : CT I I2 d (n2 + d) := by
  have := h.mono d
  rwa [Nat.zero_add] at this
theorem sk_top {P : Int32 → Nat} {f : Nat → Int32} {k : Nat} (h : 0 < k) : sk P f k = sk P f (k - 1) + P (f (k - 1)) := by
  obtain ⟨m, rfl⟩ : ∃ m, k = m + 1 := ⟨k - 1, by omega⟩
  rfl
theorem top_k {I : MI} {r k : Int32} (x : ((I 1000 32).toInt = 0 ∧ r = -1) ∨ (0 < (I 1000 32).toInt ∧ r = I 1042 ((I 1000 32).toNatClampNeg - 1))) (e : r = k) (hk : 0 ≤ k.toInt) : 0 < (I 1000 32).toInt ∧ I 1042 ((I 1000 32).toNatClampNeg - 1) = k ∧ pB k ≤ NB I ∧ pN k ≤ NS I := by
  subst e
  rcases x with ⟨h1, h2⟩ | ⟨h1, h2⟩
  · rw [h2] at hk
    exact absurd hk (by decide)
  · have t1 := tn (i := I 1000 32) (by omega)
    refine ⟨h1, h2.symm, ?_, ?_⟩
    · unfold NB
      rw [sk_top (by omega), ← h2]
      omega
    · unfold NS
      rw [sk_top (by omega), ← h2]
      omega
theorem pop_k {I I2 : MI} {k : Int32} (h0 : 0 < (I 1000 32).toInt) (hk : I 1042 ((I 1000 32).toNatClampNeg - 1) = k) (h42 : I2 1042 = I 1042) (h32 : (I2 1000 32).toInt = (I 1000 32).toInt - 1) : NS I = NS I2 + pN k ∧ NB I = NB I2 + pB k := by
  have t1 := tn (i := I 1000 32) (by omega)
  have t2 := tn (i := I2 1000 32) (by omega)
  have := NS_pop h42 h0 h32
  rw [show (I2 1000 32).toNatClampNeg = (I 1000 32).toNatClampNeg - 1 from by omega, hk] at this
  exact this
theorem NS_pushU {I Ix : MI} {k w : Int32} (ha : Ix 1042 = I 1042) (h0 : 0 ≤ (I 1000 32).toInt) (hw : w.toInt = (I 1000 32).toInt + 1) : NS (u2 (u2 Ix 1042 (I 1000 32).toNatClampNeg k) 1000 32 w) = NS I + pN k ∧ NB (u2 (u2 Ix 1042 (I 1000 32).toNatClampNeg k) 1000 32 w) = NB I + pB k := by
  refine NS_push (fun j => ?_) h0 (by rw [u2_self]; exact hw)
  rw [u2_v, if_neg (by simp), u2_v, ha]
  by_cases hq : j = (I 1000 32).toNatClampNeg
  · rw [if_pos ⟨rfl, hq⟩, if_pos hq]
  · rw [if_neg (by simp [hq]), if_neg hq]
-- a clause made
theorem CLr.mk {A B C D Z : MI} {r c : Nat} {d : Nat} (hs : CT A B 0 1) (ht : CT C D 0 d) (hC : C 1035 = B 1035 ∧ C 1036 = B 1036 ∧ (C 1000 29).toInt = (B 1000 29).toInt ∧ (C 1000 27).toInt = r) (hA : (A 1000 27).toInt = r ∧ 0 ≤ (A 1000 29).toInt ∧ (A 1000 29).toInt ≤ (B 1000 29).toInt) (hZ : Z 1035 = D 1035 ∧ Z 1036 = D 1036) (hE : (C 1000 29).toInt ≤ (D 1000 29).toInt) (hf : (B 1000 26).toInt = 0 ∧ (D 1000 26).toInt = 0) (h39 : (Z 1039 c).toInt = (A 1000 29).toInt) (h40 : (Z 1040 c).toInt = (B 1000 29).toInt) (h41 : (Z 1041 c).toInt = (D 1000 29).toInt) : CLr Z r c (D 1000 29).toInt := by
  refine ⟨by omega, by omega, ⟨1, ?_⟩, d, ?_⟩
  · have h1 := hs.2 hf.1
    rw [h39, h40, hZ.1, hZ.2]
    rw [← hC.1, ← hC.2.1, hA.1] at h1
    exact net_ext (fun i h6 h7 => ht.1 i (by omega)) h1
  · have h1 := ht.2 hf.2
    rw [h40, h41, hZ.1, hZ.2]
    rw [hC.2.2.1, hC.2.2.2] at h1
    exact h1
theorem dX10_sign_0 : decode cX10_sign 0 = .ok (.aload_n 0, 1) := by decide +kernel
theorem dX10_sign_1 : decode cX10_sign 1 = .ok (.getfield 267, 3) := by decide +kernel
theorem dX10_sign_4 : decode cX10_sign 4 = .ok (.aload_n 0, 1) := by decide +kernel
theorem dX10_sign_5 : decode cX10_sign 5 = .ok (.getfield 232, 3) := by decide +kernel
theorem dX10_sign_8 : decode cX10_sign 8 = .ok (.if_icmp .ge 19, 3) := by decide +kernel
theorem dX10_sign_11 : decode cX10_sign 11 = .ok (.aload_n 0, 1) := by decide +kernel
theorem dX10_sign_12 : decode cX10_sign 12 = .ok (.getfield 83, 3) := by decide +kernel
theorem dX10_sign_15 : decode cX10_sign 15 = .ok (.aload_n 0, 1) := by decide +kernel
theorem dX10_sign_16 : decode cX10_sign 16 = .ok (.getfield 267, 3) := by decide +kernel
theorem dX10_sign_19 : decode cX10_sign 19 = .ok (.baload, 1) := by decide +kernel
theorem dX10_sign_20 : decode cX10_sign 20 = .ok (.sipush 255, 3) := by decide +kernel
theorem dX10_sign_23 : decode cX10_sign 23 = .ok (.iand, 1) := by decide +kernel
theorem dX10_sign_24 : decode cX10_sign 24 = .ok (.goto 4, 3) := by decide +kernel
theorem dX10_sign_27 : decode cX10_sign 27 = .ok (.iconst (-1), 1) := by decide +kernel
theorem dX10_sign_28 : decode cX10_sign 28 = .ok (.ireturn, 1) := by decide +kernel
theorem ce_X10_sign : CeV RX10 yX10_sign cX10_sign 1 (some .int) 0 := ⟨tb_1512, tp_63, tb_11, tb_1513, rfl, by decide, by decide, by decide +kernel⟩
set_option maxHeartbeats 4000000 in
set_option maxRecDepth 20000 in
theorem V_X10_sign (l : Launch) (D : va_G) (A : Nat → Prop) (ad : Nat → Nat) (ns : List Nat) (I : MI) (L : ML) (G : MG) (hJ : SGM ns G) (hI : INV I) : Met l yX10_sign (wd yX10_sign cX10_sign 1 (some .int)) ({ frames := 0, cells := 0, slots := 0, locals := 0 }) (va_Pc [.ref (ad (1000))] (PM D A ad ns I L G)) (va_Qi (fun r u => u = (ad, ns, I, L, G) ∧ ((r.toInt = -1 ∧ (I 1000 24).toInt ≤ (I 1000 25).toInt) ∨ ((I 1000 25).toInt < (I 1000 24).toInt ∧ 0 ≤ r.toInt ∧ r.toInt ≤ 255))) (BM D A) A) 0 0 A := by
  refine m_ofW (by decide) (Nat.le_of_ble_eq_true rfl) ?_
  intro p e s m below meth c ls args hC hE hM hA hS hl
  obtain ⟨hx, hb, hml, hown, hts, hr, hlocks, hin⟩ := hC
  have km1 : (-1 : Int32).toInt = -1 := by decide
  have k0 : (0 : Int32).toInt = 0 := by decide
  have k255 : (255 : Int32).toInt = 255 := by decide
  have hl : lv_has ls 1 [(0, .ref (ad (1000)))] := hl
  refine lv_aload_n hx hb dX10_sign_0 rfl (lv_at hl 0 rfl) ?_
  refine m_geti (1000) 25 hx hb hts hown hE oc10 hM hJ.1 rfl (by decide) rfl tb_1202 dX10_sign_1 ?_
  have g1 := hI.get (1000) 25 (lo := 0) (hi := 100000) rfl
  refine lv_aload_n hx hb dX10_sign_4 rfl (lv_at hl 0 rfl) ?_
  refine m_geti (1000) 24 hx hb hts hown hE oc10 hM hJ.1 rfl (by decide) rfl tb_1201 dX10_sign_5 ?_
  have g2 := hI.get (1000) 24 (lo := 0) (hi := 400) rfl
  refine lv_icmp_ge (tgt := 27) hx hb dX10_sign_8 (by decide) (fun c3 => ?_) (fun c3 => ?_)
  · have hc3 := c3
    have q3 := q_le hc3
    refine lv_iconst (v := (-1)) hx hb dX10_sign_27 (by decide) ?_
    exact m_iret hx hb hr hlocks hM hS (Nat.le_of_ble_eq_true rfl) (Nat.le_of_ble_eq_true rfl) ⟨rfl, (by first | omega | decide)⟩ dX10_sign_28
  · have hc3 := c3
    have q3 := q_nle hc3
    refine lv_aload_n hx hb dX10_sign_11 rfl (lv_at hl 0 rfl) ?_
    refine m_getr (1000) 34 (1034) hx hb hts hown hE oc10 hM hJ.1 rfl (by decide) rfl (hJ.2 34 (by decide)).2 (by decide) tb_1211 dX10_sign_12 ?_
    refine lv_aload_n hx hb dX10_sign_15 rfl (lv_at hl 0 rfl) ?_
    refine m_geti (1000) 25 hx hb hts hown hE oc10 hM hJ.1 rfl (by decide) rfl tb_1202 dX10_sign_16 ?_
    refine m_bald (1034) hx hb hE hM (hJ.2 34 (by decide)).1 rfl (vp_in_iff.mpr (by omega)) dX10_sign_19 ?_
    refine lv_sipush (v := (255)) hx hb dX10_sign_20 (by decide) ?_
    refine lv_iand hx hb dX10_sign_23 ?_
    refine lv_topi (fun v4 ev4 => ?_)
    have tv4 := a_and (c := 255) ev4 (by decide) (by decide)
    refine lv_goto (tgt := 28) hx hb dX10_sign_24 (by decide) ?_
    exact m_iret hx hb hr hlocks hM hS (Nat.le_of_ble_eq_true rfl) (Nat.le_of_ble_eq_true rfl) ⟨rfl, (by first | omega | decide)⟩ dX10_sign_28
theorem dX10_blanks_0 : decode cX10_blanks 0 = .ok (.aload_n 0, 1) := by decide +kernel
theorem dX10_blanks_1 : decode cX10_blanks 1 = .ok (.invokevirtual 270, 3) := by decide +kernel
theorem dX10_blanks_4 : decode cX10_blanks 4 = .ok (.bipush 32, 2) := by decide +kernel
theorem dX10_blanks_6 : decode cX10_blanks 6 = .ok (.if_icmp .ne 16, 3) := by decide +kernel
theorem dX10_blanks_9 : decode cX10_blanks 9 = .ok (.aload_n 0, 1) := by decide +kernel
theorem dX10_blanks_10 : decode cX10_blanks 10 = .ok (.dup, 1) := by decide +kernel
theorem dX10_blanks_11 : decode cX10_blanks 11 = .ok (.getfield 267, 3) := by decide +kernel
theorem dX10_blanks_14 : decode cX10_blanks 14 = .ok (.iconst 1, 1) := by decide +kernel
theorem dX10_blanks_15 : decode cX10_blanks 15 = .ok (.iadd, 1) := by decide +kernel
theorem dX10_blanks_16 : decode cX10_blanks 16 = .ok (.putfield 267, 3) := by decide +kernel
theorem dX10_blanks_19 : decode cX10_blanks 19 = .ok (.goto (-19), 3) := by decide +kernel
theorem dX10_blanks_22 : decode cX10_blanks 22 = .ok (.return_, 1) := by decide +kernel
theorem ce_X10_blanks : CeV RX10 yX10_blanks cX10_blanks 1 none 0 := ⟨tb_1508, tp_62, tb_11, tb_1509, rfl, by decide, by decide, by decide +kernel⟩
set_option maxHeartbeats 4000000 in
set_option maxRecDepth 20000 in
theorem V_X10_blanks (l : Launch) (D : va_G) (A : Nat → Prop) (ad : Nat → Nat) (ns : List Nat) (I : MI) (L : ML) (G : MG) (hJ : SGM ns G) (hI : INV I) : Met l yX10_blanks (wd yX10_blanks cX10_blanks 1 none) ({ frames := 1, cells := 0, slots := 0, locals := 20 }) (va_Pc [.ref (ad (1000))] (PM D A ad ns I L G)) (va_Qv (fun u => ∃ I2 L2, u = (ad, ns, I2, L2, G) ∧ INV I2 ∧ Kp [] [(1000, 25)] I I2 ∧ ((I 1000 25).toInt ≤ (I2 1000 25).toInt ∧ ((I2 1000 25).toInt = (I 1000 25).toInt ∨ (I2 1000 25).toInt ≤ 400))) (BM D A) A) 0 0 A := by
  refine m_ofW (by decide) (Nat.le_of_ble_eq_true rfl) ?_
  intro p e s m below meth c ls args hC hE hM hA hS hl
  obtain ⟨hx, hb, hml, hown, hts, hr, hlocks, hin⟩ := hC
  have k0 : (0 : Int32).toInt = 0 := by decide
  have k1 : (1 : Int32).toInt = 1 := by decide
  have k32 : (32 : Int32).toInt = 32 := by decide
  have hK : Kp [] [(1000, 25)] I I := Kp.rf
  have hl : lv_has ls 1 [(0, .ref (ad (1000)))] := hl
  have loop0 : ∀ (n : Nat)  (Ia0 : MI) (La0 : ML) (H : Heap) (locs : List Loc) (ls : Array Slot), INV Ia0 → Kp [] [(1000, 25)] I Ia0 → ((I 1000 25).toInt ≤ (Ia0 1000 25).toInt ∧ ((Ia0 1000 25).toInt = (I 1000 25).toInt ∨ (Ia0 1000 25).toInt ≤ 400)) → (400 - (Ia0 1000 25).toInt).toNat < n → Mem D A ad ns Ia0 La0 G H → va_S A s.heap H locs → lv_has ls 1 [(0, .ref (ad (1000)))] → W p l e ({ frames := 1, cells := 0, slots := 0, locals := 20 } : Room) s m args below meth c H locs 0 0 (MQ below (va_Qv (fun u => ∃ I2 L2, u = (ad, ns, I2, L2, G) ∧ INV I2 ∧ Kp [] [(1000, 25)] I I2 ∧ ((I 1000 25).toInt ≤ (I2 1000 25).toInt ∧ ((I2 1000 25).toInt = (I 1000 25).toInt ∨ (I2 1000 25).toInt ≤ 400))) (BM D A) A) args s 0 0 A) (F0 m 0 ls []) := by
    intro n
    induction n with
    | zero =>
      intro  Ia0 La0 H locs ls hI hK hpg hmu
      exact absurd hmu (Nat.not_lt_zero _)
    | succ n ih0 =>
      intro  Ia0 La0 H locs ls hI hK hpg hmu0 hM hS hl
      refine lv_aload_n hx hb dX10_blanks_0 rfl (lv_at hl 0 rfl) ?_
      refine m_calli (m_runV (1000) (As := []) (rest := []) hx hb hml hown hts hE hM hS hA ce_X10_sign tb_1510 (V_X10_sign l D A ad ns Ia0 La0 G hJ hI) rfl rfl ⟨Nat.le_of_ble_eq_true rfl, Nat.le_of_ble_eq_true rfl⟩ hJ.1 rfl rfl (by decide) rfl hl.1 rfl (Nat.le_of_ble_eq_true rfl) dX10_blanks_1 ⟨Nat.le_of_ble_eq_true rfl, Nat.le_of_ble_eq_true rfl⟩) hS (fun r1 u H locs hw hM hS => ?_)
      obtain ⟨rfl, xr1⟩ := hw
      have hM : Mem D A ad ns Ia0 La0 G H := hM
      have g2 := hI.get 1000 24 (lo := 0) (hi := 400) rfl
      have g3 := hI.get 1000 25 (lo := 0) (hi := 100000) rfl
      refine lv_bipush (v := (32)) hx hb dX10_blanks_4 (by decide) ?_
      refine lv_icmp_ne (tgt := 22) hx hb dX10_blanks_6 (by decide) (fun c4 => ?_) (fun c4 => ?_)
      · have hc4 := c4
        have q4 := q_ne hc4
        exact m_vret hx hb hr hlocks hM hS (Nat.le_of_ble_eq_true rfl) (Nat.le_of_ble_eq_true rfl) ⟨_, _, rfl, hI, hK, (by omega)⟩ dX10_blanks_22
      · have hc4 := c4
        have q4 := q_eq hc4
        refine lv_aload_n hx hb dX10_blanks_9 rfl (lv_at hl 0 rfl) ?_
        refine lv_dup hx hb dX10_blanks_10 rfl ?_
        refine m_geti (1000) 25 hx hb hts hown hE oc10 hM hJ.1 rfl (by decide) rfl tb_1202 dX10_blanks_11 ?_
        have g5 := hI.get (1000) 25 (lo := 0) (hi := 100000) rfl
        refine lv_iconst (v := (1)) hx hb dX10_blanks_14 (by decide) ?_
        refine lv_iadd hx hb dX10_blanks_15 ?_
        refine lv_topi (fun v6 ev6 => ?_)
        have tv6 := a_add ev6 (by omega) (by omega)
        refine m_puti (1000) 25 hx hb hts hown hE oc10 hM hS hJ.1 rfl (by decide) rfl rfl rfl rfl tb_1202 dX10_blanks_16 (fun H locs I7 eI7 hM hS => ?_)
        subst eI7
        have hI := hI.put (n := 1000) (k := 25) (v := v6) (lo := 0) (hi := 100000) rfl (by first | omega | decide)
        have hK := hK.put (n := 1000) (k := 25) (v := v6) (by first | rfl | simp [inR])
        refine lv_goto (tgt := 0) hx hb dX10_blanks_19 (by decide) ?_
        have tr100025 : ((u2 Ia0 (1000) 25 (v6)) (1000) 25).toInt = (v6 : Int32).toInt := congrArg Int32.toInt ((show (u2 Ia0 (1000) 25 (v6)) (1000) 25 = v6 from by simp [u2_v]))
        exact ih0  (u2 Ia0 (1000) 25 (v6)) La0 _ _ ls hI hK (by omega) (by omega) hM hS (lv_sub hl [0] rfl)
  exact loop0 (_ + 1)  I L _ _ ls hI hK (by omega) (Nat.lt_succ_self _) hM hS (lv_sub hl [0] rfl)
theorem dX10_isDigit_0 : decode cX10_isDigit 0 = .ok (.aload_n 0, 1) := by decide +kernel
theorem dX10_isDigit_1 : decode cX10_isDigit 1 = .ok (.invokevirtual 270, 3) := by decide +kernel
theorem dX10_isDigit_4 : decode cX10_isDigit 4 = .ok (.i2l, 1) := by decide +kernel
theorem dX10_isDigit_5 : decode cX10_isDigit 5 = .ok (.ldc2_w 274, 3) := by decide +kernel
theorem dX10_isDigit_8 : decode cX10_isDigit 8 = .ok (.ldc2_w 276, 3) := by decide +kernel
theorem dX10_isDigit_11 : decode cX10_isDigit 11 = .ok (.invokestatic 192, 3) := by decide +kernel
theorem dX10_isDigit_14 : decode cX10_isDigit 14 = .ok (.ireturn, 1) := by decide +kernel
theorem ce_X10_isDigit : CeV RX10 yX10_isDigit cX10_isDigit 1 (some .boolean) 0 := ⟨tb_1531, tp_67, tb_11, tb_1532, rfl, by decide, by decide, by decide +kernel⟩
set_option maxHeartbeats 4000000 in
set_option maxRecDepth 20000 in
theorem V_X10_isDigit (l : Launch) (D : va_G) (A : Nat → Prop) (ad : Nat → Nat) (ns : List Nat) (I : MI) (L : ML) (G : MG) (hJ : SGM ns G) (hI : INV I) : Met l yX10_isDigit (wd yX10_isDigit cX10_isDigit 1 (some .boolean)) ({ frames := 1, cells := 0, slots := 0, locals := 25 }) (va_Pc [.ref (ad (1000))] (PM D A ad ns I L G)) (va_Qi (fun r u => u = (ad, ns, I, L, G) ∧ ((r.toInt = 0 ∨ (I 1000 25).toInt < (I 1000 24).toInt) ∧ 0 ≤ r.toInt ∧ r.toInt ≤ 1)) (BM D A) A) 0 0 A := by
  refine m_ofW (by decide) (Nat.le_of_ble_eq_true rfl) ?_
  intro p e s m below meth c ls args hC hE hM hA hS hl
  obtain ⟨hx, hb, hml, hown, hts, hr, hlocks, hin⟩ := hC
  have k0 : (0 : Int32).toInt = 0 := by decide
  have kl48 : (48 : Int64).toInt = 48 := by decide
  have kl57 : (57 : Int64).toInt = 57 := by decide
  have hl : lv_has ls 1 [(0, .ref (ad (1000)))] := hl
  refine lv_aload_n hx hb dX10_isDigit_0 rfl (lv_at hl 0 rfl) ?_
  refine m_calli (m_runV (1000) (As := []) (rest := []) hx hb hml hown hts hE hM hS hA ce_X10_sign tb_1510 (V_X10_sign l D A ad ns I L G hJ hI) rfl rfl ⟨Nat.le_of_ble_eq_true rfl, Nat.le_of_ble_eq_true rfl⟩ hJ.1 rfl rfl (by decide) rfl hl.1 rfl (Nat.le_of_ble_eq_true rfl) dX10_isDigit_1 ⟨Nat.le_of_ble_eq_true rfl, Nat.le_of_ble_eq_true rfl⟩) hS (fun r1 u H locs hw hM hS => ?_)
  obtain ⟨rfl, xr1⟩ := hw
  have hM : Mem D A ad ns I L G H := hM
  have g2 := hI.get 1000 24 (lo := 0) (hi := 400) rfl
  have g3 := hI.get 1000 25 (lo := 0) (hi := 100000) rfl
  refine lv_i2l hx hb dX10_isDigit_4 rfl ?_
  refine lv_topl (fun v4 ev4 => ?_)
  have tv4 := q_i2l ev4
  refine lv_ldc2 (v := (48)) hx hb hown (hts _ tb_1533) dX10_isDigit_5 ?_
  refine lv_ldc2 (v := (57)) hx hb hown (hts _ tb_1534) dX10_isDigit_8 ?_
  refine m_calli (m_runS (As := [.long (v4), .long ((48 : Int64)), .long ((57 : Int64))]) (rest := []) hx hb hml hown hts hE hM hS hA ce_X10_in tb_1425 (V_X10_in l D A ad ns I L G (v4) ((48 : Int64)) ((57 : Int64)) hI) rfl rfl ⟨Nat.le_of_ble_eq_true rfl, Nat.le_of_ble_eq_true rfl⟩  rfl hl.1 rfl (Nat.le_of_ble_eq_true rfl) dX10_isDigit_11 ⟨Nat.le_of_ble_eq_true rfl, Nat.le_of_ble_eq_true rfl⟩) hS (fun r5 u H locs hw hM hS => ?_)
  obtain ⟨rfl, xr5⟩ := hw
  have hM : Mem D A ad ns I L G H := hM
  have yr5 := bo01 xr5
  exact m_zret hx hb hr (nar01 (by omega) (by omega)).1 hlocks hM hS (Nat.le_of_ble_eq_true rfl) (Nat.le_of_ble_eq_true rfl) ⟨rfl, (by first | omega | decide)⟩ dX10_isDigit_14
theorem dX10_fails_0 : decode cX10_fails 0 = .ok (.aload_n 0, 1) := by decide +kernel
theorem dX10_fails_1 : decode cX10_fails 1 = .ok (.aload_n 0, 1) := by decide +kernel
theorem dX10_fails_2 : decode cX10_fails 2 = .ok (.getfield 264, 3) := by decide +kernel
theorem dX10_fails_5 : decode cX10_fails 5 = .ok (.ifCond .ne 14, 3) := by decide +kernel
theorem dX10_fails_8 : decode cX10_fails 8 = .ok (.iconst 1, 1) := by decide +kernel
theorem dX10_fails_9 : decode cX10_fails 9 = .ok (.bipush 8, 2) := by decide +kernel
theorem dX10_fails_11 : decode cX10_fails 11 = .ok (.iload_n 2, 1) := by decide +kernel
theorem dX10_fails_12 : decode cX10_fails 12 = .ok (.imul, 1) := by decide +kernel
theorem dX10_fails_13 : decode cX10_fails 13 = .ok (.iadd, 1) := by decide +kernel
theorem dX10_fails_14 : decode cX10_fails 14 = .ok (.iload_n 1, 1) := by decide +kernel
theorem dX10_fails_15 : decode cX10_fails 15 = .ok (.iadd, 1) := by decide +kernel
theorem dX10_fails_16 : decode cX10_fails 16 = .ok (.goto 7, 3) := by decide +kernel
theorem dX10_fails_19 : decode cX10_fails 19 = .ok (.aload_n 0, 1) := by decide +kernel
theorem dX10_fails_20 : decode cX10_fails 20 = .ok (.getfield 264, 3) := by decide +kernel
theorem dX10_fails_23 : decode cX10_fails 23 = .ok (.putfield 264, 3) := by decide +kernel
theorem dX10_fails_26 : decode cX10_fails 26 = .ok (.return_, 1) := by decide +kernel
theorem ce_X10_fails : CeV RX10 yX10_fails cX10_fails 3 none 2 := ⟨tb_1523, tp_65, tb_11, tb_1524, rfl, by decide, by decide, by decide +kernel⟩
set_option maxHeartbeats 4000000 in
set_option maxRecDepth 20000 in
theorem V_X10_fails (l : Launch) (D : va_G) (A : Nat → Prop) (ad : Nat → Nat) (ns : List Nat) (I : MI) (L : ML) (G : MG) (a0 : Int32) (a1 : Int32) (hJ : SGM ns G) (hI : INV I) (ha0 : 0 ≤ a0.toInt ∧ a0.toInt ≤ 10) (ha1 : 0 ≤ a1.toInt ∧ a1.toInt ≤ 100000) : Met l yX10_fails (wd yX10_fails cX10_fails 3 none) ({ frames := 0, cells := 0, slots := 0, locals := 0 }) (va_Pc [.ref (ad (1000)), .int a0, .int a1] (PM D A ad ns I L G)) (va_Qv (fun u => ∃ I2 L2, u = (ad, ns, I2, L2, G) ∧ INV I2 ∧ Kp [] [(1000, 26)] I I2 ∧ (((I 1000 26).toInt = 0 → (I2 1000 26).toInt = 1 + 8 * a1.toInt + a0.toInt) ∧ ((I 1000 26).toInt ≠ 0 → (I2 1000 26).toInt = (I 1000 26).toInt))) (BM D A) A) 0 0 A := by
  refine m_ofW (by decide) (Nat.le_of_ble_eq_true rfl) ?_
  intro p e s m below meth c ls args hC hE hM hA hS hl
  obtain ⟨hx, hb, hml, hown, hts, hr, hlocks, hin⟩ := hC
  have k0 : (0 : Int32).toInt = 0 := by decide
  have k1 : (1 : Int32).toInt = 1 := by decide
  have k8 : (8 : Int32).toInt = 8 := by decide
  have hK : Kp [] [(1000, 26)] I I := Kp.rf
  have hl : lv_has ls 3 [(0, .ref (ad (1000))), (1, .int (a0)), (2, .int (a1))] := hl
  refine lv_aload_n hx hb dX10_fails_0 rfl (lv_at hl 0 rfl) ?_
  refine lv_aload_n hx hb dX10_fails_1 rfl (lv_at hl 0 rfl) ?_
  refine m_geti (1000) 26 hx hb hts hown hE oc10 hM hJ.1 rfl (by decide) rfl tb_1203 dX10_fails_2 ?_
  refine lv_if_ne (tgt := 19) hx hb dX10_fails_5 (by decide) (fun c1 => ?_) (fun c1 => ?_)
  · have hc1 := c1
    have q1 := q_ne hc1
    refine lv_aload_n hx hb dX10_fails_19 rfl (lv_at hl 0 rfl) ?_
    refine m_geti (1000) 26 hx hb hts hown hE oc10 hM hJ.1 rfl (by decide) rfl tb_1203 dX10_fails_20 ?_
    refine m_puti (1000) 26 hx hb hts hown hE oc10 hM hS hJ.1 rfl (by decide) rfl rfl rfl rfl tb_1203 dX10_fails_23 (fun H locs I2 eI2 hM hS => ?_)
    subst eI2
    have hI := hI.putF (n := 1000) (k := 26) (v := I (1000) 26) rfl
    have hK := hK.put (n := 1000) (k := 26) (v := I (1000) 26) (by first | rfl | simp [inR])
    have pw3 : ((u2 I (1000) 26 (I (1000) 26)) (1000) 24).toInt = (I (1000) 24 : Int32).toInt := congrArg Int32.toInt ((show (u2 I (1000) 26 (I (1000) 26)) (1000) 24 = I (1000) 24 from by simp [u2_v]))
    have pw4 : ((u2 I (1000) 26 (I (1000) 26)) (1000) 25).toInt = (I (1000) 25 : Int32).toInt := congrArg Int32.toInt ((show (u2 I (1000) 26 (I (1000) 26)) (1000) 25 = I (1000) 25 from by simp [u2_v]))
    have pw5 : ((u2 I (1000) 26 (I (1000) 26)) (1000) 26).toInt = (I (1000) 26 : Int32).toInt := congrArg Int32.toInt ((show (u2 I (1000) 26 (I (1000) 26)) (1000) 26 = I (1000) 26 from by simp [u2_v]))
    have pw6 : ((u2 I (1000) 26 (I (1000) 26)) (1000) 27).toInt = (I (1000) 27 : Int32).toInt := congrArg Int32.toInt ((show (u2 I (1000) 26 (I (1000) 26)) (1000) 27 = I (1000) 27 from by simp [u2_v]))
    have pw7 : ((u2 I (1000) 26 (I (1000) 26)) (1000) 29).toInt = (I (1000) 29 : Int32).toInt := congrArg Int32.toInt ((show (u2 I (1000) 26 (I (1000) 26)) (1000) 29 = I (1000) 29 from by simp [u2_v]))
    have pw8 : ((u2 I (1000) 26 (I (1000) 26)) (1000) 31).toInt = (I (1000) 31 : Int32).toInt := congrArg Int32.toInt ((show (u2 I (1000) 26 (I (1000) 26)) (1000) 31 = I (1000) 31 from by simp [u2_v]))
    have pw9 : ((u2 I (1000) 26 (I (1000) 26)) (1000) 32).toInt = (I (1000) 32 : Int32).toInt := congrArg Int32.toInt ((show (u2 I (1000) 26 (I (1000) 26)) (1000) 32 = I (1000) 32 from by simp [u2_v]))
    exact m_vret hx hb hr hlocks hM hS (Nat.le_of_ble_eq_true rfl) (Nat.le_of_ble_eq_true rfl) ⟨_, _, rfl, hI, hK, (by omega)⟩ dX10_fails_26
  · have hc1 := c1
    have q1 := q_eq hc1
    refine lv_iconst (v := (1)) hx hb dX10_fails_8 (by decide) ?_
    refine lv_bipush (v := (8)) hx hb dX10_fails_9 (by decide) ?_
    refine lv_iload_n hx hb dX10_fails_11 rfl (lv_at hl 2 rfl) ?_
    refine lv_imul hx hb dX10_fails_12 ?_
    refine lv_topi (fun v10 ev10 => ?_)
    have tv10 := a_mulL (c := 8) ev10 (by decide) (by omega) (by omega)
    refine lv_iadd hx hb dX10_fails_13 ?_
    refine lv_topi (fun v11 ev11 => ?_)
    have tv11 := a_add ev11 (by omega) (by omega)
    refine lv_iload_n hx hb dX10_fails_14 rfl (lv_at hl 1 rfl) ?_
    refine lv_iadd hx hb dX10_fails_15 ?_
    refine lv_topi (fun v12 ev12 => ?_)
    have tv12 := a_add ev12 (by omega) (by omega)
    refine lv_goto (tgt := 23) hx hb dX10_fails_16 (by decide) ?_
    refine m_puti (1000) 26 hx hb hts hown hE oc10 hM hS hJ.1 rfl (by decide) rfl rfl rfl rfl tb_1203 dX10_fails_23 (fun H locs I13 eI13 hM hS => ?_)
    subst eI13
    have hI := hI.putF (n := 1000) (k := 26) (v := v12) rfl
    have hK := hK.put (n := 1000) (k := 26) (v := v12) (by first | rfl | simp [inR])
    have pw14 : ((u2 I (1000) 26 (v12)) (1000) 24).toInt = (I (1000) 24 : Int32).toInt := congrArg Int32.toInt ((show (u2 I (1000) 26 (v12)) (1000) 24 = I (1000) 24 from by simp [u2_v]))
    have pw15 : ((u2 I (1000) 26 (v12)) (1000) 25).toInt = (I (1000) 25 : Int32).toInt := congrArg Int32.toInt ((show (u2 I (1000) 26 (v12)) (1000) 25 = I (1000) 25 from by simp [u2_v]))
    have pw16 : ((u2 I (1000) 26 (v12)) (1000) 26).toInt = (v12 : Int32).toInt := congrArg Int32.toInt ((show (u2 I (1000) 26 (v12)) (1000) 26 = v12 from by simp [u2_v]))
    have pw17 : ((u2 I (1000) 26 (v12)) (1000) 27).toInt = (I (1000) 27 : Int32).toInt := congrArg Int32.toInt ((show (u2 I (1000) 26 (v12)) (1000) 27 = I (1000) 27 from by simp [u2_v]))
    have pw18 : ((u2 I (1000) 26 (v12)) (1000) 29).toInt = (I (1000) 29 : Int32).toInt := congrArg Int32.toInt ((show (u2 I (1000) 26 (v12)) (1000) 29 = I (1000) 29 from by simp [u2_v]))
    have pw19 : ((u2 I (1000) 26 (v12)) (1000) 31).toInt = (I (1000) 31 : Int32).toInt := congrArg Int32.toInt ((show (u2 I (1000) 26 (v12)) (1000) 31 = I (1000) 31 from by simp [u2_v]))
    have pw20 : ((u2 I (1000) 26 (v12)) (1000) 32).toInt = (I (1000) 32 : Int32).toInt := congrArg Int32.toInt ((show (u2 I (1000) 26 (v12)) (1000) 32 = I (1000) 32 from by simp [u2_v]))
    exact m_vret hx hb hr hlocks hM hS (Nat.le_of_ble_eq_true rfl) (Nat.le_of_ble_eq_true rfl) ⟨_, _, rfl, hI, hK, (by omega)⟩ dX10_fails_26
theorem dX10_isCounted_0 : decode cX10_isCounted 0 = .ok (.aload_n 0, 1) := by decide +kernel
theorem dX10_isCounted_1 : decode cX10_isCounted 1 = .ok (.getfield 300, 3) := by decide +kernel
theorem dX10_isCounted_4 : decode cX10_isCounted 4 = .ok (.bipush 60, 2) := by decide +kernel
theorem dX10_isCounted_6 : decode cX10_isCounted 6 = .ok (.if_icmp .ne 9, 3) := by decide +kernel
theorem dX10_isCounted_9 : decode cX10_isCounted 9 = .ok (.aload_n 0, 1) := by decide +kernel
theorem dX10_isCounted_10 : decode cX10_isCounted 10 = .ok (.iconst 3, 1) := by decide +kernel
theorem dX10_isCounted_11 : decode cX10_isCounted 11 = .ok (.iload_n 1, 1) := by decide +kernel
theorem dX10_isCounted_12 : decode cX10_isCounted 12 = .ok (.invokevirtual 303, 3) := by decide +kernel
theorem dX10_isCounted_15 : decode cX10_isCounted 15 = .ok (.aload_n 0, 1) := by decide +kernel
theorem dX10_isCounted_16 : decode cX10_isCounted 16 = .ok (.dup, 1) := by decide +kernel
theorem dX10_isCounted_17 : decode cX10_isCounted 17 = .ok (.getfield 300, 3) := by decide +kernel
theorem dX10_isCounted_20 : decode cX10_isCounted 20 = .ok (.iconst 1, 1) := by decide +kernel
theorem dX10_isCounted_21 : decode cX10_isCounted 21 = .ok (.iadd, 1) := by decide +kernel
theorem dX10_isCounted_22 : decode cX10_isCounted 22 = .ok (.putfield 300, 3) := by decide +kernel
theorem dX10_isCounted_25 : decode cX10_isCounted 25 = .ok (.return_, 1) := by decide +kernel
theorem ce_X10_isCounted : CeV RX10 yX10_isCounted cX10_isCounted 2 none 1 := ⟨tb_1550, tp_71, tb_11, tb_1551, rfl, by decide, by decide, by decide +kernel⟩
set_option maxHeartbeats 4000000 in
set_option maxRecDepth 20000 in
theorem V_X10_isCounted (l : Launch) (D : va_G) (A : Nat → Prop) (ad : Nat → Nat) (ns : List Nat) (I : MI) (L : ML) (G : MG) (a0 : Int32) (hJ : SGM ns G) (hI : INV I) (hc : (I 1000 26).toInt = 0 → 0 ≤ (I 1000 31).toInt ∧ (I 1000 31).toInt ≤ 60) (ha0 : 0 ≤ a0.toInt ∧ a0.toInt ≤ 100000) : Met l yX10_isCounted (wd yX10_isCounted cX10_isCounted 2 none) ({ frames := 1, cells := 0, slots := 0, locals := 22 }) (va_Pc [.ref (ad (1000)), .int a0] (PM D A ad ns I L G)) (va_Qv (fun u => ∃ I2 L2, u = (ad, ns, I2, L2, G) ∧ INV I2 ∧ Kp [] [(1000, 26), (1000, 31)] I I2 ∧ ((I2 1000 26).toInt = 0 → (I 1000 26).toInt = 0 ∧ (I 1000 31).toInt ≤ 59 ∧ (I2 1000 31).toInt = (I 1000 31).toInt + 1)) (BM D A) A) 0 0 A := by
  refine m_ofW (by decide) (Nat.le_of_ble_eq_true rfl) ?_
  intro p e s m below meth c ls args hC hE hM hA hS hl
  obtain ⟨hx, hb, hml, hown, hts, hr, hlocks, hin⟩ := hC
  have k0 : (0 : Int32).toInt = 0 := by decide
  have k1 : (1 : Int32).toInt = 1 := by decide
  have k3 : (3 : Int32).toInt = 3 := by decide
  have k60 : (60 : Int32).toInt = 60 := by decide
  have hK : Kp [] [(1000, 26), (1000, 31)] I I := Kp.rf
  have hl : lv_has ls 2 [(0, .ref (ad (1000))), (1, .int (a0))] := hl
  refine lv_aload_n hx hb dX10_isCounted_0 rfl (lv_at hl 0 rfl) ?_
  refine m_geti (1000) 31 hx hb hts hown hE oc10 hM hJ.1 rfl (by decide) rfl tb_1208 dX10_isCounted_1 ?_
  refine lv_bipush (v := (60)) hx hb dX10_isCounted_4 (by decide) ?_
  refine lv_icmp_ne (tgt := 15) hx hb dX10_isCounted_6 (by decide) (fun c1 => ?_) (fun c1 => ?_)
  · have hc1 := c1
    have q1 := q_ne hc1
    refine lv_aload_n hx hb dX10_isCounted_15 rfl (lv_at hl 0 rfl) ?_
    refine lv_dup hx hb dX10_isCounted_16 rfl ?_
    refine m_geti (1000) 31 hx hb hts hown hE oc10 hM hJ.1 rfl (by decide) rfl tb_1208 dX10_isCounted_17 ?_
    refine lv_iconst (v := (1)) hx hb dX10_isCounted_20 (by decide) ?_
    refine lv_iadd hx hb dX10_isCounted_21 ?_
    refine lv_topi (fun v2 ev2 => ?_)
    have tv2 : -1 ≤ (I (1000) 31).toInt ∧ (I (1000) 31).toInt ≤ 60 → (v2).toInt = (I (1000) 31).toInt + 1 := fun hz => a_add ev2 (by omega) (by omega)
    refine m_puti (1000) 31 hx hb hts hown hE oc10 hM hS hJ.1 rfl (by decide) rfl rfl rfl rfl tb_1208 dX10_isCounted_22 (fun H locs I3 eI3 hM hS => ?_)
    subst eI3
    have hI := hI.putF (n := 1000) (k := 31) (v := v2) rfl
    have hK := hK.put (n := 1000) (k := 31) (v := v2) (by first | rfl | simp [inR])
    have pw4 : ((u2 I (1000) 31 (v2)) (1000) 24).toInt = (I (1000) 24 : Int32).toInt := congrArg Int32.toInt ((show (u2 I (1000) 31 (v2)) (1000) 24 = I (1000) 24 from by simp [u2_v]))
    have pw5 : ((u2 I (1000) 31 (v2)) (1000) 25).toInt = (I (1000) 25 : Int32).toInt := congrArg Int32.toInt ((show (u2 I (1000) 31 (v2)) (1000) 25 = I (1000) 25 from by simp [u2_v]))
    have pw6 : ((u2 I (1000) 31 (v2)) (1000) 26).toInt = (I (1000) 26 : Int32).toInt := congrArg Int32.toInt ((show (u2 I (1000) 31 (v2)) (1000) 26 = I (1000) 26 from by simp [u2_v]))
    have pw7 : ((u2 I (1000) 31 (v2)) (1000) 27).toInt = (I (1000) 27 : Int32).toInt := congrArg Int32.toInt ((show (u2 I (1000) 31 (v2)) (1000) 27 = I (1000) 27 from by simp [u2_v]))
    have pw8 : ((u2 I (1000) 31 (v2)) (1000) 29).toInt = (I (1000) 29 : Int32).toInt := congrArg Int32.toInt ((show (u2 I (1000) 31 (v2)) (1000) 29 = I (1000) 29 from by simp [u2_v]))
    have pw9 : ((u2 I (1000) 31 (v2)) (1000) 31).toInt = (v2 : Int32).toInt := congrArg Int32.toInt ((show (u2 I (1000) 31 (v2)) (1000) 31 = v2 from by simp [u2_v]))
    have pw10 : ((u2 I (1000) 31 (v2)) (1000) 32).toInt = (I (1000) 32 : Int32).toInt := congrArg Int32.toInt ((show (u2 I (1000) 31 (v2)) (1000) 32 = I (1000) 32 from by simp [u2_v]))
    exact m_vret hx hb hr hlocks hM hS (Nat.le_of_ble_eq_true rfl) (Nat.le_of_ble_eq_true rfl) ⟨_, _, rfl, hI, hK, (by omega)⟩ dX10_isCounted_25
  · have hc1 := c1
    have q1 := q_eq hc1
    refine lv_aload_n hx hb dX10_isCounted_9 rfl (lv_at hl 0 rfl) ?_
    refine lv_iconst (v := (3)) hx hb dX10_isCounted_10 (by decide) ?_
    refine lv_iload_n hx hb dX10_isCounted_11 rfl (lv_at hl 1 rfl) ?_
    refine m_callv (m_runV (1000) (As := [.int (3), .int (a0)]) (rest := []) hx hb hml hown hts hE hM hS hA ce_X10_fails tb_1521 (V_X10_fails l D A ad ns I L G (3) (a0) hJ hI (by first | omega | decide) (by first | omega | decide)) rfl rfl ⟨Nat.le_of_ble_eq_true rfl, Nat.le_of_ble_eq_true rfl⟩ hJ.1 rfl rfl (by decide) rfl hl.1 rfl (Nat.le_of_ble_eq_true rfl) dX10_isCounted_12 ⟨Nat.le_of_ble_eq_true rfl, Nat.le_of_ble_eq_true rfl⟩) hS (fun u H locs hw hM hS => ?_)
    obtain ⟨I11, L12, rfl, hI, hkI11, xI11⟩ := hw
    have hM : Mem D A ad ns I11 L12 G H := hM
    have hK := hK.trans hkI11 rfl
    have pw13 : (I11 (1000) 24).toInt = (I (1000) 24 : Int32).toInt := congrArg Int32.toInt ((hkI11.get (1000) 24 rfl))
    have pw14 : (I11 (1000) 25).toInt = (I (1000) 25 : Int32).toInt := congrArg Int32.toInt ((hkI11.get (1000) 25 rfl))
    have pw15 : (I11 (1000) 27).toInt = (I (1000) 27 : Int32).toInt := congrArg Int32.toInt ((hkI11.get (1000) 27 rfl))
    have pw16 : (I11 (1000) 29).toInt = (I (1000) 29 : Int32).toInt := congrArg Int32.toInt ((hkI11.get (1000) 29 rfl))
    have pw17 : (I11 (1000) 31).toInt = (I (1000) 31 : Int32).toInt := congrArg Int32.toInt ((hkI11.get (1000) 31 rfl))
    have pw18 : (I11 (1000) 32).toInt = (I (1000) 32 : Int32).toInt := congrArg Int32.toInt ((hkI11.get (1000) 32 rfl))
    refine lv_aload_n hx hb dX10_isCounted_15 rfl (lv_at hl 0 rfl) ?_
    refine lv_dup hx hb dX10_isCounted_16 rfl ?_
    refine m_geti (1000) 31 hx hb hts hown hE oc10 hM hJ.1 rfl (by decide) rfl tb_1208 dX10_isCounted_17 ?_
    have z19 : I11 (1000) 31 = I (1000) 31 := (hkI11.get (1000) 31 rfl)
    rw [z19]
    refine lv_iconst (v := (1)) hx hb dX10_isCounted_20 (by decide) ?_
    refine lv_iadd hx hb dX10_isCounted_21 ?_
    refine lv_topi (fun v20 ev20 => ?_)
    have tv20 : -1 ≤ (I (1000) 31).toInt ∧ (I (1000) 31).toInt ≤ 60 → (v20).toInt = (I (1000) 31).toInt + 1 := fun hz => a_add ev20 (by omega) (by omega)
    refine m_puti (1000) 31 hx hb hts hown hE oc10 hM hS hJ.1 rfl (by decide) rfl rfl rfl rfl tb_1208 dX10_isCounted_22 (fun H locs I21 eI21 hM hS => ?_)
    subst eI21
    have hI := hI.putF (n := 1000) (k := 31) (v := v20) rfl
    have hK := hK.put (n := 1000) (k := 31) (v := v20) (by first | rfl | simp [inR])
    have pw22 : ((u2 I11 (1000) 31 (v20)) (1000) 24).toInt = (I (1000) 24 : Int32).toInt := congrArg Int32.toInt (((show (u2 I11 (1000) 31 (v20)) (1000) 24 = I11 (1000) 24 from by simp [u2_v])).trans (hkI11.get (1000) 24 rfl))
    have pw23 : ((u2 I11 (1000) 31 (v20)) (1000) 25).toInt = (I (1000) 25 : Int32).toInt := congrArg Int32.toInt (((show (u2 I11 (1000) 31 (v20)) (1000) 25 = I11 (1000) 25 from by simp [u2_v])).trans (hkI11.get (1000) 25 rfl))
    have pw24 : ((u2 I11 (1000) 31 (v20)) (1000) 26).toInt = (I11 (1000) 26 : Int32).toInt := congrArg Int32.toInt ((show (u2 I11 (1000) 31 (v20)) (1000) 26 = I11 (1000) 26 from by simp [u2_v]))
    have pw25 : ((u2 I11 (1000) 31 (v20)) (1000) 27).toInt = (I (1000) 27 : Int32).toInt := congrArg Int32.toInt (((show (u2 I11 (1000) 31 (v20)) (1000) 27 = I11 (1000) 27 from by simp [u2_v])).trans (hkI11.get (1000) 27 rfl))
    have pw26 : ((u2 I11 (1000) 31 (v20)) (1000) 29).toInt = (I (1000) 29 : Int32).toInt := congrArg Int32.toInt (((show (u2 I11 (1000) 31 (v20)) (1000) 29 = I11 (1000) 29 from by simp [u2_v])).trans (hkI11.get (1000) 29 rfl))
    have pw27 : ((u2 I11 (1000) 31 (v20)) (1000) 31).toInt = (v20 : Int32).toInt := congrArg Int32.toInt ((show (u2 I11 (1000) 31 (v20)) (1000) 31 = v20 from by simp [u2_v]))
    have pw28 : ((u2 I11 (1000) 31 (v20)) (1000) 32).toInt = (I (1000) 32 : Int32).toInt := congrArg Int32.toInt (((show (u2 I11 (1000) 31 (v20)) (1000) 32 = I11 (1000) 32 from by simp [u2_v])).trans (hkI11.get (1000) 32 rfl))
    exact m_vret hx hb hr hlocks hM hS (Nat.le_of_ble_eq_true rfl) (Nat.le_of_ble_eq_true rfl) ⟨_, _, rfl, hI, hK, (by omega)⟩ dX10_isCounted_25
theorem dX10_digits_0 : decode cX10_digits 0 = .ok (.aload_n 0, 1) := by decide +kernel
theorem dX10_digits_1 : decode cX10_digits 1 = .ok (.invokevirtual 307, 3) := by decide +kernel
theorem dX10_digits_4 : decode cX10_digits 4 = .ok (.ifCond .ne 14, 3) := by decide +kernel
theorem dX10_digits_7 : decode cX10_digits 7 = .ok (.aload_n 0, 1) := by decide +kernel
theorem dX10_digits_8 : decode cX10_digits 8 = .ok (.iconst 0, 1) := by decide +kernel
theorem dX10_digits_9 : decode cX10_digits 9 = .ok (.aload_n 0, 1) := by decide +kernel
theorem dX10_digits_10 : decode cX10_digits 10 = .ok (.getfield 267, 3) := by decide +kernel
theorem dX10_digits_13 : decode cX10_digits 13 = .ok (.invokevirtual 303, 3) := by decide +kernel
theorem dX10_digits_16 : decode cX10_digits 16 = .ok (.iconst 0, 1) := by decide +kernel
theorem dX10_digits_17 : decode cX10_digits 17 = .ok (.ireturn, 1) := by decide +kernel
theorem dX10_digits_18 : decode cX10_digits 18 = .ok (.aload_n 0, 1) := by decide +kernel
theorem dX10_digits_19 : decode cX10_digits 19 = .ok (.getfield 267, 3) := by decide +kernel
theorem dX10_digits_22 : decode cX10_digits 22 = .ok (.istore_n 2, 1) := by decide +kernel
theorem dX10_digits_23 : decode cX10_digits 23 = .ok (.iconst 0, 1) := by decide +kernel
theorem dX10_digits_24 : decode cX10_digits 24 = .ok (.istore_n 3, 1) := by decide +kernel
theorem dX10_digits_25 : decode cX10_digits 25 = .ok (.aload_n 0, 1) := by decide +kernel
theorem dX10_digits_26 : decode cX10_digits 26 = .ok (.invokevirtual 307, 3) := by decide +kernel
theorem dX10_digits_29 : decode cX10_digits 29 = .ok (.ifCond .eq 43, 3) := by decide +kernel
theorem dX10_digits_32 : decode cX10_digits 32 = .ok (.aload_n 0, 1) := by decide +kernel
theorem dX10_digits_33 : decode cX10_digits 33 = .ok (.getfield 267, 3) := by decide +kernel
theorem dX10_digits_36 : decode cX10_digits 36 = .ok (.iload_n 2, 1) := by decide +kernel
theorem dX10_digits_37 : decode cX10_digits 37 = .ok (.isub, 1) := by decide +kernel
theorem dX10_digits_38 : decode cX10_digits 38 = .ok (.iconst 5, 1) := by decide +kernel
theorem dX10_digits_39 : decode cX10_digits 39 = .ok (.if_icmp .ge 18, 3) := by decide +kernel
theorem dX10_digits_42 : decode cX10_digits 42 = .ok (.bipush 10, 2) := by decide +kernel
theorem dX10_digits_44 : decode cX10_digits 44 = .ok (.iload_n 3, 1) := by decide +kernel
theorem dX10_digits_45 : decode cX10_digits 45 = .ok (.imul, 1) := by decide +kernel
theorem dX10_digits_46 : decode cX10_digits 46 = .ok (.aload_n 0, 1) := by decide +kernel
theorem dX10_digits_47 : decode cX10_digits 47 = .ok (.invokevirtual 270, 3) := by decide +kernel
theorem dX10_digits_50 : decode cX10_digits 50 = .ok (.iadd, 1) := by decide +kernel
theorem dX10_digits_51 : decode cX10_digits 51 = .ok (.bipush 48, 2) := by decide +kernel
theorem dX10_digits_53 : decode cX10_digits 53 = .ok (.isub, 1) := by decide +kernel
theorem dX10_digits_54 : decode cX10_digits 54 = .ok (.goto 4, 3) := by decide +kernel
theorem dX10_digits_57 : decode cX10_digits 57 = .ok (.iload_n 3, 1) := by decide +kernel
theorem dX10_digits_58 : decode cX10_digits 58 = .ok (.istore_n 3, 1) := by decide +kernel
theorem dX10_digits_59 : decode cX10_digits 59 = .ok (.aload_n 0, 1) := by decide +kernel
theorem dX10_digits_60 : decode cX10_digits 60 = .ok (.dup, 1) := by decide +kernel
theorem dX10_digits_61 : decode cX10_digits 61 = .ok (.getfield 267, 3) := by decide +kernel
theorem dX10_digits_64 : decode cX10_digits 64 = .ok (.iconst 1, 1) := by decide +kernel
theorem dX10_digits_65 : decode cX10_digits 65 = .ok (.iadd, 1) := by decide +kernel
theorem dX10_digits_66 : decode cX10_digits 66 = .ok (.putfield 267, 3) := by decide +kernel
theorem dX10_digits_69 : decode cX10_digits 69 = .ok (.goto (-44), 3) := by decide +kernel
theorem dX10_digits_72 : decode cX10_digits 72 = .ok (.aload_n 0, 1) := by decide +kernel
theorem dX10_digits_73 : decode cX10_digits 73 = .ok (.getfield 267, 3) := by decide +kernel
theorem dX10_digits_76 : decode cX10_digits 76 = .ok (.iload_n 2, 1) := by decide +kernel
theorem dX10_digits_77 : decode cX10_digits 77 = .ok (.isub, 1) := by decide +kernel
theorem dX10_digits_78 : decode cX10_digits 78 = .ok (.iconst 5, 1) := by decide +kernel
theorem dX10_digits_79 : decode cX10_digits 79 = .ok (.if_icmp .gt 8, 3) := by decide +kernel
theorem dX10_digits_82 : decode cX10_digits 82 = .ok (.iload_n 3, 1) := by decide +kernel
theorem dX10_digits_83 : decode cX10_digits 83 = .ok (.iload_n 1, 1) := by decide +kernel
theorem dX10_digits_84 : decode cX10_digits 84 = .ok (.if_icmp .le 9, 3) := by decide +kernel
theorem dX10_digits_87 : decode cX10_digits 87 = .ok (.aload_n 0, 1) := by decide +kernel
theorem dX10_digits_88 : decode cX10_digits 88 = .ok (.iconst 1, 1) := by decide +kernel
theorem dX10_digits_89 : decode cX10_digits 89 = .ok (.iload_n 2, 1) := by decide +kernel
theorem dX10_digits_90 : decode cX10_digits 90 = .ok (.invokevirtual 303, 3) := by decide +kernel
theorem dX10_digits_93 : decode cX10_digits 93 = .ok (.iload_n 3, 1) := by decide +kernel
theorem dX10_digits_94 : decode cX10_digits 94 = .ok (.ireturn, 1) := by decide +kernel
theorem ce_X10_digits : CeV RX10 yX10_digits cX10_digits 4 (some .int) 1 := ⟨tb_1527, tp_66, tb_11, tb_1528, rfl, by decide, by decide, by decide +kernel⟩
set_option maxHeartbeats 4000000 in
set_option maxRecDepth 20000 in
theorem V_X10_digits (l : Launch) (D : va_G) (A : Nat → Prop) (ad : Nat → Nat) (ns : List Nat) (I : MI) (L : ML) (G : MG) (a0 : Int32) (hJ : SGM ns G) (hI : INV I) : Met l yX10_digits (wd yX10_digits cX10_digits 4 (some .int)) ({ frames := 2, cells := 0, slots := 0, locals := 45 }) (va_Pc [.ref (ad (1000)), .int a0] (PM D A ad ns I L G)) (va_Qi (fun r u => ∃ I2 L2, u = (ad, ns, I2, L2, G) ∧ INV I2 ∧ Kp [] [(1000, 25), (1000, 26)] I I2 ∧ ((I 1000 25).toInt ≤ (I2 1000 25).toInt ∧ ((I2 1000 25).toInt = (I 1000 25).toInt ∨ (I2 1000 25).toInt ≤ 400) ∧ ((I2 1000 26).toInt = 0 → (I 1000 26).toInt = 0))) (BM D A) A) 0 0 A := by
  refine m_ofW (by decide) (Nat.le_of_ble_eq_true rfl) ?_
  intro p e s m below meth c ls args hC hE hM hA hS hl
  obtain ⟨hx, hb, hml, hown, hts, hr, hlocks, hin⟩ := hC
  have k0 : (0 : Int32).toInt = 0 := by decide
  have k1 : (1 : Int32).toInt = 1 := by decide
  have k5 : (5 : Int32).toInt = 5 := by decide
  have k10 : (10 : Int32).toInt = 10 := by decide
  have k48 : (48 : Int32).toInt = 48 := by decide
  have hK : Kp [] [(1000, 25), (1000, 26)] I I := Kp.rf
  have hl : lv_has ls 4 [(0, .ref (ad (1000))), (1, .int (a0))] := hl
  refine lv_aload_n hx hb dX10_digits_0 rfl (lv_at hl 0 rfl) ?_
  refine m_calli (m_runV (1000) (As := []) (rest := []) hx hb hml hown hts hE hM hS hA ce_X10_isDigit tb_1529 (V_X10_isDigit l D A ad ns I L G hJ hI) rfl rfl ⟨Nat.le_of_ble_eq_true rfl, Nat.le_of_ble_eq_true rfl⟩ hJ.1 rfl rfl (by decide) rfl hl.1 rfl (Nat.le_of_ble_eq_true rfl) dX10_digits_1 ⟨Nat.le_of_ble_eq_true rfl, Nat.le_of_ble_eq_true rfl⟩) hS (fun r1 u H locs hw hM hS => ?_)
  obtain ⟨rfl, xr1⟩ := hw
  have hM : Mem D A ad ns I L G H := hM
  have g2 := hI.get 1000 24 (lo := 0) (hi := 400) rfl
  have g3 := hI.get 1000 25 (lo := 0) (hi := 100000) rfl
  refine lv_if_ne (tgt := 18) hx hb dX10_digits_4 (by decide) (fun c4 => ?_) (fun c4 => ?_)
  · have hc4 := c4
    have q4 := q_ne hc4
    refine lv_aload_n hx hb dX10_digits_18 rfl (lv_at hl 0 rfl) ?_
    refine m_geti (1000) 25 hx hb hts hown hE oc10 hM hJ.1 rfl (by decide) rfl tb_1202 dX10_digits_19 ?_
    have g5 := hI.get (1000) 25 (lo := 0) (hi := 100000) rfl
    refine lv_istore_n (lv' := [(2, .int (I (1000) 25)), (0, .ref (ad (1000))), (1, .int (a0))]) hx hb dX10_digits_22 rfl hl (by decide) rfl (fun ls hl => ?_)
    refine lv_iconst (v := (0)) hx hb dX10_digits_23 (by decide) ?_
    refine lv_istore_n (lv' := [(3, .int (0)), (2, .int (I (1000) 25)), (0, .ref (ad (1000))), (1, .int (a0))]) hx hb dX10_digits_24 rfl hl (by decide) rfl (fun ls hl => ?_)
    have loop25 : ∀ (n : Nat) (x3_25 : Int32) (Ia25 : MI) (La25 : ML) (H : Heap) (locs : List Loc) (ls : Array Slot), INV Ia25 → Kp [] [(1000, 25), (1000, 26)] I Ia25 → ((I 1000 25).toInt ≤ (Ia25 1000 25).toInt ∧ ((Ia25 1000 25).toInt = (I 1000 25).toInt ∨ (Ia25 1000 25).toInt ≤ 400)) → (400 - (Ia25 1000 25).toInt).toNat < n → Mem D A ad ns Ia25 La25 G H → va_S A s.heap H locs → lv_has ls 4 [(3, .int (x3_25)), (2, .int (I (1000) 25)), (0, .ref (ad (1000))), (1, .int (a0))] → W p l e ({ frames := 2, cells := 0, slots := 0, locals := 45 } : Room) s m args below meth c H locs 0 0 (MQ below (va_Qi (fun r u => ∃ I2 L2, u = (ad, ns, I2, L2, G) ∧ INV I2 ∧ Kp [] [(1000, 25), (1000, 26)] I I2 ∧ ((I 1000 25).toInt ≤ (I2 1000 25).toInt ∧ ((I2 1000 25).toInt = (I 1000 25).toInt ∨ (I2 1000 25).toInt ≤ 400) ∧ ((I2 1000 26).toInt = 0 → (I 1000 26).toInt = 0))) (BM D A) A) args s 0 0 A) (F0 m 25 ls []) := by
      intro n
      induction n with
      | zero =>
        intro x3_25 Ia25 La25 H locs ls hI hK hpg hmu
        exact absurd hmu (Nat.not_lt_zero _)
      | succ n ih25 =>
        intro x3_25 Ia25 La25 H locs ls hI hK hpg hmu25 hM hS hl
        refine lv_aload_n hx hb dX10_digits_25 rfl (lv_at hl 2 rfl) ?_
        refine m_calli (m_runV (1000) (As := []) (rest := []) hx hb hml hown hts hE hM hS hA ce_X10_isDigit tb_1529 (V_X10_isDigit l D A ad ns Ia25 La25 G hJ hI) rfl rfl ⟨Nat.le_of_ble_eq_true rfl, Nat.le_of_ble_eq_true rfl⟩ hJ.1 rfl rfl (by decide) rfl hl.1 rfl (Nat.le_of_ble_eq_true rfl) dX10_digits_26 ⟨Nat.le_of_ble_eq_true rfl, Nat.le_of_ble_eq_true rfl⟩) hS (fun r6 u H locs hw hM hS => ?_)
        obtain ⟨rfl, xr6⟩ := hw
        have hM : Mem D A ad ns Ia25 La25 G H := hM
        have g7 := hI.get 1000 24 (lo := 0) (hi := 400) rfl
        have g8 := hI.get 1000 25 (lo := 0) (hi := 100000) rfl
        refine lv_if_eq (tgt := 72) hx hb dX10_digits_29 (by decide) (fun c9 => ?_) (fun c9 => ?_)
        · have hc9 := c9
          have q9 := q_eq hc9
          refine lv_aload_n hx hb dX10_digits_72 rfl (lv_at hl 2 rfl) ?_
          refine m_geti (1000) 25 hx hb hts hown hE oc10 hM hJ.1 rfl (by decide) rfl tb_1202 dX10_digits_73 ?_
          have g10 := hI.get (1000) 25 (lo := 0) (hi := 100000) rfl
          refine lv_iload_n hx hb dX10_digits_76 rfl (lv_at hl 1 rfl) ?_
          refine lv_isub hx hb dX10_digits_77 ?_
          refine lv_topi (fun v11 ev11 => ?_)
          have tv11 := a_sub ev11 (by omega) (by omega)
          refine lv_iconst (v := (5)) hx hb dX10_digits_78 (by decide) ?_
          refine lv_icmp_gt (tgt := 87) hx hb dX10_digits_79 (by decide) (fun c12 => ?_) (fun c12 => ?_)
          · have hc12 := c12
            have q12 := q_lt hc12
            refine lv_aload_n hx hb dX10_digits_87 rfl (lv_at hl 2 rfl) ?_
            refine lv_iconst (v := (1)) hx hb dX10_digits_88 (by decide) ?_
            refine lv_iload_n hx hb dX10_digits_89 rfl (lv_at hl 1 rfl) ?_
            refine m_callv (m_runV (1000) (As := [.int (1), .int (I (1000) 25)]) (rest := []) hx hb hml hown hts hE hM hS hA ce_X10_fails tb_1521 (V_X10_fails l D A ad ns Ia25 La25 G (1) (I (1000) 25) hJ hI (by first | omega | decide) (by first | omega | decide)) rfl rfl ⟨Nat.le_of_ble_eq_true rfl, Nat.le_of_ble_eq_true rfl⟩ hJ.1 rfl rfl (by decide) rfl hl.1 rfl (Nat.le_of_ble_eq_true rfl) dX10_digits_90 ⟨Nat.le_of_ble_eq_true rfl, Nat.le_of_ble_eq_true rfl⟩) hS (fun u H locs hw hM hS => ?_)
            obtain ⟨I13, L14, rfl, hI, hkI13, xI13⟩ := hw
            have hM : Mem D A ad ns I13 L14 G H := hM
            have hK := hK.trans hkI13 rfl
            have pw15 : (I13 (1000) 24).toInt = (Ia25 (1000) 24 : Int32).toInt := congrArg Int32.toInt ((hkI13.get (1000) 24 rfl))
            have pw16 : (I13 (1000) 25).toInt = (Ia25 (1000) 25 : Int32).toInt := congrArg Int32.toInt ((hkI13.get (1000) 25 rfl))
            have pw17 : (I13 (1000) 27).toInt = (Ia25 (1000) 27 : Int32).toInt := congrArg Int32.toInt ((hkI13.get (1000) 27 rfl))
            have pw18 : (I13 (1000) 29).toInt = (Ia25 (1000) 29 : Int32).toInt := congrArg Int32.toInt ((hkI13.get (1000) 29 rfl))
            have pw19 : (I13 (1000) 31).toInt = (Ia25 (1000) 31 : Int32).toInt := congrArg Int32.toInt ((hkI13.get (1000) 31 rfl))
            have pw20 : (I13 (1000) 32).toInt = (Ia25 (1000) 32 : Int32).toInt := congrArg Int32.toInt ((hkI13.get (1000) 32 rfl))
            refine lv_iload_n hx hb dX10_digits_93 rfl (lv_at hl 0 rfl) ?_
            exact m_iret hx hb hr hlocks hM hS (Nat.le_of_ble_eq_true rfl) (Nat.le_of_ble_eq_true rfl) ⟨_, _, rfl, hI, hK, (by omega)⟩ dX10_digits_94
          · have hc12 := c12
            have q12 := q_nlt hc12
            refine lv_iload_n hx hb dX10_digits_82 rfl (lv_at hl 0 rfl) ?_
            refine lv_iload_n hx hb dX10_digits_83 rfl (lv_at hl 3 rfl) ?_
            refine lv_icmp_le (tgt := 93) hx hb dX10_digits_84 (by decide) (fun c21 => ?_) (fun c21 => ?_)
            · have hc21 := c21
              have q21 := q_le hc21
              refine lv_iload_n hx hb dX10_digits_93 rfl (lv_at hl 0 rfl) ?_
              exact m_iret hx hb hr hlocks hM hS (Nat.le_of_ble_eq_true rfl) (Nat.le_of_ble_eq_true rfl) ⟨_, _, rfl, hI, hK, (by omega)⟩ dX10_digits_94
            · have hc21 := c21
              have q21 := q_nle hc21
              refine lv_aload_n hx hb dX10_digits_87 rfl (lv_at hl 2 rfl) ?_
              refine lv_iconst (v := (1)) hx hb dX10_digits_88 (by decide) ?_
              refine lv_iload_n hx hb dX10_digits_89 rfl (lv_at hl 1 rfl) ?_
              refine m_callv (m_runV (1000) (As := [.int (1), .int (I (1000) 25)]) (rest := []) hx hb hml hown hts hE hM hS hA ce_X10_fails tb_1521 (V_X10_fails l D A ad ns Ia25 La25 G (1) (I (1000) 25) hJ hI (by first | omega | decide) (by first | omega | decide)) rfl rfl ⟨Nat.le_of_ble_eq_true rfl, Nat.le_of_ble_eq_true rfl⟩ hJ.1 rfl rfl (by decide) rfl hl.1 rfl (Nat.le_of_ble_eq_true rfl) dX10_digits_90 ⟨Nat.le_of_ble_eq_true rfl, Nat.le_of_ble_eq_true rfl⟩) hS (fun u H locs hw hM hS => ?_)
              obtain ⟨I22, L23, rfl, hI, hkI22, xI22⟩ := hw
              have hM : Mem D A ad ns I22 L23 G H := hM
              have hK := hK.trans hkI22 rfl
              have pw24 : (I22 (1000) 24).toInt = (Ia25 (1000) 24 : Int32).toInt := congrArg Int32.toInt ((hkI22.get (1000) 24 rfl))
              have pw25 : (I22 (1000) 25).toInt = (Ia25 (1000) 25 : Int32).toInt := congrArg Int32.toInt ((hkI22.get (1000) 25 rfl))
              have pw26 : (I22 (1000) 27).toInt = (Ia25 (1000) 27 : Int32).toInt := congrArg Int32.toInt ((hkI22.get (1000) 27 rfl))
              have pw27 : (I22 (1000) 29).toInt = (Ia25 (1000) 29 : Int32).toInt := congrArg Int32.toInt ((hkI22.get (1000) 29 rfl))
              have pw28 : (I22 (1000) 31).toInt = (Ia25 (1000) 31 : Int32).toInt := congrArg Int32.toInt ((hkI22.get (1000) 31 rfl))
              have pw29 : (I22 (1000) 32).toInt = (Ia25 (1000) 32 : Int32).toInt := congrArg Int32.toInt ((hkI22.get (1000) 32 rfl))
              refine lv_iload_n hx hb dX10_digits_93 rfl (lv_at hl 0 rfl) ?_
              exact m_iret hx hb hr hlocks hM hS (Nat.le_of_ble_eq_true rfl) (Nat.le_of_ble_eq_true rfl) ⟨_, _, rfl, hI, hK, (by omega)⟩ dX10_digits_94
        · have hc9 := c9
          have q9 := q_ne hc9
          refine lv_aload_n hx hb dX10_digits_32 rfl (lv_at hl 2 rfl) ?_
          refine m_geti (1000) 25 hx hb hts hown hE oc10 hM hJ.1 rfl (by decide) rfl tb_1202 dX10_digits_33 ?_
          have g30 := hI.get (1000) 25 (lo := 0) (hi := 100000) rfl
          refine lv_iload_n hx hb dX10_digits_36 rfl (lv_at hl 1 rfl) ?_
          refine lv_isub hx hb dX10_digits_37 ?_
          refine lv_topi (fun v31 ev31 => ?_)
          have tv31 := a_sub ev31 (by omega) (by omega)
          refine lv_iconst (v := (5)) hx hb dX10_digits_38 (by decide) ?_
          refine lv_icmp_ge (tgt := 57) hx hb dX10_digits_39 (by decide) (fun c32 => ?_) (fun c32 => ?_)
          · have hc32 := c32
            have q32 := q_le hc32
            refine lv_iload_n hx hb dX10_digits_57 rfl (lv_at hl 0 rfl) ?_
            refine lv_istore_n (lv' := [(3, .int (x3_25)), (2, .int (I (1000) 25)), (0, .ref (ad (1000))), (1, .int (a0))]) hx hb dX10_digits_58 rfl hl (by decide) rfl (fun ls hl => ?_)
            refine lv_aload_n hx hb dX10_digits_59 rfl (lv_at hl 2 rfl) ?_
            refine lv_dup hx hb dX10_digits_60 rfl ?_
            refine m_geti (1000) 25 hx hb hts hown hE oc10 hM hJ.1 rfl (by decide) rfl tb_1202 dX10_digits_61 ?_
            refine lv_iconst (v := (1)) hx hb dX10_digits_64 (by decide) ?_
            refine lv_iadd hx hb dX10_digits_65 ?_
            refine lv_topi (fun v33 ev33 => ?_)
            have tv33 := a_add ev33 (by omega) (by omega)
            refine m_puti (1000) 25 hx hb hts hown hE oc10 hM hS hJ.1 rfl (by decide) rfl rfl rfl rfl tb_1202 dX10_digits_66 (fun H locs I34 eI34 hM hS => ?_)
            subst eI34
            have hI := hI.put (n := 1000) (k := 25) (v := v33) (lo := 0) (hi := 100000) rfl (by first | omega | decide)
            have hK := hK.put (n := 1000) (k := 25) (v := v33) (by first | rfl | simp [inR])
            refine lv_goto (tgt := 25) hx hb dX10_digits_69 (by decide) ?_
            have tr100025 : ((u2 Ia25 (1000) 25 (v33)) (1000) 25).toInt = (v33 : Int32).toInt := congrArg Int32.toInt ((show (u2 Ia25 (1000) 25 (v33)) (1000) 25 = v33 from by simp [u2_v]))
            exact ih25 (x3_25) (u2 Ia25 (1000) 25 (v33)) La25 _ _ ls hI hK (by omega) (by omega) hM hS (lv_sub hl [0, 1, 2, 3] rfl)
          · have hc32 := c32
            have q32 := q_nle hc32
            refine lv_bipush (v := (10)) hx hb dX10_digits_42 (by decide) ?_
            refine lv_iload_n hx hb dX10_digits_44 rfl (lv_at hl 0 rfl) ?_
            refine lv_imul hx hb dX10_digits_45 ?_
            refine lv_topi (fun v35 ev35 => ?_)
            refine lv_aload_n hx hb dX10_digits_46 rfl (lv_at hl 2 rfl) ?_
            refine m_calli (m_runV (1000) (As := []) (rest := [.int (v35)]) hx hb hml hown hts hE hM hS hA ce_X10_sign tb_1510 (V_X10_sign l D A ad ns Ia25 La25 G hJ hI) rfl rfl ⟨Nat.le_of_ble_eq_true rfl, Nat.le_of_ble_eq_true rfl⟩ hJ.1 rfl rfl (by decide) rfl hl.1 rfl (Nat.le_of_ble_eq_true rfl) dX10_digits_47 ⟨Nat.le_of_ble_eq_true rfl, Nat.le_of_ble_eq_true rfl⟩) hS (fun r36 u H locs hw hM hS => ?_)
            obtain ⟨rfl, xr36⟩ := hw
            have hM : Mem D A ad ns Ia25 La25 G H := hM
            have g37 := hI.get 1000 24 (lo := 0) (hi := 400) rfl
            have g38 := hI.get 1000 25 (lo := 0) (hi := 100000) rfl
            refine lv_iadd hx hb dX10_digits_50 ?_
            refine lv_topi (fun v39 ev39 => ?_)
            refine lv_bipush (v := (48)) hx hb dX10_digits_51 (by decide) ?_
            refine lv_isub hx hb dX10_digits_53 ?_
            refine lv_topi (fun v40 ev40 => ?_)
            refine lv_goto (tgt := 58) hx hb dX10_digits_54 (by decide) ?_
            refine lv_istore_n (lv' := [(3, .int (v40)), (2, .int (I (1000) 25)), (0, .ref (ad (1000))), (1, .int (a0))]) hx hb dX10_digits_58 rfl hl (by decide) rfl (fun ls hl => ?_)
            refine lv_aload_n hx hb dX10_digits_59 rfl (lv_at hl 2 rfl) ?_
            refine lv_dup hx hb dX10_digits_60 rfl ?_
            refine m_geti (1000) 25 hx hb hts hown hE oc10 hM hJ.1 rfl (by decide) rfl tb_1202 dX10_digits_61 ?_
            refine lv_iconst (v := (1)) hx hb dX10_digits_64 (by decide) ?_
            refine lv_iadd hx hb dX10_digits_65 ?_
            refine lv_topi (fun v41 ev41 => ?_)
            have tv41 := a_add ev41 (by omega) (by omega)
            refine m_puti (1000) 25 hx hb hts hown hE oc10 hM hS hJ.1 rfl (by decide) rfl rfl rfl rfl tb_1202 dX10_digits_66 (fun H locs I42 eI42 hM hS => ?_)
            subst eI42
            have hI := hI.put (n := 1000) (k := 25) (v := v41) (lo := 0) (hi := 100000) rfl (by first | omega | decide)
            have hK := hK.put (n := 1000) (k := 25) (v := v41) (by first | rfl | simp [inR])
            refine lv_goto (tgt := 25) hx hb dX10_digits_69 (by decide) ?_
            have tr100025 : ((u2 Ia25 (1000) 25 (v41)) (1000) 25).toInt = (v41 : Int32).toInt := congrArg Int32.toInt ((show (u2 Ia25 (1000) 25 (v41)) (1000) 25 = v41 from by simp [u2_v]))
            exact ih25 (v40) (u2 Ia25 (1000) 25 (v41)) La25 _ _ ls hI hK (by omega) (by omega) hM hS (lv_sub hl [0, 1, 2, 3] rfl)
    exact loop25 (_ + 1) (0) I L _ _ ls hI hK (by omega) (Nat.lt_succ_self _) hM hS (lv_sub hl [0, 1, 2, 3] rfl)
  · have hc4 := c4
    have q4 := q_eq hc4
    refine lv_aload_n hx hb dX10_digits_7 rfl (lv_at hl 0 rfl) ?_
    refine lv_iconst (v := (0)) hx hb dX10_digits_8 (by decide) ?_
    refine lv_aload_n hx hb dX10_digits_9 rfl (lv_at hl 0 rfl) ?_
    refine m_geti (1000) 25 hx hb hts hown hE oc10 hM hJ.1 rfl (by decide) rfl tb_1202 dX10_digits_10 ?_
    have g43 := hI.get (1000) 25 (lo := 0) (hi := 100000) rfl
    refine m_callv (m_runV (1000) (As := [.int (0), .int (I (1000) 25)]) (rest := []) hx hb hml hown hts hE hM hS hA ce_X10_fails tb_1521 (V_X10_fails l D A ad ns I L G (0) (I (1000) 25) hJ hI (by first | omega | decide) (by first | omega | decide)) rfl rfl ⟨Nat.le_of_ble_eq_true rfl, Nat.le_of_ble_eq_true rfl⟩ hJ.1 rfl rfl (by decide) rfl hl.1 rfl (Nat.le_of_ble_eq_true rfl) dX10_digits_13 ⟨Nat.le_of_ble_eq_true rfl, Nat.le_of_ble_eq_true rfl⟩) hS (fun u H locs hw hM hS => ?_)
    obtain ⟨I44, L45, rfl, hI, hkI44, xI44⟩ := hw
    have hM : Mem D A ad ns I44 L45 G H := hM
    have hK := hK.trans hkI44 rfl
    have pw46 : (I44 (1000) 24).toInt = (I (1000) 24 : Int32).toInt := congrArg Int32.toInt ((hkI44.get (1000) 24 rfl))
    have pw47 : (I44 (1000) 25).toInt = (I (1000) 25 : Int32).toInt := congrArg Int32.toInt ((hkI44.get (1000) 25 rfl))
    have pw48 : (I44 (1000) 27).toInt = (I (1000) 27 : Int32).toInt := congrArg Int32.toInt ((hkI44.get (1000) 27 rfl))
    have pw49 : (I44 (1000) 29).toInt = (I (1000) 29 : Int32).toInt := congrArg Int32.toInt ((hkI44.get (1000) 29 rfl))
    have pw50 : (I44 (1000) 31).toInt = (I (1000) 31 : Int32).toInt := congrArg Int32.toInt ((hkI44.get (1000) 31 rfl))
    have pw51 : (I44 (1000) 32).toInt = (I (1000) 32 : Int32).toInt := congrArg Int32.toInt ((hkI44.get (1000) 32 rfl))
    refine lv_iconst (v := (0)) hx hb dX10_digits_16 (by decide) ?_
    exact m_iret hx hb hr hlocks hM hS (Nat.le_of_ble_eq_true rfl) (Nat.le_of_ble_eq_true rfl) ⟨_, _, rfl, hI, hK, (by omega)⟩ dX10_digits_17
theorem dX10_stands_0 : decode cX10_stands 0 = .ok (.aload_n 0, 1) := by decide +kernel
theorem dX10_stands_1 : decode cX10_stands 1 = .ok (.getfield 267, 3) := by decide +kernel
theorem dX10_stands_4 : decode cX10_stands 4 = .ok (.istore_n 2, 1) := by decide +kernel
theorem dX10_stands_5 : decode cX10_stands 5 = .ok (.iload_n 2, 1) := by decide +kernel
theorem dX10_stands_6 : decode cX10_stands 6 = .ok (.aload_n 0, 1) := by decide +kernel
theorem dX10_stands_7 : decode cX10_stands 7 = .ok (.getfield 232, 3) := by decide +kernel
theorem dX10_stands_10 : decode cX10_stands 10 = .ok (.if_icmp .ge 31, 3) := by decide +kernel
theorem dX10_stands_13 : decode cX10_stands 13 = .ok (.aload_n 0, 1) := by decide +kernel
theorem dX10_stands_14 : decode cX10_stands 14 = .ok (.getfield 83, 3) := by decide +kernel
theorem dX10_stands_17 : decode cX10_stands 17 = .ok (.iload_n 2, 1) := by decide +kernel
theorem dX10_stands_18 : decode cX10_stands 18 = .ok (.baload, 1) := by decide +kernel
theorem dX10_stands_19 : decode cX10_stands 19 = .ok (.bipush 97, 2) := by decide +kernel
theorem dX10_stands_21 : decode cX10_stands 21 = .ok (.if_icmp .lt 20, 3) := by decide +kernel
theorem dX10_stands_24 : decode cX10_stands 24 = .ok (.aload_n 0, 1) := by decide +kernel
theorem dX10_stands_25 : decode cX10_stands 25 = .ok (.getfield 83, 3) := by decide +kernel
theorem dX10_stands_28 : decode cX10_stands 28 = .ok (.iload_n 2, 1) := by decide +kernel
theorem dX10_stands_29 : decode cX10_stands 29 = .ok (.baload, 1) := by decide +kernel
theorem dX10_stands_30 : decode cX10_stands 30 = .ok (.bipush 122, 2) := by decide +kernel
theorem dX10_stands_32 : decode cX10_stands 32 = .ok (.if_icmp .gt 9, 3) := by decide +kernel
theorem dX10_stands_35 : decode cX10_stands 35 = .ok (.iinc 2 1, 3) := by decide +kernel
theorem dX10_stands_38 : decode cX10_stands 38 = .ok (.goto (-33), 3) := by decide +kernel
theorem dX10_stands_41 : decode cX10_stands 41 = .ok (.iload_n 2, 1) := by decide +kernel
theorem dX10_stands_42 : decode cX10_stands 42 = .ok (.aload_n 0, 1) := by decide +kernel
theorem dX10_stands_43 : decode cX10_stands 43 = .ok (.getfield 267, 3) := by decide +kernel
theorem dX10_stands_46 : decode cX10_stands 46 = .ok (.isub, 1) := by decide +kernel
theorem dX10_stands_47 : decode cX10_stands 47 = .ok (.aload_n 1, 1) := by decide +kernel
theorem dX10_stands_48 : decode cX10_stands 48 = .ok (.invokevirtual 278, 3) := by decide +kernel
theorem dX10_stands_51 : decode cX10_stands 51 = .ok (.if_icmp .ne 7, 3) := by decide +kernel
theorem dX10_stands_54 : decode cX10_stands 54 = .ok (.iconst 1, 1) := by decide +kernel
theorem dX10_stands_55 : decode cX10_stands 55 = .ok (.goto 4, 3) := by decide +kernel
theorem dX10_stands_58 : decode cX10_stands 58 = .ok (.iconst 0, 1) := by decide +kernel
theorem dX10_stands_59 : decode cX10_stands 59 = .ok (.istore_n 3, 1) := by decide +kernel
theorem dX10_stands_60 : decode cX10_stands 60 = .ok (.iconst 0, 1) := by decide +kernel
theorem dX10_stands_61 : decode cX10_stands 61 = .ok (.istore 4, 2) := by decide +kernel
theorem dX10_stands_63 : decode cX10_stands 63 = .ok (.iload 4, 2) := by decide +kernel
theorem dX10_stands_65 : decode cX10_stands 65 = .ok (.aload_n 1, 1) := by decide +kernel
theorem dX10_stands_66 : decode cX10_stands 66 = .ok (.invokevirtual 278, 3) := by decide +kernel
theorem dX10_stands_69 : decode cX10_stands 69 = .ok (.if_icmp .ge 40, 3) := by decide +kernel
theorem dX10_stands_72 : decode cX10_stands 72 = .ok (.iload_n 3, 1) := by decide +kernel
theorem dX10_stands_73 : decode cX10_stands 73 = .ok (.ifCond .eq 36, 3) := by decide +kernel
theorem dX10_stands_76 : decode cX10_stands 76 = .ok (.aload_n 0, 1) := by decide +kernel
theorem dX10_stands_77 : decode cX10_stands 77 = .ok (.getfield 83, 3) := by decide +kernel
theorem dX10_stands_80 : decode cX10_stands 80 = .ok (.aload_n 0, 1) := by decide +kernel
theorem dX10_stands_81 : decode cX10_stands 81 = .ok (.getfield 267, 3) := by decide +kernel
theorem dX10_stands_84 : decode cX10_stands 84 = .ok (.iload 4, 2) := by decide +kernel
theorem dX10_stands_86 : decode cX10_stands 86 = .ok (.iadd, 1) := by decide +kernel
theorem dX10_stands_87 : decode cX10_stands 87 = .ok (.baload, 1) := by decide +kernel
theorem dX10_stands_88 : decode cX10_stands 88 = .ok (.aload_n 1, 1) := by decide +kernel
theorem dX10_stands_89 : decode cX10_stands 89 = .ok (.iload 4, 2) := by decide +kernel
theorem dX10_stands_91 : decode cX10_stands 91 = .ok (.invokevirtual 283, 3) := by decide +kernel
theorem dX10_stands_94 : decode cX10_stands 94 = .ok (.if_icmp .ne 7, 3) := by decide +kernel
theorem dX10_stands_97 : decode cX10_stands 97 = .ok (.iconst 1, 1) := by decide +kernel
theorem dX10_stands_98 : decode cX10_stands 98 = .ok (.goto 4, 3) := by decide +kernel
theorem dX10_stands_101 : decode cX10_stands 101 = .ok (.iconst 0, 1) := by decide +kernel
theorem dX10_stands_102 : decode cX10_stands 102 = .ok (.istore_n 3, 1) := by decide +kernel
theorem dX10_stands_103 : decode cX10_stands 103 = .ok (.iinc 4 1, 3) := by decide +kernel
theorem dX10_stands_106 : decode cX10_stands 106 = .ok (.goto (-43), 3) := by decide +kernel
theorem dX10_stands_109 : decode cX10_stands 109 = .ok (.iload_n 3, 1) := by decide +kernel
theorem dX10_stands_110 : decode cX10_stands 110 = .ok (.ireturn, 1) := by decide +kernel
theorem ce_X10_stands : CeV RX10 yX10_stands cX10_stands 5 (some .boolean) 1 := ⟨tb_1517, tp_64, tb_11, tb_1518, rfl, by decide, by decide, by decide +kernel⟩
set_option maxHeartbeats 4000000 in
set_option maxRecDepth 20000 in
theorem V_X10_stands (l : Launch) (D : va_G) (A : Nat → Prop) (ad : Nat → Nat) (ns : List Nat) (I : MI) (L : ML) (G : MG) (i : Nat) (q : String × Nat × String × List Int32) (hJ : SGM ns G) (hI : INV I) (hq : sq[i]? = some q) (hn : q.2.2.2.length < 16) (hn1 : 1 ≤ q.2.2.2.length) : Met l yX10_stands (wd yX10_stands cX10_stands 5 (some .boolean)) ({ frames := 4, cells := 0, slots := 0, locals := 85 }) (va_Pc [.ref (ad (1000)), .ref (D.2 100 i)] (PM D A ad ns I L G)) (va_Qi (fun r u => u = (ad, ns, I, L, G) ∧ (0 ≤ r.toInt ∧ r.toInt ≤ 1 ∧ (r.toInt ≠ 0 → (I 1000 25).toInt + (q.2.2.2.length : Int) ≤ (I 1000 24).toInt))) (BM D A) A) 0 0 A := by
  refine m_ofW (by decide) (Nat.le_of_ble_eq_true rfl) ?_
  intro p e s m below meth c ls args hC hE hM hA hS hl
  obtain ⟨hx, hb, hml, hown, hts, hr, hlocks, hin⟩ := hC
  have k0 : (0 : Int32).toInt = 0 := by decide
  have k1 : (1 : Int32).toInt = 1 := by decide
  have k97 : (97 : Int32).toInt = 97 := by decide
  have k122 : (122 : Int32).toInt = 122 := by decide
  have kN : (Int32.ofNat q.2.2.2.length).toInt = q.2.2.2.length := nI_toInt (by omega)
  have hl : lv_has ls 5 [(0, .ref (ad (1000))), (1, .ref (D.2 100 i))] := hl
  refine lv_aload_n hx hb dX10_stands_0 rfl (lv_at hl 0 rfl) ?_
  refine m_geti (1000) 25 hx hb hts hown hE oc10 hM hJ.1 rfl (by decide) rfl tb_1202 dX10_stands_1 ?_
  have g1 := hI.get (1000) 25 (lo := 0) (hi := 100000) rfl
  refine lv_istore_n (lv' := [(2, .int (I (1000) 25)), (0, .ref (ad (1000))), (1, .ref (D.2 100 i))]) hx hb dX10_stands_4 rfl hl (by decide) rfl (fun ls hl => ?_)
  have loop5 : ∀ (n : Nat) (x2_5 : Int32) (H : Heap) (locs : List Loc) (ls : Array Slot), (0 ≤ x2_5.toInt ∧ x2_5.toInt ≤ 100000) → ((I 1000 25).toInt ≤ (x2_5).toInt ∧ ((x2_5).toInt = (I 1000 25).toInt ∨ (x2_5).toInt ≤ (I 1000 24).toInt)) → (400 - x2_5.toInt).toNat < n → Mem D A ad ns I L G H → va_S A s.heap H locs → lv_has ls 5 [(2, .int (x2_5)), (0, .ref (ad (1000))), (1, .ref (D.2 100 i))] → W p l e ({ frames := 4, cells := 0, slots := 0, locals := 85 } : Room) s m args below meth c H locs 0 0 (MQ below (va_Qi (fun r u => u = (ad, ns, I, L, G) ∧ (0 ≤ r.toInt ∧ r.toInt ≤ 1 ∧ (r.toInt ≠ 0 → (I 1000 25).toInt + (q.2.2.2.length : Int) ≤ (I 1000 24).toInt))) (BM D A) A) args s 0 0 A) (F0 m 5 ls []) := by
    intro n
    induction n with
    | zero =>
      intro x2_5 H locs ls hr2_5 he5 hmu
      exact absurd hmu (Nat.not_lt_zero _)
    | succ n ih5 =>
      intro x2_5 H locs ls hr2_5 he5 hmu5 hM hS hl
      refine lv_iload_n hx hb dX10_stands_5 rfl (lv_at hl 0 rfl) ?_
      refine lv_aload_n hx hb dX10_stands_6 rfl (lv_at hl 1 rfl) ?_
      refine m_geti (1000) 24 hx hb hts hown hE oc10 hM hJ.1 rfl (by decide) rfl tb_1201 dX10_stands_7 ?_
      have g2 := hI.get (1000) 24 (lo := 0) (hi := 400) rfl
      refine lv_icmp_ge (tgt := 41) hx hb dX10_stands_10 (by decide) (fun c3 => ?_) (fun c3 => ?_)
      · have hc3 := c3
        have q3 := q_le hc3
        refine lv_iload_n hx hb dX10_stands_41 rfl (lv_at hl 0 rfl) ?_
        refine lv_aload_n hx hb dX10_stands_42 rfl (lv_at hl 1 rfl) ?_
        refine m_geti (1000) 25 hx hb hts hown hE oc10 hM hJ.1 rfl (by decide) rfl tb_1202 dX10_stands_43 ?_
        refine lv_isub hx hb dX10_stands_46 ?_
        refine lv_topi (fun v4 ev4 => ?_)
        have tv4 := a_sub ev4 (by omega) (by omega)
        refine lv_aload_n hx hb dX10_stands_47 rfl (lv_at hl 2 rfl) ?_
        refine m_calli (m_runVA (D.2 100 i) (As := []) (rest := [.int (v4)]) hx hb hml hown hts hE hM hS hA ce_J0_length_8abf5 tb_1519 (C_J0_length_8abf5 l D A ad ns I L G i _ hq hn) rfl rfl ⟨Nat.le_of_ble_eq_true rfl, Nat.le_of_ble_eq_true rfl⟩ (m_strr hE hS i hq) rfl hl.1 rfl (Nat.le_of_ble_eq_true rfl) dX10_stands_48 ⟨Nat.le_of_ble_eq_true rfl, Nat.le_of_ble_eq_true rfl⟩) hS (fun r5 u H locs hw hM hS => ?_)
        obtain ⟨rfl, rfl⟩ := hw
        have hM : Mem D A ad ns I L G H := hM
        refine lv_icmp_ne (tgt := 58) hx hb dX10_stands_51 (by decide) (fun c6 => ?_) (fun c6 => ?_)
        · have hc6 := c6
          have q6 := q_ne hc6
          refine lv_iconst (v := (0)) hx hb dX10_stands_58 (by decide) ?_
          refine lv_istore_n (lv' := [(3, .int (0)), (2, .int (x2_5)), (0, .ref (ad (1000))), (1, .ref (D.2 100 i))]) hx hb dX10_stands_59 rfl hl (by decide) rfl (fun ls hl => ?_)
          refine lv_iconst (v := (0)) hx hb dX10_stands_60 (by decide) ?_
          refine lv_istore (lv' := [(4, .int (0)), (3, .int (0)), (2, .int (x2_5)), (0, .ref (ad (1000))), (1, .ref (D.2 100 i))]) hx hb dX10_stands_61 hl (by decide) rfl (fun ls hl => ?_)
          have loop63 : ∀ (n : Nat) (x4_63 : Int32) (x3_63 : Int32) (H : Heap) (locs : List Loc) (ls : Array Slot), (0 ≤ x4_63.toInt ∧ x4_63.toInt ≤ 16) → (0 ≤ x3_63.toInt ∧ x3_63.toInt ≤ 1) → ((x3_63).toInt = 0 ∨ (x2_5).toInt - (I 1000 25).toInt = (q.2.2.2.length : Int)) → (16 - x4_63.toInt).toNat < n → Mem D A ad ns I L G H → va_S A s.heap H locs → lv_has ls 5 [(4, .int (x4_63)), (3, .int (x3_63)), (2, .int (x2_5)), (0, .ref (ad (1000))), (1, .ref (D.2 100 i))] → W p l e ({ frames := 4, cells := 0, slots := 0, locals := 85 } : Room) s m args below meth c H locs 0 0 (MQ below (va_Qi (fun r u => u = (ad, ns, I, L, G) ∧ (0 ≤ r.toInt ∧ r.toInt ≤ 1 ∧ (r.toInt ≠ 0 → (I 1000 25).toInt + (q.2.2.2.length : Int) ≤ (I 1000 24).toInt))) (BM D A) A) args s 0 0 A) (F0 m 63 ls []) := by
            intro n
            induction n with
            | zero =>
              intro x4_63 x3_63 H locs ls hr4_63 hr3_63 he63 hmu
              exact absurd hmu (Nat.not_lt_zero _)
            | succ n ih63 =>
              intro x4_63 x3_63 H locs ls hr4_63 hr3_63 he63 hmu63 hM hS hl
              refine lv_iload hx hb dX10_stands_63 (lv_at hl 0 rfl) ?_
              refine lv_aload_n hx hb dX10_stands_65 rfl (lv_at hl 4 rfl) ?_
              refine m_calli (m_runVA (D.2 100 i) (As := []) (rest := [.int (x4_63)]) hx hb hml hown hts hE hM hS hA ce_J0_length_8abf5 tb_1519 (C_J0_length_8abf5 l D A ad ns I L G i _ hq hn) rfl rfl ⟨Nat.le_of_ble_eq_true rfl, Nat.le_of_ble_eq_true rfl⟩ (m_strr hE hS i hq) rfl hl.1 rfl (Nat.le_of_ble_eq_true rfl) dX10_stands_66 ⟨Nat.le_of_ble_eq_true rfl, Nat.le_of_ble_eq_true rfl⟩) hS (fun r7 u H locs hw hM hS => ?_)
              obtain ⟨rfl, rfl⟩ := hw
              have hM : Mem D A ad ns I L G H := hM
              refine lv_icmp_ge (tgt := 109) hx hb dX10_stands_69 (by decide) (fun c8 => ?_) (fun c8 => ?_)
              · have hc8 := c8
                have q8 := q_le hc8
                refine lv_iload_n hx hb dX10_stands_109 rfl (lv_at hl 1 rfl) ?_
                exact m_zret hx hb hr (nar01 (by omega) (by omega)).1 hlocks hM hS (Nat.le_of_ble_eq_true rfl) (Nat.le_of_ble_eq_true rfl) ⟨rfl, (by first | omega | decide)⟩ dX10_stands_110
              · have hc8 := c8
                have q8 := q_nle hc8
                refine lv_iload_n hx hb dX10_stands_72 rfl (lv_at hl 1 rfl) ?_
                refine lv_if_eq (tgt := 109) hx hb dX10_stands_73 (by decide) (fun c9 => ?_) (fun c9 => ?_)
                · have hc9 := c9
                  have q9 := q_eq hc9
                  refine lv_iload_n hx hb dX10_stands_109 rfl (lv_at hl 1 rfl) ?_
                  exact m_zret hx hb hr (nar01 (by omega) (by omega)).1 hlocks hM hS (Nat.le_of_ble_eq_true rfl) (Nat.le_of_ble_eq_true rfl) ⟨rfl, (by first | omega | decide)⟩ dX10_stands_110
                · have hc9 := c9
                  have q9 := q_ne hc9
                  refine lv_aload_n hx hb dX10_stands_76 rfl (lv_at hl 3 rfl) ?_
                  refine m_getr (1000) 34 (1034) hx hb hts hown hE oc10 hM hJ.1 rfl (by decide) rfl (hJ.2 34 (by decide)).2 (by decide) tb_1211 dX10_stands_77 ?_
                  refine lv_aload_n hx hb dX10_stands_80 rfl (lv_at hl 3 rfl) ?_
                  refine m_geti (1000) 25 hx hb hts hown hE oc10 hM hJ.1 rfl (by decide) rfl tb_1202 dX10_stands_81 ?_
                  refine lv_iload hx hb dX10_stands_84 (lv_at hl 0 rfl) ?_
                  refine lv_iadd hx hb dX10_stands_86 ?_
                  refine lv_topi (fun v10 ev10 => ?_)
                  have tv10 := a_add ev10 (by omega) (by omega)
                  refine m_bald (1034) hx hb hE hM (hJ.2 34 (by decide)).1 rfl (vp_in_iff.mpr (by omega)) dX10_stands_87 ?_
                  refine lv_aload_n hx hb dX10_stands_88 rfl (lv_at hl 4 rfl) ?_
                  refine lv_iload hx hb dX10_stands_89 (lv_at hl 0 rfl) ?_
                  refine m_calli (m_runVA (D.2 100 i) (As := [.int (x4_63)]) (rest := [.int (I (1034) (v10).toNatClampNeg)]) hx hb hml hown hts hE hM hS hA ce_J0_charAt_5068e tb_1520 (C_J0_charAt_5068e l D A ad ns I L G i _ (x4_63) hq hn (by omega)) rfl rfl ⟨Nat.le_of_ble_eq_true rfl, Nat.le_of_ble_eq_true rfl⟩ (m_strr hE hS i hq) rfl hl.1 rfl (Nat.le_of_ble_eq_true rfl) dX10_stands_91 ⟨Nat.le_of_ble_eq_true rfl, Nat.le_of_ble_eq_true rfl⟩) hS (fun r11 u H locs hw hM hS => ?_)
                  obtain ⟨rfl, xr11⟩ := hw
                  have hM : Mem D A ad ns I L G H := hM
                  have yr11 := a_and (c := 255) xr11 (by decide) (by decide)
                  refine lv_icmp_ne (tgt := 101) hx hb dX10_stands_94 (by decide) (fun c12 => ?_) (fun c12 => ?_)
                  · have hc12 := c12
                    have q12 := q_ne hc12
                    refine lv_iconst (v := (0)) hx hb dX10_stands_101 (by decide) ?_
                    refine lv_istore_n (lv' := [(3, .int (0)), (4, .int (x4_63)), (2, .int (x2_5)), (0, .ref (ad (1000))), (1, .ref (D.2 100 i))]) hx hb dX10_stands_102 rfl hl (by decide) rfl (fun ls hl => ?_)
                    obtain ⟨v13, ev13⟩ : ∃ z : Int32, z = x4_63 + Int32.ofInt (1) := ⟨_, rfl⟩
                    have tv13 := a_inc ev13 (by decide) (by omega) (by omega)
                    refine lv_iinc (v := v13) (lv' := [(4, .int (v13)), (3, .int (0)), (2, .int (x2_5)), (0, .ref (ad (1000))), (1, .ref (D.2 100 i))]) hx hb dX10_stands_103 hl (k := 1) rfl ev13.symm (by decide) rfl (fun ls hl => ?_)
                    refine lv_goto (tgt := 63) hx hb dX10_stands_106 (by decide) ?_
                    exact ih63 (v13) (0) _ _ ls (by first | omega | decide) (by first | omega | decide) (by omega) (by omega) hM hS (lv_sub hl [0, 1, 2, 3, 4] rfl)
                  · have hc12 := c12
                    have q12 := q_eq hc12
                    refine lv_iconst (v := (1)) hx hb dX10_stands_97 (by decide) ?_
                    refine lv_goto (tgt := 102) hx hb dX10_stands_98 (by decide) ?_
                    refine lv_istore_n (lv' := [(3, .int (1)), (4, .int (x4_63)), (2, .int (x2_5)), (0, .ref (ad (1000))), (1, .ref (D.2 100 i))]) hx hb dX10_stands_102 rfl hl (by decide) rfl (fun ls hl => ?_)
                    obtain ⟨v14, ev14⟩ : ∃ z : Int32, z = x4_63 + Int32.ofInt (1) := ⟨_, rfl⟩
                    have tv14 := a_inc ev14 (by decide) (by omega) (by omega)
                    refine lv_iinc (v := v14) (lv' := [(4, .int (v14)), (3, .int (1)), (2, .int (x2_5)), (0, .ref (ad (1000))), (1, .ref (D.2 100 i))]) hx hb dX10_stands_103 hl (k := 1) rfl ev14.symm (by decide) rfl (fun ls hl => ?_)
                    refine lv_goto (tgt := 63) hx hb dX10_stands_106 (by decide) ?_
                    exact ih63 (v14) (1) _ _ ls (by first | omega | decide) (by first | omega | decide) (by omega) (by omega) hM hS (lv_sub hl [0, 1, 2, 3, 4] rfl)
          exact loop63 (_ + 1) (0) (0) _ _ ls (by first | omega | decide) (by first | omega | decide) (by omega) (Nat.lt_succ_self _) hM hS (lv_sub hl [0, 1, 2, 3, 4] rfl)
        · have hc6 := c6
          have q6 := q_eq hc6
          refine lv_iconst (v := (1)) hx hb dX10_stands_54 (by decide) ?_
          refine lv_goto (tgt := 59) hx hb dX10_stands_55 (by decide) ?_
          refine lv_istore_n (lv' := [(3, .int (1)), (2, .int (x2_5)), (0, .ref (ad (1000))), (1, .ref (D.2 100 i))]) hx hb dX10_stands_59 rfl hl (by decide) rfl (fun ls hl => ?_)
          refine lv_iconst (v := (0)) hx hb dX10_stands_60 (by decide) ?_
          refine lv_istore (lv' := [(4, .int (0)), (3, .int (1)), (2, .int (x2_5)), (0, .ref (ad (1000))), (1, .ref (D.2 100 i))]) hx hb dX10_stands_61 hl (by decide) rfl (fun ls hl => ?_)
          have loop63 : ∀ (n : Nat) (x4_63 : Int32) (x3_63 : Int32) (H : Heap) (locs : List Loc) (ls : Array Slot), (0 ≤ x4_63.toInt ∧ x4_63.toInt ≤ 16) → (0 ≤ x3_63.toInt ∧ x3_63.toInt ≤ 1) → ((x3_63).toInt = 0 ∨ (x2_5).toInt - (I 1000 25).toInt = (q.2.2.2.length : Int)) → (16 - x4_63.toInt).toNat < n → Mem D A ad ns I L G H → va_S A s.heap H locs → lv_has ls 5 [(4, .int (x4_63)), (3, .int (x3_63)), (2, .int (x2_5)), (0, .ref (ad (1000))), (1, .ref (D.2 100 i))] → W p l e ({ frames := 4, cells := 0, slots := 0, locals := 85 } : Room) s m args below meth c H locs 0 0 (MQ below (va_Qi (fun r u => u = (ad, ns, I, L, G) ∧ (0 ≤ r.toInt ∧ r.toInt ≤ 1 ∧ (r.toInt ≠ 0 → (I 1000 25).toInt + (q.2.2.2.length : Int) ≤ (I 1000 24).toInt))) (BM D A) A) args s 0 0 A) (F0 m 63 ls []) := by
            intro n
            induction n with
            | zero =>
              intro x4_63 x3_63 H locs ls hr4_63 hr3_63 he63 hmu
              exact absurd hmu (Nat.not_lt_zero _)
            | succ n ih63 =>
              intro x4_63 x3_63 H locs ls hr4_63 hr3_63 he63 hmu63 hM hS hl
              refine lv_iload hx hb dX10_stands_63 (lv_at hl 0 rfl) ?_
              refine lv_aload_n hx hb dX10_stands_65 rfl (lv_at hl 4 rfl) ?_
              refine m_calli (m_runVA (D.2 100 i) (As := []) (rest := [.int (x4_63)]) hx hb hml hown hts hE hM hS hA ce_J0_length_8abf5 tb_1519 (C_J0_length_8abf5 l D A ad ns I L G i _ hq hn) rfl rfl ⟨Nat.le_of_ble_eq_true rfl, Nat.le_of_ble_eq_true rfl⟩ (m_strr hE hS i hq) rfl hl.1 rfl (Nat.le_of_ble_eq_true rfl) dX10_stands_66 ⟨Nat.le_of_ble_eq_true rfl, Nat.le_of_ble_eq_true rfl⟩) hS (fun r15 u H locs hw hM hS => ?_)
              obtain ⟨rfl, rfl⟩ := hw
              have hM : Mem D A ad ns I L G H := hM
              refine lv_icmp_ge (tgt := 109) hx hb dX10_stands_69 (by decide) (fun c16 => ?_) (fun c16 => ?_)
              · have hc16 := c16
                have q16 := q_le hc16
                refine lv_iload_n hx hb dX10_stands_109 rfl (lv_at hl 1 rfl) ?_
                exact m_zret hx hb hr (nar01 (by omega) (by omega)).1 hlocks hM hS (Nat.le_of_ble_eq_true rfl) (Nat.le_of_ble_eq_true rfl) ⟨rfl, (by first | omega | decide)⟩ dX10_stands_110
              · have hc16 := c16
                have q16 := q_nle hc16
                refine lv_iload_n hx hb dX10_stands_72 rfl (lv_at hl 1 rfl) ?_
                refine lv_if_eq (tgt := 109) hx hb dX10_stands_73 (by decide) (fun c17 => ?_) (fun c17 => ?_)
                · have hc17 := c17
                  have q17 := q_eq hc17
                  refine lv_iload_n hx hb dX10_stands_109 rfl (lv_at hl 1 rfl) ?_
                  exact m_zret hx hb hr (nar01 (by omega) (by omega)).1 hlocks hM hS (Nat.le_of_ble_eq_true rfl) (Nat.le_of_ble_eq_true rfl) ⟨rfl, (by first | omega | decide)⟩ dX10_stands_110
                · have hc17 := c17
                  have q17 := q_ne hc17
                  refine lv_aload_n hx hb dX10_stands_76 rfl (lv_at hl 3 rfl) ?_
                  refine m_getr (1000) 34 (1034) hx hb hts hown hE oc10 hM hJ.1 rfl (by decide) rfl (hJ.2 34 (by decide)).2 (by decide) tb_1211 dX10_stands_77 ?_
                  refine lv_aload_n hx hb dX10_stands_80 rfl (lv_at hl 3 rfl) ?_
                  refine m_geti (1000) 25 hx hb hts hown hE oc10 hM hJ.1 rfl (by decide) rfl tb_1202 dX10_stands_81 ?_
                  refine lv_iload hx hb dX10_stands_84 (lv_at hl 0 rfl) ?_
                  refine lv_iadd hx hb dX10_stands_86 ?_
                  refine lv_topi (fun v18 ev18 => ?_)
                  have tv18 := a_add ev18 (by omega) (by omega)
                  refine m_bald (1034) hx hb hE hM (hJ.2 34 (by decide)).1 rfl (vp_in_iff.mpr (by omega)) dX10_stands_87 ?_
                  refine lv_aload_n hx hb dX10_stands_88 rfl (lv_at hl 4 rfl) ?_
                  refine lv_iload hx hb dX10_stands_89 (lv_at hl 0 rfl) ?_
                  refine m_calli (m_runVA (D.2 100 i) (As := [.int (x4_63)]) (rest := [.int (I (1034) (v18).toNatClampNeg)]) hx hb hml hown hts hE hM hS hA ce_J0_charAt_5068e tb_1520 (C_J0_charAt_5068e l D A ad ns I L G i _ (x4_63) hq hn (by omega)) rfl rfl ⟨Nat.le_of_ble_eq_true rfl, Nat.le_of_ble_eq_true rfl⟩ (m_strr hE hS i hq) rfl hl.1 rfl (Nat.le_of_ble_eq_true rfl) dX10_stands_91 ⟨Nat.le_of_ble_eq_true rfl, Nat.le_of_ble_eq_true rfl⟩) hS (fun r19 u H locs hw hM hS => ?_)
                  obtain ⟨rfl, xr19⟩ := hw
                  have hM : Mem D A ad ns I L G H := hM
                  have yr19 := a_and (c := 255) xr19 (by decide) (by decide)
                  refine lv_icmp_ne (tgt := 101) hx hb dX10_stands_94 (by decide) (fun c20 => ?_) (fun c20 => ?_)
                  · have hc20 := c20
                    have q20 := q_ne hc20
                    refine lv_iconst (v := (0)) hx hb dX10_stands_101 (by decide) ?_
                    refine lv_istore_n (lv' := [(3, .int (0)), (4, .int (x4_63)), (2, .int (x2_5)), (0, .ref (ad (1000))), (1, .ref (D.2 100 i))]) hx hb dX10_stands_102 rfl hl (by decide) rfl (fun ls hl => ?_)
                    obtain ⟨v21, ev21⟩ : ∃ z : Int32, z = x4_63 + Int32.ofInt (1) := ⟨_, rfl⟩
                    have tv21 := a_inc ev21 (by decide) (by omega) (by omega)
                    refine lv_iinc (v := v21) (lv' := [(4, .int (v21)), (3, .int (0)), (2, .int (x2_5)), (0, .ref (ad (1000))), (1, .ref (D.2 100 i))]) hx hb dX10_stands_103 hl (k := 1) rfl ev21.symm (by decide) rfl (fun ls hl => ?_)
                    refine lv_goto (tgt := 63) hx hb dX10_stands_106 (by decide) ?_
                    exact ih63 (v21) (0) _ _ ls (by first | omega | decide) (by first | omega | decide) (by omega) (by omega) hM hS (lv_sub hl [0, 1, 2, 3, 4] rfl)
                  · have hc20 := c20
                    have q20 := q_eq hc20
                    refine lv_iconst (v := (1)) hx hb dX10_stands_97 (by decide) ?_
                    refine lv_goto (tgt := 102) hx hb dX10_stands_98 (by decide) ?_
                    refine lv_istore_n (lv' := [(3, .int (1)), (4, .int (x4_63)), (2, .int (x2_5)), (0, .ref (ad (1000))), (1, .ref (D.2 100 i))]) hx hb dX10_stands_102 rfl hl (by decide) rfl (fun ls hl => ?_)
                    obtain ⟨v22, ev22⟩ : ∃ z : Int32, z = x4_63 + Int32.ofInt (1) := ⟨_, rfl⟩
                    have tv22 := a_inc ev22 (by decide) (by omega) (by omega)
                    refine lv_iinc (v := v22) (lv' := [(4, .int (v22)), (3, .int (1)), (2, .int (x2_5)), (0, .ref (ad (1000))), (1, .ref (D.2 100 i))]) hx hb dX10_stands_103 hl (k := 1) rfl ev22.symm (by decide) rfl (fun ls hl => ?_)
                    refine lv_goto (tgt := 63) hx hb dX10_stands_106 (by decide) ?_
                    exact ih63 (v22) (1) _ _ ls (by first | omega | decide) (by first | omega | decide) (by omega) (by omega) hM hS (lv_sub hl [0, 1, 2, 3, 4] rfl)
          exact loop63 (_ + 1) (0) (1) _ _ ls (by first | omega | decide) (by first | omega | decide) (by omega) (Nat.lt_succ_self _) hM hS (lv_sub hl [0, 1, 2, 3, 4] rfl)
      · have hc3 := c3
        have q3 := q_nle hc3
        refine lv_aload_n hx hb dX10_stands_13 rfl (lv_at hl 1 rfl) ?_
        refine m_getr (1000) 34 (1034) hx hb hts hown hE oc10 hM hJ.1 rfl (by decide) rfl (hJ.2 34 (by decide)).2 (by decide) tb_1211 dX10_stands_14 ?_
        refine lv_iload_n hx hb dX10_stands_17 rfl (lv_at hl 0 rfl) ?_
        refine m_bald (1034) hx hb hE hM (hJ.2 34 (by decide)).1 rfl (vp_in_iff.mpr (by omega)) dX10_stands_18 ?_
        refine lv_bipush (v := (97)) hx hb dX10_stands_19 (by decide) ?_
        refine lv_icmp_lt (tgt := 41) hx hb dX10_stands_21 (by decide) (fun c23 => ?_) (fun c23 => ?_)
        · have hc23 := c23
          have q23 := q_lt hc23
          refine lv_iload_n hx hb dX10_stands_41 rfl (lv_at hl 0 rfl) ?_
          refine lv_aload_n hx hb dX10_stands_42 rfl (lv_at hl 1 rfl) ?_
          refine m_geti (1000) 25 hx hb hts hown hE oc10 hM hJ.1 rfl (by decide) rfl tb_1202 dX10_stands_43 ?_
          refine lv_isub hx hb dX10_stands_46 ?_
          refine lv_topi (fun v24 ev24 => ?_)
          have tv24 := a_sub ev24 (by omega) (by omega)
          refine lv_aload_n hx hb dX10_stands_47 rfl (lv_at hl 2 rfl) ?_
          refine m_calli (m_runVA (D.2 100 i) (As := []) (rest := [.int (v24)]) hx hb hml hown hts hE hM hS hA ce_J0_length_8abf5 tb_1519 (C_J0_length_8abf5 l D A ad ns I L G i _ hq hn) rfl rfl ⟨Nat.le_of_ble_eq_true rfl, Nat.le_of_ble_eq_true rfl⟩ (m_strr hE hS i hq) rfl hl.1 rfl (Nat.le_of_ble_eq_true rfl) dX10_stands_48 ⟨Nat.le_of_ble_eq_true rfl, Nat.le_of_ble_eq_true rfl⟩) hS (fun r25 u H locs hw hM hS => ?_)
          obtain ⟨rfl, rfl⟩ := hw
          have hM : Mem D A ad ns I L G H := hM
          refine lv_icmp_ne (tgt := 58) hx hb dX10_stands_51 (by decide) (fun c26 => ?_) (fun c26 => ?_)
          · have hc26 := c26
            have q26 := q_ne hc26
            refine lv_iconst (v := (0)) hx hb dX10_stands_58 (by decide) ?_
            refine lv_istore_n (lv' := [(3, .int (0)), (2, .int (x2_5)), (0, .ref (ad (1000))), (1, .ref (D.2 100 i))]) hx hb dX10_stands_59 rfl hl (by decide) rfl (fun ls hl => ?_)
            refine lv_iconst (v := (0)) hx hb dX10_stands_60 (by decide) ?_
            refine lv_istore (lv' := [(4, .int (0)), (3, .int (0)), (2, .int (x2_5)), (0, .ref (ad (1000))), (1, .ref (D.2 100 i))]) hx hb dX10_stands_61 hl (by decide) rfl (fun ls hl => ?_)
            have loop63 : ∀ (n : Nat) (x4_63 : Int32) (x3_63 : Int32) (H : Heap) (locs : List Loc) (ls : Array Slot), (0 ≤ x4_63.toInt ∧ x4_63.toInt ≤ 16) → (0 ≤ x3_63.toInt ∧ x3_63.toInt ≤ 1) → ((x3_63).toInt = 0 ∨ (x2_5).toInt - (I 1000 25).toInt = (q.2.2.2.length : Int)) → (16 - x4_63.toInt).toNat < n → Mem D A ad ns I L G H → va_S A s.heap H locs → lv_has ls 5 [(4, .int (x4_63)), (3, .int (x3_63)), (2, .int (x2_5)), (0, .ref (ad (1000))), (1, .ref (D.2 100 i))] → W p l e ({ frames := 4, cells := 0, slots := 0, locals := 85 } : Room) s m args below meth c H locs 0 0 (MQ below (va_Qi (fun r u => u = (ad, ns, I, L, G) ∧ (0 ≤ r.toInt ∧ r.toInt ≤ 1 ∧ (r.toInt ≠ 0 → (I 1000 25).toInt + (q.2.2.2.length : Int) ≤ (I 1000 24).toInt))) (BM D A) A) args s 0 0 A) (F0 m 63 ls []) := by
              intro n
              induction n with
              | zero =>
                intro x4_63 x3_63 H locs ls hr4_63 hr3_63 he63 hmu
                exact absurd hmu (Nat.not_lt_zero _)
              | succ n ih63 =>
                intro x4_63 x3_63 H locs ls hr4_63 hr3_63 he63 hmu63 hM hS hl
                refine lv_iload hx hb dX10_stands_63 (lv_at hl 0 rfl) ?_
                refine lv_aload_n hx hb dX10_stands_65 rfl (lv_at hl 4 rfl) ?_
                refine m_calli (m_runVA (D.2 100 i) (As := []) (rest := [.int (x4_63)]) hx hb hml hown hts hE hM hS hA ce_J0_length_8abf5 tb_1519 (C_J0_length_8abf5 l D A ad ns I L G i _ hq hn) rfl rfl ⟨Nat.le_of_ble_eq_true rfl, Nat.le_of_ble_eq_true rfl⟩ (m_strr hE hS i hq) rfl hl.1 rfl (Nat.le_of_ble_eq_true rfl) dX10_stands_66 ⟨Nat.le_of_ble_eq_true rfl, Nat.le_of_ble_eq_true rfl⟩) hS (fun r27 u H locs hw hM hS => ?_)
                obtain ⟨rfl, rfl⟩ := hw
                have hM : Mem D A ad ns I L G H := hM
                refine lv_icmp_ge (tgt := 109) hx hb dX10_stands_69 (by decide) (fun c28 => ?_) (fun c28 => ?_)
                · have hc28 := c28
                  have q28 := q_le hc28
                  refine lv_iload_n hx hb dX10_stands_109 rfl (lv_at hl 1 rfl) ?_
                  exact m_zret hx hb hr (nar01 (by omega) (by omega)).1 hlocks hM hS (Nat.le_of_ble_eq_true rfl) (Nat.le_of_ble_eq_true rfl) ⟨rfl, (by first | omega | decide)⟩ dX10_stands_110
                · have hc28 := c28
                  have q28 := q_nle hc28
                  refine lv_iload_n hx hb dX10_stands_72 rfl (lv_at hl 1 rfl) ?_
                  refine lv_if_eq (tgt := 109) hx hb dX10_stands_73 (by decide) (fun c29 => ?_) (fun c29 => ?_)
                  · have hc29 := c29
                    have q29 := q_eq hc29
                    refine lv_iload_n hx hb dX10_stands_109 rfl (lv_at hl 1 rfl) ?_
                    exact m_zret hx hb hr (nar01 (by omega) (by omega)).1 hlocks hM hS (Nat.le_of_ble_eq_true rfl) (Nat.le_of_ble_eq_true rfl) ⟨rfl, (by first | omega | decide)⟩ dX10_stands_110
                  · have hc29 := c29
                    have q29 := q_ne hc29
                    refine lv_aload_n hx hb dX10_stands_76 rfl (lv_at hl 3 rfl) ?_
                    refine m_getr (1000) 34 (1034) hx hb hts hown hE oc10 hM hJ.1 rfl (by decide) rfl (hJ.2 34 (by decide)).2 (by decide) tb_1211 dX10_stands_77 ?_
                    refine lv_aload_n hx hb dX10_stands_80 rfl (lv_at hl 3 rfl) ?_
                    refine m_geti (1000) 25 hx hb hts hown hE oc10 hM hJ.1 rfl (by decide) rfl tb_1202 dX10_stands_81 ?_
                    refine lv_iload hx hb dX10_stands_84 (lv_at hl 0 rfl) ?_
                    refine lv_iadd hx hb dX10_stands_86 ?_
                    refine lv_topi (fun v30 ev30 => ?_)
                    have tv30 := a_add ev30 (by omega) (by omega)
                    refine m_bald (1034) hx hb hE hM (hJ.2 34 (by decide)).1 rfl (vp_in_iff.mpr (by omega)) dX10_stands_87 ?_
                    refine lv_aload_n hx hb dX10_stands_88 rfl (lv_at hl 4 rfl) ?_
                    refine lv_iload hx hb dX10_stands_89 (lv_at hl 0 rfl) ?_
                    refine m_calli (m_runVA (D.2 100 i) (As := [.int (x4_63)]) (rest := [.int (I (1034) (v30).toNatClampNeg)]) hx hb hml hown hts hE hM hS hA ce_J0_charAt_5068e tb_1520 (C_J0_charAt_5068e l D A ad ns I L G i _ (x4_63) hq hn (by omega)) rfl rfl ⟨Nat.le_of_ble_eq_true rfl, Nat.le_of_ble_eq_true rfl⟩ (m_strr hE hS i hq) rfl hl.1 rfl (Nat.le_of_ble_eq_true rfl) dX10_stands_91 ⟨Nat.le_of_ble_eq_true rfl, Nat.le_of_ble_eq_true rfl⟩) hS (fun r31 u H locs hw hM hS => ?_)
                    obtain ⟨rfl, xr31⟩ := hw
                    have hM : Mem D A ad ns I L G H := hM
                    have yr31 := a_and (c := 255) xr31 (by decide) (by decide)
                    refine lv_icmp_ne (tgt := 101) hx hb dX10_stands_94 (by decide) (fun c32 => ?_) (fun c32 => ?_)
                    · have hc32 := c32
                      have q32 := q_ne hc32
                      refine lv_iconst (v := (0)) hx hb dX10_stands_101 (by decide) ?_
                      refine lv_istore_n (lv' := [(3, .int (0)), (4, .int (x4_63)), (2, .int (x2_5)), (0, .ref (ad (1000))), (1, .ref (D.2 100 i))]) hx hb dX10_stands_102 rfl hl (by decide) rfl (fun ls hl => ?_)
                      obtain ⟨v33, ev33⟩ : ∃ z : Int32, z = x4_63 + Int32.ofInt (1) := ⟨_, rfl⟩
                      have tv33 := a_inc ev33 (by decide) (by omega) (by omega)
                      refine lv_iinc (v := v33) (lv' := [(4, .int (v33)), (3, .int (0)), (2, .int (x2_5)), (0, .ref (ad (1000))), (1, .ref (D.2 100 i))]) hx hb dX10_stands_103 hl (k := 1) rfl ev33.symm (by decide) rfl (fun ls hl => ?_)
                      refine lv_goto (tgt := 63) hx hb dX10_stands_106 (by decide) ?_
                      exact ih63 (v33) (0) _ _ ls (by first | omega | decide) (by first | omega | decide) (by omega) (by omega) hM hS (lv_sub hl [0, 1, 2, 3, 4] rfl)
                    · have hc32 := c32
                      have q32 := q_eq hc32
                      refine lv_iconst (v := (1)) hx hb dX10_stands_97 (by decide) ?_
                      refine lv_goto (tgt := 102) hx hb dX10_stands_98 (by decide) ?_
                      refine lv_istore_n (lv' := [(3, .int (1)), (4, .int (x4_63)), (2, .int (x2_5)), (0, .ref (ad (1000))), (1, .ref (D.2 100 i))]) hx hb dX10_stands_102 rfl hl (by decide) rfl (fun ls hl => ?_)
                      obtain ⟨v34, ev34⟩ : ∃ z : Int32, z = x4_63 + Int32.ofInt (1) := ⟨_, rfl⟩
                      have tv34 := a_inc ev34 (by decide) (by omega) (by omega)
                      refine lv_iinc (v := v34) (lv' := [(4, .int (v34)), (3, .int (1)), (2, .int (x2_5)), (0, .ref (ad (1000))), (1, .ref (D.2 100 i))]) hx hb dX10_stands_103 hl (k := 1) rfl ev34.symm (by decide) rfl (fun ls hl => ?_)
                      refine lv_goto (tgt := 63) hx hb dX10_stands_106 (by decide) ?_
                      exact ih63 (v34) (1) _ _ ls (by first | omega | decide) (by first | omega | decide) (by omega) (by omega) hM hS (lv_sub hl [0, 1, 2, 3, 4] rfl)
            exact loop63 (_ + 1) (0) (0) _ _ ls (by first | omega | decide) (by first | omega | decide) (by omega) (Nat.lt_succ_self _) hM hS (lv_sub hl [0, 1, 2, 3, 4] rfl)
          · have hc26 := c26
            have q26 := q_eq hc26
            refine lv_iconst (v := (1)) hx hb dX10_stands_54 (by decide) ?_
            refine lv_goto (tgt := 59) hx hb dX10_stands_55 (by decide) ?_
            refine lv_istore_n (lv' := [(3, .int (1)), (2, .int (x2_5)), (0, .ref (ad (1000))), (1, .ref (D.2 100 i))]) hx hb dX10_stands_59 rfl hl (by decide) rfl (fun ls hl => ?_)
            refine lv_iconst (v := (0)) hx hb dX10_stands_60 (by decide) ?_
            refine lv_istore (lv' := [(4, .int (0)), (3, .int (1)), (2, .int (x2_5)), (0, .ref (ad (1000))), (1, .ref (D.2 100 i))]) hx hb dX10_stands_61 hl (by decide) rfl (fun ls hl => ?_)
            have loop63 : ∀ (n : Nat) (x4_63 : Int32) (x3_63 : Int32) (H : Heap) (locs : List Loc) (ls : Array Slot), (0 ≤ x4_63.toInt ∧ x4_63.toInt ≤ 16) → (0 ≤ x3_63.toInt ∧ x3_63.toInt ≤ 1) → ((x3_63).toInt = 0 ∨ (x2_5).toInt - (I 1000 25).toInt = (q.2.2.2.length : Int)) → (16 - x4_63.toInt).toNat < n → Mem D A ad ns I L G H → va_S A s.heap H locs → lv_has ls 5 [(4, .int (x4_63)), (3, .int (x3_63)), (2, .int (x2_5)), (0, .ref (ad (1000))), (1, .ref (D.2 100 i))] → W p l e ({ frames := 4, cells := 0, slots := 0, locals := 85 } : Room) s m args below meth c H locs 0 0 (MQ below (va_Qi (fun r u => u = (ad, ns, I, L, G) ∧ (0 ≤ r.toInt ∧ r.toInt ≤ 1 ∧ (r.toInt ≠ 0 → (I 1000 25).toInt + (q.2.2.2.length : Int) ≤ (I 1000 24).toInt))) (BM D A) A) args s 0 0 A) (F0 m 63 ls []) := by
              intro n
              induction n with
              | zero =>
                intro x4_63 x3_63 H locs ls hr4_63 hr3_63 he63 hmu
                exact absurd hmu (Nat.not_lt_zero _)
              | succ n ih63 =>
                intro x4_63 x3_63 H locs ls hr4_63 hr3_63 he63 hmu63 hM hS hl
                refine lv_iload hx hb dX10_stands_63 (lv_at hl 0 rfl) ?_
                refine lv_aload_n hx hb dX10_stands_65 rfl (lv_at hl 4 rfl) ?_
                refine m_calli (m_runVA (D.2 100 i) (As := []) (rest := [.int (x4_63)]) hx hb hml hown hts hE hM hS hA ce_J0_length_8abf5 tb_1519 (C_J0_length_8abf5 l D A ad ns I L G i _ hq hn) rfl rfl ⟨Nat.le_of_ble_eq_true rfl, Nat.le_of_ble_eq_true rfl⟩ (m_strr hE hS i hq) rfl hl.1 rfl (Nat.le_of_ble_eq_true rfl) dX10_stands_66 ⟨Nat.le_of_ble_eq_true rfl, Nat.le_of_ble_eq_true rfl⟩) hS (fun r35 u H locs hw hM hS => ?_)
                obtain ⟨rfl, rfl⟩ := hw
                have hM : Mem D A ad ns I L G H := hM
                refine lv_icmp_ge (tgt := 109) hx hb dX10_stands_69 (by decide) (fun c36 => ?_) (fun c36 => ?_)
                · have hc36 := c36
                  have q36 := q_le hc36
                  refine lv_iload_n hx hb dX10_stands_109 rfl (lv_at hl 1 rfl) ?_
                  exact m_zret hx hb hr (nar01 (by omega) (by omega)).1 hlocks hM hS (Nat.le_of_ble_eq_true rfl) (Nat.le_of_ble_eq_true rfl) ⟨rfl, (by first | omega | decide)⟩ dX10_stands_110
                · have hc36 := c36
                  have q36 := q_nle hc36
                  refine lv_iload_n hx hb dX10_stands_72 rfl (lv_at hl 1 rfl) ?_
                  refine lv_if_eq (tgt := 109) hx hb dX10_stands_73 (by decide) (fun c37 => ?_) (fun c37 => ?_)
                  · have hc37 := c37
                    have q37 := q_eq hc37
                    refine lv_iload_n hx hb dX10_stands_109 rfl (lv_at hl 1 rfl) ?_
                    exact m_zret hx hb hr (nar01 (by omega) (by omega)).1 hlocks hM hS (Nat.le_of_ble_eq_true rfl) (Nat.le_of_ble_eq_true rfl) ⟨rfl, (by first | omega | decide)⟩ dX10_stands_110
                  · have hc37 := c37
                    have q37 := q_ne hc37
                    refine lv_aload_n hx hb dX10_stands_76 rfl (lv_at hl 3 rfl) ?_
                    refine m_getr (1000) 34 (1034) hx hb hts hown hE oc10 hM hJ.1 rfl (by decide) rfl (hJ.2 34 (by decide)).2 (by decide) tb_1211 dX10_stands_77 ?_
                    refine lv_aload_n hx hb dX10_stands_80 rfl (lv_at hl 3 rfl) ?_
                    refine m_geti (1000) 25 hx hb hts hown hE oc10 hM hJ.1 rfl (by decide) rfl tb_1202 dX10_stands_81 ?_
                    refine lv_iload hx hb dX10_stands_84 (lv_at hl 0 rfl) ?_
                    refine lv_iadd hx hb dX10_stands_86 ?_
                    refine lv_topi (fun v38 ev38 => ?_)
                    have tv38 := a_add ev38 (by omega) (by omega)
                    refine m_bald (1034) hx hb hE hM (hJ.2 34 (by decide)).1 rfl (vp_in_iff.mpr (by omega)) dX10_stands_87 ?_
                    refine lv_aload_n hx hb dX10_stands_88 rfl (lv_at hl 4 rfl) ?_
                    refine lv_iload hx hb dX10_stands_89 (lv_at hl 0 rfl) ?_
                    refine m_calli (m_runVA (D.2 100 i) (As := [.int (x4_63)]) (rest := [.int (I (1034) (v38).toNatClampNeg)]) hx hb hml hown hts hE hM hS hA ce_J0_charAt_5068e tb_1520 (C_J0_charAt_5068e l D A ad ns I L G i _ (x4_63) hq hn (by omega)) rfl rfl ⟨Nat.le_of_ble_eq_true rfl, Nat.le_of_ble_eq_true rfl⟩ (m_strr hE hS i hq) rfl hl.1 rfl (Nat.le_of_ble_eq_true rfl) dX10_stands_91 ⟨Nat.le_of_ble_eq_true rfl, Nat.le_of_ble_eq_true rfl⟩) hS (fun r39 u H locs hw hM hS => ?_)
                    obtain ⟨rfl, xr39⟩ := hw
                    have hM : Mem D A ad ns I L G H := hM
                    have yr39 := a_and (c := 255) xr39 (by decide) (by decide)
                    refine lv_icmp_ne (tgt := 101) hx hb dX10_stands_94 (by decide) (fun c40 => ?_) (fun c40 => ?_)
                    · have hc40 := c40
                      have q40 := q_ne hc40
                      refine lv_iconst (v := (0)) hx hb dX10_stands_101 (by decide) ?_
                      refine lv_istore_n (lv' := [(3, .int (0)), (4, .int (x4_63)), (2, .int (x2_5)), (0, .ref (ad (1000))), (1, .ref (D.2 100 i))]) hx hb dX10_stands_102 rfl hl (by decide) rfl (fun ls hl => ?_)
                      obtain ⟨v41, ev41⟩ : ∃ z : Int32, z = x4_63 + Int32.ofInt (1) := ⟨_, rfl⟩
                      have tv41 := a_inc ev41 (by decide) (by omega) (by omega)
                      refine lv_iinc (v := v41) (lv' := [(4, .int (v41)), (3, .int (0)), (2, .int (x2_5)), (0, .ref (ad (1000))), (1, .ref (D.2 100 i))]) hx hb dX10_stands_103 hl (k := 1) rfl ev41.symm (by decide) rfl (fun ls hl => ?_)
                      refine lv_goto (tgt := 63) hx hb dX10_stands_106 (by decide) ?_
                      exact ih63 (v41) (0) _ _ ls (by first | omega | decide) (by first | omega | decide) (by omega) (by omega) hM hS (lv_sub hl [0, 1, 2, 3, 4] rfl)
                    · have hc40 := c40
                      have q40 := q_eq hc40
                      refine lv_iconst (v := (1)) hx hb dX10_stands_97 (by decide) ?_
                      refine lv_goto (tgt := 102) hx hb dX10_stands_98 (by decide) ?_
                      refine lv_istore_n (lv' := [(3, .int (1)), (4, .int (x4_63)), (2, .int (x2_5)), (0, .ref (ad (1000))), (1, .ref (D.2 100 i))]) hx hb dX10_stands_102 rfl hl (by decide) rfl (fun ls hl => ?_)
                      obtain ⟨v42, ev42⟩ : ∃ z : Int32, z = x4_63 + Int32.ofInt (1) := ⟨_, rfl⟩
                      have tv42 := a_inc ev42 (by decide) (by omega) (by omega)
                      refine lv_iinc (v := v42) (lv' := [(4, .int (v42)), (3, .int (1)), (2, .int (x2_5)), (0, .ref (ad (1000))), (1, .ref (D.2 100 i))]) hx hb dX10_stands_103 hl (k := 1) rfl ev42.symm (by decide) rfl (fun ls hl => ?_)
                      refine lv_goto (tgt := 63) hx hb dX10_stands_106 (by decide) ?_
                      exact ih63 (v42) (1) _ _ ls (by first | omega | decide) (by first | omega | decide) (by omega) (by omega) hM hS (lv_sub hl [0, 1, 2, 3, 4] rfl)
            exact loop63 (_ + 1) (0) (1) _ _ ls (by first | omega | decide) (by first | omega | decide) (by omega) (Nat.lt_succ_self _) hM hS (lv_sub hl [0, 1, 2, 3, 4] rfl)
        · have hc23 := c23
          have q23 := q_nlt hc23
          refine lv_aload_n hx hb dX10_stands_24 rfl (lv_at hl 1 rfl) ?_
          refine m_getr (1000) 34 (1034) hx hb hts hown hE oc10 hM hJ.1 rfl (by decide) rfl (hJ.2 34 (by decide)).2 (by decide) tb_1211 dX10_stands_25 ?_
          refine lv_iload_n hx hb dX10_stands_28 rfl (lv_at hl 0 rfl) ?_
          refine m_bald (1034) hx hb hE hM (hJ.2 34 (by decide)).1 rfl (vp_in_iff.mpr (by omega)) dX10_stands_29 ?_
          refine lv_bipush (v := (122)) hx hb dX10_stands_30 (by decide) ?_
          refine lv_icmp_gt (tgt := 41) hx hb dX10_stands_32 (by decide) (fun c43 => ?_) (fun c43 => ?_)
          · have hc43 := c43
            have q43 := q_lt hc43
            refine lv_iload_n hx hb dX10_stands_41 rfl (lv_at hl 0 rfl) ?_
            refine lv_aload_n hx hb dX10_stands_42 rfl (lv_at hl 1 rfl) ?_
            refine m_geti (1000) 25 hx hb hts hown hE oc10 hM hJ.1 rfl (by decide) rfl tb_1202 dX10_stands_43 ?_
            refine lv_isub hx hb dX10_stands_46 ?_
            refine lv_topi (fun v44 ev44 => ?_)
            have tv44 := a_sub ev44 (by omega) (by omega)
            refine lv_aload_n hx hb dX10_stands_47 rfl (lv_at hl 2 rfl) ?_
            refine m_calli (m_runVA (D.2 100 i) (As := []) (rest := [.int (v44)]) hx hb hml hown hts hE hM hS hA ce_J0_length_8abf5 tb_1519 (C_J0_length_8abf5 l D A ad ns I L G i _ hq hn) rfl rfl ⟨Nat.le_of_ble_eq_true rfl, Nat.le_of_ble_eq_true rfl⟩ (m_strr hE hS i hq) rfl hl.1 rfl (Nat.le_of_ble_eq_true rfl) dX10_stands_48 ⟨Nat.le_of_ble_eq_true rfl, Nat.le_of_ble_eq_true rfl⟩) hS (fun r45 u H locs hw hM hS => ?_)
            obtain ⟨rfl, rfl⟩ := hw
            have hM : Mem D A ad ns I L G H := hM
            refine lv_icmp_ne (tgt := 58) hx hb dX10_stands_51 (by decide) (fun c46 => ?_) (fun c46 => ?_)
            · have hc46 := c46
              have q46 := q_ne hc46
              refine lv_iconst (v := (0)) hx hb dX10_stands_58 (by decide) ?_
              refine lv_istore_n (lv' := [(3, .int (0)), (2, .int (x2_5)), (0, .ref (ad (1000))), (1, .ref (D.2 100 i))]) hx hb dX10_stands_59 rfl hl (by decide) rfl (fun ls hl => ?_)
              refine lv_iconst (v := (0)) hx hb dX10_stands_60 (by decide) ?_
              refine lv_istore (lv' := [(4, .int (0)), (3, .int (0)), (2, .int (x2_5)), (0, .ref (ad (1000))), (1, .ref (D.2 100 i))]) hx hb dX10_stands_61 hl (by decide) rfl (fun ls hl => ?_)
              have loop63 : ∀ (n : Nat) (x4_63 : Int32) (x3_63 : Int32) (H : Heap) (locs : List Loc) (ls : Array Slot), (0 ≤ x4_63.toInt ∧ x4_63.toInt ≤ 16) → (0 ≤ x3_63.toInt ∧ x3_63.toInt ≤ 1) → ((x3_63).toInt = 0 ∨ (x2_5).toInt - (I 1000 25).toInt = (q.2.2.2.length : Int)) → (16 - x4_63.toInt).toNat < n → Mem D A ad ns I L G H → va_S A s.heap H locs → lv_has ls 5 [(4, .int (x4_63)), (3, .int (x3_63)), (2, .int (x2_5)), (0, .ref (ad (1000))), (1, .ref (D.2 100 i))] → W p l e ({ frames := 4, cells := 0, slots := 0, locals := 85 } : Room) s m args below meth c H locs 0 0 (MQ below (va_Qi (fun r u => u = (ad, ns, I, L, G) ∧ (0 ≤ r.toInt ∧ r.toInt ≤ 1 ∧ (r.toInt ≠ 0 → (I 1000 25).toInt + (q.2.2.2.length : Int) ≤ (I 1000 24).toInt))) (BM D A) A) args s 0 0 A) (F0 m 63 ls []) := by
                intro n
                induction n with
                | zero =>
                  intro x4_63 x3_63 H locs ls hr4_63 hr3_63 he63 hmu
                  exact absurd hmu (Nat.not_lt_zero _)
                | succ n ih63 =>
                  intro x4_63 x3_63 H locs ls hr4_63 hr3_63 he63 hmu63 hM hS hl
                  refine lv_iload hx hb dX10_stands_63 (lv_at hl 0 rfl) ?_
                  refine lv_aload_n hx hb dX10_stands_65 rfl (lv_at hl 4 rfl) ?_
                  refine m_calli (m_runVA (D.2 100 i) (As := []) (rest := [.int (x4_63)]) hx hb hml hown hts hE hM hS hA ce_J0_length_8abf5 tb_1519 (C_J0_length_8abf5 l D A ad ns I L G i _ hq hn) rfl rfl ⟨Nat.le_of_ble_eq_true rfl, Nat.le_of_ble_eq_true rfl⟩ (m_strr hE hS i hq) rfl hl.1 rfl (Nat.le_of_ble_eq_true rfl) dX10_stands_66 ⟨Nat.le_of_ble_eq_true rfl, Nat.le_of_ble_eq_true rfl⟩) hS (fun r47 u H locs hw hM hS => ?_)
                  obtain ⟨rfl, rfl⟩ := hw
                  have hM : Mem D A ad ns I L G H := hM
                  refine lv_icmp_ge (tgt := 109) hx hb dX10_stands_69 (by decide) (fun c48 => ?_) (fun c48 => ?_)
                  · have hc48 := c48
                    have q48 := q_le hc48
                    refine lv_iload_n hx hb dX10_stands_109 rfl (lv_at hl 1 rfl) ?_
                    exact m_zret hx hb hr (nar01 (by omega) (by omega)).1 hlocks hM hS (Nat.le_of_ble_eq_true rfl) (Nat.le_of_ble_eq_true rfl) ⟨rfl, (by first | omega | decide)⟩ dX10_stands_110
                  · have hc48 := c48
                    have q48 := q_nle hc48
                    refine lv_iload_n hx hb dX10_stands_72 rfl (lv_at hl 1 rfl) ?_
                    refine lv_if_eq (tgt := 109) hx hb dX10_stands_73 (by decide) (fun c49 => ?_) (fun c49 => ?_)
                    · have hc49 := c49
                      have q49 := q_eq hc49
                      refine lv_iload_n hx hb dX10_stands_109 rfl (lv_at hl 1 rfl) ?_
                      exact m_zret hx hb hr (nar01 (by omega) (by omega)).1 hlocks hM hS (Nat.le_of_ble_eq_true rfl) (Nat.le_of_ble_eq_true rfl) ⟨rfl, (by first | omega | decide)⟩ dX10_stands_110
                    · have hc49 := c49
                      have q49 := q_ne hc49
                      refine lv_aload_n hx hb dX10_stands_76 rfl (lv_at hl 3 rfl) ?_
                      refine m_getr (1000) 34 (1034) hx hb hts hown hE oc10 hM hJ.1 rfl (by decide) rfl (hJ.2 34 (by decide)).2 (by decide) tb_1211 dX10_stands_77 ?_
                      refine lv_aload_n hx hb dX10_stands_80 rfl (lv_at hl 3 rfl) ?_
                      refine m_geti (1000) 25 hx hb hts hown hE oc10 hM hJ.1 rfl (by decide) rfl tb_1202 dX10_stands_81 ?_
                      refine lv_iload hx hb dX10_stands_84 (lv_at hl 0 rfl) ?_
                      refine lv_iadd hx hb dX10_stands_86 ?_
                      refine lv_topi (fun v50 ev50 => ?_)
                      have tv50 := a_add ev50 (by omega) (by omega)
                      refine m_bald (1034) hx hb hE hM (hJ.2 34 (by decide)).1 rfl (vp_in_iff.mpr (by omega)) dX10_stands_87 ?_
                      refine lv_aload_n hx hb dX10_stands_88 rfl (lv_at hl 4 rfl) ?_
                      refine lv_iload hx hb dX10_stands_89 (lv_at hl 0 rfl) ?_
                      refine m_calli (m_runVA (D.2 100 i) (As := [.int (x4_63)]) (rest := [.int (I (1034) (v50).toNatClampNeg)]) hx hb hml hown hts hE hM hS hA ce_J0_charAt_5068e tb_1520 (C_J0_charAt_5068e l D A ad ns I L G i _ (x4_63) hq hn (by omega)) rfl rfl ⟨Nat.le_of_ble_eq_true rfl, Nat.le_of_ble_eq_true rfl⟩ (m_strr hE hS i hq) rfl hl.1 rfl (Nat.le_of_ble_eq_true rfl) dX10_stands_91 ⟨Nat.le_of_ble_eq_true rfl, Nat.le_of_ble_eq_true rfl⟩) hS (fun r51 u H locs hw hM hS => ?_)
                      obtain ⟨rfl, xr51⟩ := hw
                      have hM : Mem D A ad ns I L G H := hM
                      have yr51 := a_and (c := 255) xr51 (by decide) (by decide)
                      refine lv_icmp_ne (tgt := 101) hx hb dX10_stands_94 (by decide) (fun c52 => ?_) (fun c52 => ?_)
                      · have hc52 := c52
                        have q52 := q_ne hc52
                        refine lv_iconst (v := (0)) hx hb dX10_stands_101 (by decide) ?_
                        refine lv_istore_n (lv' := [(3, .int (0)), (4, .int (x4_63)), (2, .int (x2_5)), (0, .ref (ad (1000))), (1, .ref (D.2 100 i))]) hx hb dX10_stands_102 rfl hl (by decide) rfl (fun ls hl => ?_)
                        obtain ⟨v53, ev53⟩ : ∃ z : Int32, z = x4_63 + Int32.ofInt (1) := ⟨_, rfl⟩
                        have tv53 := a_inc ev53 (by decide) (by omega) (by omega)
                        refine lv_iinc (v := v53) (lv' := [(4, .int (v53)), (3, .int (0)), (2, .int (x2_5)), (0, .ref (ad (1000))), (1, .ref (D.2 100 i))]) hx hb dX10_stands_103 hl (k := 1) rfl ev53.symm (by decide) rfl (fun ls hl => ?_)
                        refine lv_goto (tgt := 63) hx hb dX10_stands_106 (by decide) ?_
                        exact ih63 (v53) (0) _ _ ls (by first | omega | decide) (by first | omega | decide) (by omega) (by omega) hM hS (lv_sub hl [0, 1, 2, 3, 4] rfl)
                      · have hc52 := c52
                        have q52 := q_eq hc52
                        refine lv_iconst (v := (1)) hx hb dX10_stands_97 (by decide) ?_
                        refine lv_goto (tgt := 102) hx hb dX10_stands_98 (by decide) ?_
                        refine lv_istore_n (lv' := [(3, .int (1)), (4, .int (x4_63)), (2, .int (x2_5)), (0, .ref (ad (1000))), (1, .ref (D.2 100 i))]) hx hb dX10_stands_102 rfl hl (by decide) rfl (fun ls hl => ?_)
                        obtain ⟨v54, ev54⟩ : ∃ z : Int32, z = x4_63 + Int32.ofInt (1) := ⟨_, rfl⟩
                        have tv54 := a_inc ev54 (by decide) (by omega) (by omega)
                        refine lv_iinc (v := v54) (lv' := [(4, .int (v54)), (3, .int (1)), (2, .int (x2_5)), (0, .ref (ad (1000))), (1, .ref (D.2 100 i))]) hx hb dX10_stands_103 hl (k := 1) rfl ev54.symm (by decide) rfl (fun ls hl => ?_)
                        refine lv_goto (tgt := 63) hx hb dX10_stands_106 (by decide) ?_
                        exact ih63 (v54) (1) _ _ ls (by first | omega | decide) (by first | omega | decide) (by omega) (by omega) hM hS (lv_sub hl [0, 1, 2, 3, 4] rfl)
              exact loop63 (_ + 1) (0) (0) _ _ ls (by first | omega | decide) (by first | omega | decide) (by omega) (Nat.lt_succ_self _) hM hS (lv_sub hl [0, 1, 2, 3, 4] rfl)
            · have hc46 := c46
              have q46 := q_eq hc46
              refine lv_iconst (v := (1)) hx hb dX10_stands_54 (by decide) ?_
              refine lv_goto (tgt := 59) hx hb dX10_stands_55 (by decide) ?_
              refine lv_istore_n (lv' := [(3, .int (1)), (2, .int (x2_5)), (0, .ref (ad (1000))), (1, .ref (D.2 100 i))]) hx hb dX10_stands_59 rfl hl (by decide) rfl (fun ls hl => ?_)
              refine lv_iconst (v := (0)) hx hb dX10_stands_60 (by decide) ?_
              refine lv_istore (lv' := [(4, .int (0)), (3, .int (1)), (2, .int (x2_5)), (0, .ref (ad (1000))), (1, .ref (D.2 100 i))]) hx hb dX10_stands_61 hl (by decide) rfl (fun ls hl => ?_)
              have loop63 : ∀ (n : Nat) (x4_63 : Int32) (x3_63 : Int32) (H : Heap) (locs : List Loc) (ls : Array Slot), (0 ≤ x4_63.toInt ∧ x4_63.toInt ≤ 16) → (0 ≤ x3_63.toInt ∧ x3_63.toInt ≤ 1) → ((x3_63).toInt = 0 ∨ (x2_5).toInt - (I 1000 25).toInt = (q.2.2.2.length : Int)) → (16 - x4_63.toInt).toNat < n → Mem D A ad ns I L G H → va_S A s.heap H locs → lv_has ls 5 [(4, .int (x4_63)), (3, .int (x3_63)), (2, .int (x2_5)), (0, .ref (ad (1000))), (1, .ref (D.2 100 i))] → W p l e ({ frames := 4, cells := 0, slots := 0, locals := 85 } : Room) s m args below meth c H locs 0 0 (MQ below (va_Qi (fun r u => u = (ad, ns, I, L, G) ∧ (0 ≤ r.toInt ∧ r.toInt ≤ 1 ∧ (r.toInt ≠ 0 → (I 1000 25).toInt + (q.2.2.2.length : Int) ≤ (I 1000 24).toInt))) (BM D A) A) args s 0 0 A) (F0 m 63 ls []) := by
                intro n
                induction n with
                | zero =>
                  intro x4_63 x3_63 H locs ls hr4_63 hr3_63 he63 hmu
                  exact absurd hmu (Nat.not_lt_zero _)
                | succ n ih63 =>
                  intro x4_63 x3_63 H locs ls hr4_63 hr3_63 he63 hmu63 hM hS hl
                  refine lv_iload hx hb dX10_stands_63 (lv_at hl 0 rfl) ?_
                  refine lv_aload_n hx hb dX10_stands_65 rfl (lv_at hl 4 rfl) ?_
                  refine m_calli (m_runVA (D.2 100 i) (As := []) (rest := [.int (x4_63)]) hx hb hml hown hts hE hM hS hA ce_J0_length_8abf5 tb_1519 (C_J0_length_8abf5 l D A ad ns I L G i _ hq hn) rfl rfl ⟨Nat.le_of_ble_eq_true rfl, Nat.le_of_ble_eq_true rfl⟩ (m_strr hE hS i hq) rfl hl.1 rfl (Nat.le_of_ble_eq_true rfl) dX10_stands_66 ⟨Nat.le_of_ble_eq_true rfl, Nat.le_of_ble_eq_true rfl⟩) hS (fun r55 u H locs hw hM hS => ?_)
                  obtain ⟨rfl, rfl⟩ := hw
                  have hM : Mem D A ad ns I L G H := hM
                  refine lv_icmp_ge (tgt := 109) hx hb dX10_stands_69 (by decide) (fun c56 => ?_) (fun c56 => ?_)
                  · have hc56 := c56
                    have q56 := q_le hc56
                    refine lv_iload_n hx hb dX10_stands_109 rfl (lv_at hl 1 rfl) ?_
                    exact m_zret hx hb hr (nar01 (by omega) (by omega)).1 hlocks hM hS (Nat.le_of_ble_eq_true rfl) (Nat.le_of_ble_eq_true rfl) ⟨rfl, (by first | omega | decide)⟩ dX10_stands_110
                  · have hc56 := c56
                    have q56 := q_nle hc56
                    refine lv_iload_n hx hb dX10_stands_72 rfl (lv_at hl 1 rfl) ?_
                    refine lv_if_eq (tgt := 109) hx hb dX10_stands_73 (by decide) (fun c57 => ?_) (fun c57 => ?_)
                    · have hc57 := c57
                      have q57 := q_eq hc57
                      refine lv_iload_n hx hb dX10_stands_109 rfl (lv_at hl 1 rfl) ?_
                      exact m_zret hx hb hr (nar01 (by omega) (by omega)).1 hlocks hM hS (Nat.le_of_ble_eq_true rfl) (Nat.le_of_ble_eq_true rfl) ⟨rfl, (by first | omega | decide)⟩ dX10_stands_110
                    · have hc57 := c57
                      have q57 := q_ne hc57
                      refine lv_aload_n hx hb dX10_stands_76 rfl (lv_at hl 3 rfl) ?_
                      refine m_getr (1000) 34 (1034) hx hb hts hown hE oc10 hM hJ.1 rfl (by decide) rfl (hJ.2 34 (by decide)).2 (by decide) tb_1211 dX10_stands_77 ?_
                      refine lv_aload_n hx hb dX10_stands_80 rfl (lv_at hl 3 rfl) ?_
                      refine m_geti (1000) 25 hx hb hts hown hE oc10 hM hJ.1 rfl (by decide) rfl tb_1202 dX10_stands_81 ?_
                      refine lv_iload hx hb dX10_stands_84 (lv_at hl 0 rfl) ?_
                      refine lv_iadd hx hb dX10_stands_86 ?_
                      refine lv_topi (fun v58 ev58 => ?_)
                      have tv58 := a_add ev58 (by omega) (by omega)
                      refine m_bald (1034) hx hb hE hM (hJ.2 34 (by decide)).1 rfl (vp_in_iff.mpr (by omega)) dX10_stands_87 ?_
                      refine lv_aload_n hx hb dX10_stands_88 rfl (lv_at hl 4 rfl) ?_
                      refine lv_iload hx hb dX10_stands_89 (lv_at hl 0 rfl) ?_
                      refine m_calli (m_runVA (D.2 100 i) (As := [.int (x4_63)]) (rest := [.int (I (1034) (v58).toNatClampNeg)]) hx hb hml hown hts hE hM hS hA ce_J0_charAt_5068e tb_1520 (C_J0_charAt_5068e l D A ad ns I L G i _ (x4_63) hq hn (by omega)) rfl rfl ⟨Nat.le_of_ble_eq_true rfl, Nat.le_of_ble_eq_true rfl⟩ (m_strr hE hS i hq) rfl hl.1 rfl (Nat.le_of_ble_eq_true rfl) dX10_stands_91 ⟨Nat.le_of_ble_eq_true rfl, Nat.le_of_ble_eq_true rfl⟩) hS (fun r59 u H locs hw hM hS => ?_)
                      obtain ⟨rfl, xr59⟩ := hw
                      have hM : Mem D A ad ns I L G H := hM
                      have yr59 := a_and (c := 255) xr59 (by decide) (by decide)
                      refine lv_icmp_ne (tgt := 101) hx hb dX10_stands_94 (by decide) (fun c60 => ?_) (fun c60 => ?_)
                      · have hc60 := c60
                        have q60 := q_ne hc60
                        refine lv_iconst (v := (0)) hx hb dX10_stands_101 (by decide) ?_
                        refine lv_istore_n (lv' := [(3, .int (0)), (4, .int (x4_63)), (2, .int (x2_5)), (0, .ref (ad (1000))), (1, .ref (D.2 100 i))]) hx hb dX10_stands_102 rfl hl (by decide) rfl (fun ls hl => ?_)
                        obtain ⟨v61, ev61⟩ : ∃ z : Int32, z = x4_63 + Int32.ofInt (1) := ⟨_, rfl⟩
                        have tv61 := a_inc ev61 (by decide) (by omega) (by omega)
                        refine lv_iinc (v := v61) (lv' := [(4, .int (v61)), (3, .int (0)), (2, .int (x2_5)), (0, .ref (ad (1000))), (1, .ref (D.2 100 i))]) hx hb dX10_stands_103 hl (k := 1) rfl ev61.symm (by decide) rfl (fun ls hl => ?_)
                        refine lv_goto (tgt := 63) hx hb dX10_stands_106 (by decide) ?_
                        exact ih63 (v61) (0) _ _ ls (by first | omega | decide) (by first | omega | decide) (by omega) (by omega) hM hS (lv_sub hl [0, 1, 2, 3, 4] rfl)
                      · have hc60 := c60
                        have q60 := q_eq hc60
                        refine lv_iconst (v := (1)) hx hb dX10_stands_97 (by decide) ?_
                        refine lv_goto (tgt := 102) hx hb dX10_stands_98 (by decide) ?_
                        refine lv_istore_n (lv' := [(3, .int (1)), (4, .int (x4_63)), (2, .int (x2_5)), (0, .ref (ad (1000))), (1, .ref (D.2 100 i))]) hx hb dX10_stands_102 rfl hl (by decide) rfl (fun ls hl => ?_)
                        obtain ⟨v62, ev62⟩ : ∃ z : Int32, z = x4_63 + Int32.ofInt (1) := ⟨_, rfl⟩
                        have tv62 := a_inc ev62 (by decide) (by omega) (by omega)
                        refine lv_iinc (v := v62) (lv' := [(4, .int (v62)), (3, .int (1)), (2, .int (x2_5)), (0, .ref (ad (1000))), (1, .ref (D.2 100 i))]) hx hb dX10_stands_103 hl (k := 1) rfl ev62.symm (by decide) rfl (fun ls hl => ?_)
                        refine lv_goto (tgt := 63) hx hb dX10_stands_106 (by decide) ?_
                        exact ih63 (v62) (1) _ _ ls (by first | omega | decide) (by first | omega | decide) (by omega) (by omega) hM hS (lv_sub hl [0, 1, 2, 3, 4] rfl)
              exact loop63 (_ + 1) (0) (1) _ _ ls (by first | omega | decide) (by first | omega | decide) (by omega) (Nat.lt_succ_self _) hM hS (lv_sub hl [0, 1, 2, 3, 4] rfl)
          · have hc43 := c43
            have q43 := q_nlt hc43
            obtain ⟨v63, ev63⟩ : ∃ z : Int32, z = x2_5 + Int32.ofInt (1) := ⟨_, rfl⟩
            have tv63 := a_inc ev63 (by decide) (by omega) (by omega)
            refine lv_iinc (v := v63) (lv' := [(2, .int (v63)), (0, .ref (ad (1000))), (1, .ref (D.2 100 i))]) hx hb dX10_stands_35 hl (k := 0) rfl ev63.symm (by decide) rfl (fun ls hl => ?_)
            refine lv_goto (tgt := 5) hx hb dX10_stands_38 (by decide) ?_
            exact ih5 (v63) _ _ ls (by first | omega | decide) (by omega) (by omega) hM hS (lv_sub hl [0, 1, 2] rfl)
  exact loop5 (_ + 1) (I (1000) 25) _ _ ls (by first | omega | decide) (by omega) (Nat.lt_succ_self _) hM hS (lv_sub hl [0, 1, 2] rfl)
theorem dX10_takes_0 : decode cX10_takes 0 = .ok (.aload_n 0, 1) := by decide +kernel
theorem dX10_takes_1 : decode cX10_takes 1 = .ok (.invokevirtual 287, 3) := by decide +kernel
theorem dX10_takes_4 : decode cX10_takes 4 = .ok (.aload_n 0, 1) := by decide +kernel
theorem dX10_takes_5 : decode cX10_takes 5 = .ok (.aload_n 1, 1) := by decide +kernel
theorem dX10_takes_6 : decode cX10_takes 6 = .ok (.invokevirtual 290, 3) := by decide +kernel
theorem dX10_takes_9 : decode cX10_takes 9 = .ok (.istore_n 2, 1) := by decide +kernel
theorem dX10_takes_10 : decode cX10_takes 10 = .ok (.aload_n 0, 1) := by decide +kernel
theorem dX10_takes_11 : decode cX10_takes 11 = .ok (.dup, 1) := by decide +kernel
theorem dX10_takes_12 : decode cX10_takes 12 = .ok (.getfield 267, 3) := by decide +kernel
theorem dX10_takes_15 : decode cX10_takes 15 = .ok (.iload_n 2, 1) := by decide +kernel
theorem dX10_takes_16 : decode cX10_takes 16 = .ok (.ifCond .eq 10, 3) := by decide +kernel
theorem dX10_takes_19 : decode cX10_takes 19 = .ok (.aload_n 1, 1) := by decide +kernel
theorem dX10_takes_20 : decode cX10_takes 20 = .ok (.invokevirtual 278, 3) := by decide +kernel
theorem dX10_takes_23 : decode cX10_takes 23 = .ok (.goto 4, 3) := by decide +kernel
theorem dX10_takes_26 : decode cX10_takes 26 = .ok (.iconst 0, 1) := by decide +kernel
theorem dX10_takes_27 : decode cX10_takes 27 = .ok (.iadd, 1) := by decide +kernel
theorem dX10_takes_28 : decode cX10_takes 28 = .ok (.putfield 267, 3) := by decide +kernel
theorem dX10_takes_31 : decode cX10_takes 31 = .ok (.iload_n 2, 1) := by decide +kernel
theorem dX10_takes_32 : decode cX10_takes 32 = .ok (.ireturn, 1) := by decide +kernel
theorem ce_X10_takes : CeV RX10 yX10_takes cX10_takes 3 (some .boolean) 1 := ⟨tb_1575, tp_73, tb_11, tb_1576, rfl, by decide, by decide, by decide +kernel⟩
set_option maxHeartbeats 4000000 in
set_option maxRecDepth 20000 in
theorem V_X10_takes (l : Launch) (D : va_G) (A : Nat → Prop) (ad : Nat → Nat) (ns : List Nat) (I : MI) (L : ML) (G : MG) (i : Nat) (q : String × Nat × String × List Int32) (hJ : SGM ns G) (hI : INV I) (hq : sq[i]? = some q) (hn : q.2.2.2.length < 16) (hn1 : 1 ≤ q.2.2.2.length) : Met l yX10_takes (wd yX10_takes cX10_takes 3 (some .boolean)) ({ frames := 5, cells := 0, slots := 0, locals := 109 }) (va_Pc [.ref (ad (1000)), .ref (D.2 100 i)] (PM D A ad ns I L G)) (va_Qi (fun r u => ∃ I2 L2, u = (ad, ns, I2, L2, G) ∧ INV I2 ∧ Kp [] [(1000, 25)] I I2 ∧ (0 ≤ r.toInt ∧ r.toInt ≤ 1 ∧ (I 1000 25).toInt ≤ (I2 1000 25).toInt ∧ ((I2 1000 25).toInt = (I 1000 25).toInt ∨ (I2 1000 25).toInt ≤ 400))) (BM D A) A) 0 0 A := by
  refine m_ofW (by decide) (Nat.le_of_ble_eq_true rfl) ?_
  intro p e s m below meth c ls args hC hE hM hA hS hl
  obtain ⟨hx, hb, hml, hown, hts, hr, hlocks, hin⟩ := hC
  have k0 : (0 : Int32).toInt = 0 := by decide
  have kN : (Int32.ofNat q.2.2.2.length).toInt = q.2.2.2.length := nI_toInt (by omega)
  have hK : Kp [] [(1000, 25)] I I := Kp.rf
  have hl : lv_has ls 3 [(0, .ref (ad (1000))), (1, .ref (D.2 100 i))] := hl
  refine lv_aload_n hx hb dX10_takes_0 rfl (lv_at hl 0 rfl) ?_
  refine m_callv (m_runV (1000) (As := []) (rest := []) hx hb hml hown hts hE hM hS hA ce_X10_blanks tb_1506 (V_X10_blanks l D A ad ns I L G hJ hI) rfl rfl ⟨Nat.le_of_ble_eq_true rfl, Nat.le_of_ble_eq_true rfl⟩ hJ.1 rfl rfl (by decide) rfl hl.1 rfl (Nat.le_of_ble_eq_true rfl) dX10_takes_1 ⟨Nat.le_of_ble_eq_true rfl, Nat.le_of_ble_eq_true rfl⟩) hS (fun u H locs hw hM hS => ?_)
  obtain ⟨I1, L2, rfl, hI, hkI1, xI1⟩ := hw
  have hM : Mem D A ad ns I1 L2 G H := hM
  have hK := hK.trans hkI1 rfl
  have pw3 : (I1 (1000) 24).toInt = (I (1000) 24 : Int32).toInt := congrArg Int32.toInt ((hkI1.get (1000) 24 rfl))
  have pw4 : (I1 (1000) 26).toInt = (I (1000) 26 : Int32).toInt := congrArg Int32.toInt ((hkI1.get (1000) 26 rfl))
  have pw5 : (I1 (1000) 27).toInt = (I (1000) 27 : Int32).toInt := congrArg Int32.toInt ((hkI1.get (1000) 27 rfl))
  have pw6 : (I1 (1000) 29).toInt = (I (1000) 29 : Int32).toInt := congrArg Int32.toInt ((hkI1.get (1000) 29 rfl))
  have pw7 : (I1 (1000) 31).toInt = (I (1000) 31 : Int32).toInt := congrArg Int32.toInt ((hkI1.get (1000) 31 rfl))
  have pw8 : (I1 (1000) 32).toInt = (I (1000) 32 : Int32).toInt := congrArg Int32.toInt ((hkI1.get (1000) 32 rfl))
  refine lv_aload_n hx hb dX10_takes_4 rfl (lv_at hl 0 rfl) ?_
  refine lv_aload_n hx hb dX10_takes_5 rfl (lv_at hl 1 rfl) ?_
  refine m_calli (m_runV (1000) (As := [.ref (D.2 100 i)]) (rest := []) hx hb hml hown hts hE hM hS hA ce_X10_stands tb_1515 (V_X10_stands l D A ad ns I1 L2 G i _ hJ hI hq hn hn1) rfl rfl ⟨Nat.le_of_ble_eq_true rfl, Nat.le_of_ble_eq_true rfl⟩ hJ.1 rfl rfl (by decide) rfl hl.1 rfl (Nat.le_of_ble_eq_true rfl) dX10_takes_6 ⟨Nat.le_of_ble_eq_true rfl, Nat.le_of_ble_eq_true rfl⟩) hS (fun r9 u H locs hw hM hS => ?_)
  obtain ⟨rfl, xr9⟩ := hw
  have hM : Mem D A ad ns I1 L2 G H := hM
  have g10 := hI.get 1000 24 (lo := 0) (hi := 400) rfl
  have g11 := hI.get 1000 25 (lo := 0) (hi := 100000) rfl
  have sl12 := xr9.2.2
  refine lv_istore_n (lv' := [(2, .int (r9)), (0, .ref (ad (1000))), (1, .ref (D.2 100 i))]) hx hb dX10_takes_9 rfl hl (by decide) rfl (fun ls hl => ?_)
  refine lv_aload_n hx hb dX10_takes_10 rfl (lv_at hl 1 rfl) ?_
  refine lv_dup hx hb dX10_takes_11 rfl ?_
  refine m_geti (1000) 25 hx hb hts hown hE oc10 hM hJ.1 rfl (by decide) rfl tb_1202 dX10_takes_12 ?_
  have g13 := hI.get (1000) 25 (lo := 0) (hi := 100000) rfl
  refine lv_iload_n hx hb dX10_takes_15 rfl (lv_at hl 0 rfl) ?_
  refine lv_if_eq (tgt := 26) hx hb dX10_takes_16 (by decide) (fun c14 => ?_) (fun c14 => ?_)
  · have hc14 := c14
    have q14 := q_eq hc14
    refine lv_iconst (v := (0)) hx hb dX10_takes_26 (by decide) ?_
    refine lv_iadd hx hb dX10_takes_27 ?_
    refine lv_topi (fun v15 ev15 => ?_)
    have tv15 := a_add ev15 (by omega) (by omega)
    refine m_puti (1000) 25 hx hb hts hown hE oc10 hM hS hJ.1 rfl (by decide) rfl rfl rfl rfl tb_1202 dX10_takes_28 (fun H locs I16 eI16 hM hS => ?_)
    subst eI16
    have hI := hI.put (n := 1000) (k := 25) (v := v15) (lo := 0) (hi := 100000) rfl (by first | omega | decide)
    have hK := hK.put (n := 1000) (k := 25) (v := v15) (by first | rfl | simp [inR])
    refine lv_iload_n hx hb dX10_takes_31 rfl (lv_at hl 0 rfl) ?_
    have pw17 : ((u2 I1 (1000) 25 (v15)) (1000) 24).toInt = (I (1000) 24 : Int32).toInt := congrArg Int32.toInt (((show (u2 I1 (1000) 25 (v15)) (1000) 24 = I1 (1000) 24 from by simp [u2_v])).trans (hkI1.get (1000) 24 rfl))
    have pw18 : ((u2 I1 (1000) 25 (v15)) (1000) 25).toInt = (v15 : Int32).toInt := congrArg Int32.toInt ((show (u2 I1 (1000) 25 (v15)) (1000) 25 = v15 from by simp [u2_v]))
    have pw19 : ((u2 I1 (1000) 25 (v15)) (1000) 26).toInt = (I (1000) 26 : Int32).toInt := congrArg Int32.toInt (((show (u2 I1 (1000) 25 (v15)) (1000) 26 = I1 (1000) 26 from by simp [u2_v])).trans (hkI1.get (1000) 26 rfl))
    have pw20 : ((u2 I1 (1000) 25 (v15)) (1000) 27).toInt = (I (1000) 27 : Int32).toInt := congrArg Int32.toInt (((show (u2 I1 (1000) 25 (v15)) (1000) 27 = I1 (1000) 27 from by simp [u2_v])).trans (hkI1.get (1000) 27 rfl))
    have pw21 : ((u2 I1 (1000) 25 (v15)) (1000) 29).toInt = (I (1000) 29 : Int32).toInt := congrArg Int32.toInt (((show (u2 I1 (1000) 25 (v15)) (1000) 29 = I1 (1000) 29 from by simp [u2_v])).trans (hkI1.get (1000) 29 rfl))
    have pw22 : ((u2 I1 (1000) 25 (v15)) (1000) 31).toInt = (I (1000) 31 : Int32).toInt := congrArg Int32.toInt (((show (u2 I1 (1000) 25 (v15)) (1000) 31 = I1 (1000) 31 from by simp [u2_v])).trans (hkI1.get (1000) 31 rfl))
    have pw23 : ((u2 I1 (1000) 25 (v15)) (1000) 32).toInt = (I (1000) 32 : Int32).toInt := congrArg Int32.toInt (((show (u2 I1 (1000) 25 (v15)) (1000) 32 = I1 (1000) 32 from by simp [u2_v])).trans (hkI1.get (1000) 32 rfl))
    exact m_zret hx hb hr (nar01 (by omega) (by omega)).1 hlocks hM hS (Nat.le_of_ble_eq_true rfl) (Nat.le_of_ble_eq_true rfl) ⟨_, _, rfl, hI, hK, (by omega)⟩ dX10_takes_32
  · have hc14 := c14
    have q14 := q_ne hc14
    refine lv_aload_n hx hb dX10_takes_19 rfl (lv_at hl 2 rfl) ?_
    refine m_calli (m_runVA (D.2 100 i) (As := []) (rest := [.int (I1 (1000) 25), .ref (ad (1000))]) hx hb hml hown hts hE hM hS hA ce_J0_length_8abf5 tb_1519 (C_J0_length_8abf5 l D A ad ns I1 L2 G i _ hq hn) rfl rfl ⟨Nat.le_of_ble_eq_true rfl, Nat.le_of_ble_eq_true rfl⟩ (m_strr hE hS i hq) rfl hl.1 rfl (Nat.le_of_ble_eq_true rfl) dX10_takes_20 ⟨Nat.le_of_ble_eq_true rfl, Nat.le_of_ble_eq_true rfl⟩) hS (fun r24 u H locs hw hM hS => ?_)
    obtain ⟨rfl, rfl⟩ := hw
    have hM : Mem D A ad ns I1 L2 G H := hM
    refine lv_goto (tgt := 27) hx hb dX10_takes_23 (by decide) ?_
    refine lv_iadd hx hb dX10_takes_27 ?_
    refine lv_topi (fun v25 ev25 => ?_)
    have tv25 := a_add ev25 (by omega) (by omega)
    refine m_puti (1000) 25 hx hb hts hown hE oc10 hM hS hJ.1 rfl (by decide) rfl rfl rfl rfl tb_1202 dX10_takes_28 (fun H locs I26 eI26 hM hS => ?_)
    subst eI26
    have hI := hI.put (n := 1000) (k := 25) (v := v25) (lo := 0) (hi := 100000) rfl (by first | omega | decide)
    have hK := hK.put (n := 1000) (k := 25) (v := v25) (by first | rfl | simp [inR])
    refine lv_iload_n hx hb dX10_takes_31 rfl (lv_at hl 0 rfl) ?_
    have pw27 : ((u2 I1 (1000) 25 (v25)) (1000) 24).toInt = (I (1000) 24 : Int32).toInt := congrArg Int32.toInt (((show (u2 I1 (1000) 25 (v25)) (1000) 24 = I1 (1000) 24 from by simp [u2_v])).trans (hkI1.get (1000) 24 rfl))
    have pw28 : ((u2 I1 (1000) 25 (v25)) (1000) 25).toInt = (v25 : Int32).toInt := congrArg Int32.toInt ((show (u2 I1 (1000) 25 (v25)) (1000) 25 = v25 from by simp [u2_v]))
    have pw29 : ((u2 I1 (1000) 25 (v25)) (1000) 26).toInt = (I (1000) 26 : Int32).toInt := congrArg Int32.toInt (((show (u2 I1 (1000) 25 (v25)) (1000) 26 = I1 (1000) 26 from by simp [u2_v])).trans (hkI1.get (1000) 26 rfl))
    have pw30 : ((u2 I1 (1000) 25 (v25)) (1000) 27).toInt = (I (1000) 27 : Int32).toInt := congrArg Int32.toInt (((show (u2 I1 (1000) 25 (v25)) (1000) 27 = I1 (1000) 27 from by simp [u2_v])).trans (hkI1.get (1000) 27 rfl))
    have pw31 : ((u2 I1 (1000) 25 (v25)) (1000) 29).toInt = (I (1000) 29 : Int32).toInt := congrArg Int32.toInt (((show (u2 I1 (1000) 25 (v25)) (1000) 29 = I1 (1000) 29 from by simp [u2_v])).trans (hkI1.get (1000) 29 rfl))
    have pw32 : ((u2 I1 (1000) 25 (v25)) (1000) 31).toInt = (I (1000) 31 : Int32).toInt := congrArg Int32.toInt (((show (u2 I1 (1000) 25 (v25)) (1000) 31 = I1 (1000) 31 from by simp [u2_v])).trans (hkI1.get (1000) 31 rfl))
    have pw33 : ((u2 I1 (1000) 25 (v25)) (1000) 32).toInt = (I (1000) 32 : Int32).toInt := congrArg Int32.toInt (((show (u2 I1 (1000) 25 (v25)) (1000) 32 = I1 (1000) 32 from by simp [u2_v])).trans (hkI1.get (1000) 32 rfl))
    exact m_zret hx hb hr (nar01 (by omega) (by omega)).1 hlocks hM hS (Nat.le_of_ble_eq_true rfl) (Nat.le_of_ble_eq_true rfl) ⟨_, _, rfl, hI, hK, (by omega)⟩ dX10_takes_32
def wi (k : Nat) : Nat := match k with | 0 => 11 | 1 => 12 | 2 => 13 | 3 => 14 | 4 => 15 | 5 => 16 | 6 => 17 | 7 => 18 | 8 => 19 | 9 => 20 | 10 => 21 | 11 => 22 | _ => 23
theorem dX10_wordOf_0 : decode cX10_wordOf 0 = .ok (.iload_n 0, 1) := by decide +kernel
theorem dX10_wordOf_1 : decode cX10_wordOf 1 = .ok (.tableswitch 102 0 11 #[63, 66, 69, 72, 75, 78, 81, 84, 87, 90, 94, 98], 63) := by decide +kernel
theorem dX10_wordOf_64 : decode cX10_wordOf 64 = .ok (.ldc 239, 2) := by decide +kernel
theorem dX10_wordOf_66 : decode cX10_wordOf 66 = .ok (.areturn, 1) := by decide +kernel
theorem dX10_wordOf_67 : decode cX10_wordOf 67 = .ok (.ldc 241, 2) := by decide +kernel
theorem dX10_wordOf_69 : decode cX10_wordOf 69 = .ok (.areturn, 1) := by decide +kernel
theorem dX10_wordOf_70 : decode cX10_wordOf 70 = .ok (.ldc 243, 2) := by decide +kernel
theorem dX10_wordOf_72 : decode cX10_wordOf 72 = .ok (.areturn, 1) := by decide +kernel
theorem dX10_wordOf_73 : decode cX10_wordOf 73 = .ok (.ldc 245, 2) := by decide +kernel
theorem dX10_wordOf_75 : decode cX10_wordOf 75 = .ok (.areturn, 1) := by decide +kernel
theorem dX10_wordOf_76 : decode cX10_wordOf 76 = .ok (.ldc 246, 2) := by decide +kernel
theorem dX10_wordOf_78 : decode cX10_wordOf 78 = .ok (.areturn, 1) := by decide +kernel
theorem dX10_wordOf_79 : decode cX10_wordOf 79 = .ok (.ldc 248, 2) := by decide +kernel
theorem dX10_wordOf_81 : decode cX10_wordOf 81 = .ok (.areturn, 1) := by decide +kernel
theorem dX10_wordOf_82 : decode cX10_wordOf 82 = .ok (.ldc 250, 2) := by decide +kernel
theorem dX10_wordOf_84 : decode cX10_wordOf 84 = .ok (.areturn, 1) := by decide +kernel
theorem dX10_wordOf_85 : decode cX10_wordOf 85 = .ok (.ldc 252, 2) := by decide +kernel
theorem dX10_wordOf_87 : decode cX10_wordOf 87 = .ok (.areturn, 1) := by decide +kernel
theorem dX10_wordOf_88 : decode cX10_wordOf 88 = .ok (.ldc 254, 2) := by decide +kernel
theorem dX10_wordOf_90 : decode cX10_wordOf 90 = .ok (.areturn, 1) := by decide +kernel
theorem dX10_wordOf_91 : decode cX10_wordOf 91 = .ok (.ldc_w 256, 3) := by decide +kernel
theorem dX10_wordOf_94 : decode cX10_wordOf 94 = .ok (.areturn, 1) := by decide +kernel
theorem dX10_wordOf_95 : decode cX10_wordOf 95 = .ok (.ldc_w 258, 3) := by decide +kernel
theorem dX10_wordOf_98 : decode cX10_wordOf 98 = .ok (.areturn, 1) := by decide +kernel
theorem dX10_wordOf_99 : decode cX10_wordOf 99 = .ok (.ldc_w 260, 3) := by decide +kernel
theorem dX10_wordOf_102 : decode cX10_wordOf 102 = .ok (.areturn, 1) := by decide +kernel
theorem dX10_wordOf_103 : decode cX10_wordOf 103 = .ok (.ldc_w 262, 3) := by decide +kernel
theorem dX10_wordOf_106 : decode cX10_wordOf 106 = .ok (.areturn, 1) := by decide +kernel
theorem ce_X10_wordOf : CeS yX10_wordOf cX10_wordOf 1 (some (.object "java/lang/String")) 1 := ⟨tb_1557, tb_11, tb_1558, by decide, by decide, by decide +kernel⟩
set_option maxHeartbeats 4000000 in
set_option maxRecDepth 20000 in
theorem V_X10_wordOf (l : Launch) (D : va_G) (A : Nat → Prop) (ad : Nat → Nat) (ns : List Nat) (I : MI) (L : ML) (G : MG) (a0 : Int32) (hI : INV I) (ha0 : 0 ≤ a0.toInt ∧ a0.toInt ≤ 12) : Met l yX10_wordOf (wd yX10_wordOf cX10_wordOf 1 (some (.object "java/lang/String"))) ({ frames := 0, cells := 0, slots := 0, locals := 0 }) (va_Pc [.int a0] (PM D A ad ns I L G)) (va_Qq (fun r u => u = (ad, ns, I, L, G) ∧ (∃ q, r = some (D.2 100 (wi (a0).toNatClampNeg)) ∧ sq[wi (a0).toNatClampNeg]? = some q ∧ 1 ≤ q.2.2.2.length ∧ q.2.2.2.length ≤ 5)) (BM D A) A) 0 0 A := by
  refine m_ofW (by decide) (Nat.le_of_ble_eq_true rfl) ?_
  intro p e s m below meth c ls args hC hE hM hA hS hl
  obtain ⟨hx, hb, hml, hown, hts, hr, hlocks, hin⟩ := hC
  have k0 : (0 : Int32).toInt = 0 := by decide
  have hl : lv_has ls 1 [(0, .int (a0))] := hl
  refine lv_iload_n hx hb dX10_wordOf_0 rfl (lv_at hl 0 rfl) ?_
  by_cases c1 : (a0).toInt < 0 ∨ 11 < (a0).toInt
  · refine lv_tableOut (tgt := 103) hx hb dX10_wordOf_1 c1 (by decide) ?_
    refine m_ldcwS hx hb hown (EV.str hE 23 rfl).1 dX10_wordOf_103 ?_
    exact m_aret (r := some (D.2 100 23)) hx hb hr ⟨_, rfl⟩ hlocks hM hS (Nat.le_of_ble_eq_true rfl) (Nat.le_of_ble_eq_true rfl) ⟨rfl, ⟨_, (by rw [show (a0).toNatClampNeg = 12 from cl_of (by omega)]; rfl), (by rw [show (a0).toNatClampNeg = 12 from cl_of (by omega)]; rfl), by decide, by decide⟩⟩ dX10_wordOf_106
  · have qc1 : (a0).toInt = 0 ∨ (a0).toInt = 1 ∨ (a0).toInt = 2 ∨ (a0).toInt = 3 ∨ (a0).toInt = 4 ∨ (a0).toInt = 5 ∨ (a0).toInt = 6 ∨ (a0).toInt = 7 ∨ (a0).toInt = 8 ∨ (a0).toInt = 9 ∨ (a0).toInt = 10 ∨ (a0).toInt = 11 := by omega
    rcases qc1 with qc1 | qc1 | qc1 | qc1 | qc1 | qc1 | qc1 | qc1 | qc1 | qc1 | qc1 | qc1
    · refine lv_tableIn (off := 63) (tgt := 64) hx hb dX10_wordOf_1 (by omega) (by omega) (by rw [qc1]; rfl) (by decide) ?_
      refine va_ldcS hx hb hown (EV.str hE 11 rfl).1 dX10_wordOf_64 ?_
      exact m_aret (r := some (D.2 100 11)) hx hb hr ⟨_, rfl⟩ hlocks hM hS (Nat.le_of_ble_eq_true rfl) (Nat.le_of_ble_eq_true rfl) ⟨rfl, ⟨_, (by rw [show (a0).toNatClampNeg = 0 from cl_of (by omega)]; rfl), (by rw [show (a0).toNatClampNeg = 0 from cl_of (by omega)]; rfl), by decide, by decide⟩⟩ dX10_wordOf_66
    · refine lv_tableIn (off := 66) (tgt := 67) hx hb dX10_wordOf_1 (by omega) (by omega) (by rw [qc1]; rfl) (by decide) ?_
      refine va_ldcS hx hb hown (EV.str hE 12 rfl).1 dX10_wordOf_67 ?_
      exact m_aret (r := some (D.2 100 12)) hx hb hr ⟨_, rfl⟩ hlocks hM hS (Nat.le_of_ble_eq_true rfl) (Nat.le_of_ble_eq_true rfl) ⟨rfl, ⟨_, (by rw [show (a0).toNatClampNeg = 1 from cl_of (by omega)]; rfl), (by rw [show (a0).toNatClampNeg = 1 from cl_of (by omega)]; rfl), by decide, by decide⟩⟩ dX10_wordOf_69
    · refine lv_tableIn (off := 69) (tgt := 70) hx hb dX10_wordOf_1 (by omega) (by omega) (by rw [qc1]; rfl) (by decide) ?_
      refine va_ldcS hx hb hown (EV.str hE 13 rfl).1 dX10_wordOf_70 ?_
      exact m_aret (r := some (D.2 100 13)) hx hb hr ⟨_, rfl⟩ hlocks hM hS (Nat.le_of_ble_eq_true rfl) (Nat.le_of_ble_eq_true rfl) ⟨rfl, ⟨_, (by rw [show (a0).toNatClampNeg = 2 from cl_of (by omega)]; rfl), (by rw [show (a0).toNatClampNeg = 2 from cl_of (by omega)]; rfl), by decide, by decide⟩⟩ dX10_wordOf_72
    · refine lv_tableIn (off := 72) (tgt := 73) hx hb dX10_wordOf_1 (by omega) (by omega) (by rw [qc1]; rfl) (by decide) ?_
      refine va_ldcS hx hb hown (EV.str hE 14 rfl).1 dX10_wordOf_73 ?_
      exact m_aret (r := some (D.2 100 14)) hx hb hr ⟨_, rfl⟩ hlocks hM hS (Nat.le_of_ble_eq_true rfl) (Nat.le_of_ble_eq_true rfl) ⟨rfl, ⟨_, (by rw [show (a0).toNatClampNeg = 3 from cl_of (by omega)]; rfl), (by rw [show (a0).toNatClampNeg = 3 from cl_of (by omega)]; rfl), by decide, by decide⟩⟩ dX10_wordOf_75
    · refine lv_tableIn (off := 75) (tgt := 76) hx hb dX10_wordOf_1 (by omega) (by omega) (by rw [qc1]; rfl) (by decide) ?_
      refine va_ldcS hx hb hown (EV.str hE 15 rfl).1 dX10_wordOf_76 ?_
      exact m_aret (r := some (D.2 100 15)) hx hb hr ⟨_, rfl⟩ hlocks hM hS (Nat.le_of_ble_eq_true rfl) (Nat.le_of_ble_eq_true rfl) ⟨rfl, ⟨_, (by rw [show (a0).toNatClampNeg = 4 from cl_of (by omega)]; rfl), (by rw [show (a0).toNatClampNeg = 4 from cl_of (by omega)]; rfl), by decide, by decide⟩⟩ dX10_wordOf_78
    · refine lv_tableIn (off := 78) (tgt := 79) hx hb dX10_wordOf_1 (by omega) (by omega) (by rw [qc1]; rfl) (by decide) ?_
      refine va_ldcS hx hb hown (EV.str hE 16 rfl).1 dX10_wordOf_79 ?_
      exact m_aret (r := some (D.2 100 16)) hx hb hr ⟨_, rfl⟩ hlocks hM hS (Nat.le_of_ble_eq_true rfl) (Nat.le_of_ble_eq_true rfl) ⟨rfl, ⟨_, (by rw [show (a0).toNatClampNeg = 5 from cl_of (by omega)]; rfl), (by rw [show (a0).toNatClampNeg = 5 from cl_of (by omega)]; rfl), by decide, by decide⟩⟩ dX10_wordOf_81
    · refine lv_tableIn (off := 81) (tgt := 82) hx hb dX10_wordOf_1 (by omega) (by omega) (by rw [qc1]; rfl) (by decide) ?_
      refine va_ldcS hx hb hown (EV.str hE 17 rfl).1 dX10_wordOf_82 ?_
      exact m_aret (r := some (D.2 100 17)) hx hb hr ⟨_, rfl⟩ hlocks hM hS (Nat.le_of_ble_eq_true rfl) (Nat.le_of_ble_eq_true rfl) ⟨rfl, ⟨_, (by rw [show (a0).toNatClampNeg = 6 from cl_of (by omega)]; rfl), (by rw [show (a0).toNatClampNeg = 6 from cl_of (by omega)]; rfl), by decide, by decide⟩⟩ dX10_wordOf_84
    · refine lv_tableIn (off := 84) (tgt := 85) hx hb dX10_wordOf_1 (by omega) (by omega) (by rw [qc1]; rfl) (by decide) ?_
      refine va_ldcS hx hb hown (EV.str hE 18 rfl).1 dX10_wordOf_85 ?_
      exact m_aret (r := some (D.2 100 18)) hx hb hr ⟨_, rfl⟩ hlocks hM hS (Nat.le_of_ble_eq_true rfl) (Nat.le_of_ble_eq_true rfl) ⟨rfl, ⟨_, (by rw [show (a0).toNatClampNeg = 7 from cl_of (by omega)]; rfl), (by rw [show (a0).toNatClampNeg = 7 from cl_of (by omega)]; rfl), by decide, by decide⟩⟩ dX10_wordOf_87
    · refine lv_tableIn (off := 87) (tgt := 88) hx hb dX10_wordOf_1 (by omega) (by omega) (by rw [qc1]; rfl) (by decide) ?_
      refine va_ldcS hx hb hown (EV.str hE 19 rfl).1 dX10_wordOf_88 ?_
      exact m_aret (r := some (D.2 100 19)) hx hb hr ⟨_, rfl⟩ hlocks hM hS (Nat.le_of_ble_eq_true rfl) (Nat.le_of_ble_eq_true rfl) ⟨rfl, ⟨_, (by rw [show (a0).toNatClampNeg = 8 from cl_of (by omega)]; rfl), (by rw [show (a0).toNatClampNeg = 8 from cl_of (by omega)]; rfl), by decide, by decide⟩⟩ dX10_wordOf_90
    · refine lv_tableIn (off := 90) (tgt := 91) hx hb dX10_wordOf_1 (by omega) (by omega) (by rw [qc1]; rfl) (by decide) ?_
      refine m_ldcwS hx hb hown (EV.str hE 20 rfl).1 dX10_wordOf_91 ?_
      exact m_aret (r := some (D.2 100 20)) hx hb hr ⟨_, rfl⟩ hlocks hM hS (Nat.le_of_ble_eq_true rfl) (Nat.le_of_ble_eq_true rfl) ⟨rfl, ⟨_, (by rw [show (a0).toNatClampNeg = 9 from cl_of (by omega)]; rfl), (by rw [show (a0).toNatClampNeg = 9 from cl_of (by omega)]; rfl), by decide, by decide⟩⟩ dX10_wordOf_94
    · refine lv_tableIn (off := 94) (tgt := 95) hx hb dX10_wordOf_1 (by omega) (by omega) (by rw [qc1]; rfl) (by decide) ?_
      refine m_ldcwS hx hb hown (EV.str hE 21 rfl).1 dX10_wordOf_95 ?_
      exact m_aret (r := some (D.2 100 21)) hx hb hr ⟨_, rfl⟩ hlocks hM hS (Nat.le_of_ble_eq_true rfl) (Nat.le_of_ble_eq_true rfl) ⟨rfl, ⟨_, (by rw [show (a0).toNatClampNeg = 10 from cl_of (by omega)]; rfl), (by rw [show (a0).toNatClampNeg = 10 from cl_of (by omega)]; rfl), by decide, by decide⟩⟩ dX10_wordOf_98
    · refine lv_tableIn (off := 98) (tgt := 99) hx hb dX10_wordOf_1 (by omega) (by omega) (by rw [qc1]; rfl) (by decide) ?_
      refine m_ldcwS hx hb hown (EV.str hE 22 rfl).1 dX10_wordOf_99 ?_
      exact m_aret (r := some (D.2 100 22)) hx hb hr ⟨_, rfl⟩ hlocks hM hS (Nat.le_of_ble_eq_true rfl) (Nat.le_of_ble_eq_true rfl) ⟨rfl, ⟨_, (by rw [show (a0).toNatClampNeg = 11 from cl_of (by omega)]; rfl), (by rw [show (a0).toNatClampNeg = 11 from cl_of (by omega)]; rfl), by decide, by decide⟩⟩ dX10_wordOf_102
theorem ENT_put {I : MI} {a b v v2 w : Int32} (hf : (I 1000 26).toInt = 0) (hv : v.toInt = 300 * (I 1000 27).toInt + (I 1000 29).toInt ∧ 0 ≤ v.toInt) (hv2 : v2.toInt = v.toInt) (j : Nat) : (u2 (u2 (u2 I 1035 v.toNatClampNeg a) 1036 v2.toNatClampNeg b) 1000 29 w 1035 j = if (I 1000 26).toInt = 0 ∧ (j : Int) = 300 * (I 1000 27).toInt + (I 1000 29).toInt then a else I 1035 j) ∧ (u2 (u2 (u2 I 1035 v.toNatClampNeg a) 1036 v2.toNatClampNeg b) 1000 29 w 1036 j = if (I 1000 26).toInt = 0 ∧ (j : Int) = 300 * (I 1000 27).toInt + (I 1000 29).toInt then b else I 1036 j) := by
  have t1 := tn hv.2
  have t2 := tn (i := v2) (by omega)
  simp only [u2_v]
  constructor
  · by_cases hq : j = v.toNatClampNeg
    · rw [if_neg (by omega), if_neg (by omega), if_pos ⟨rfl, hq⟩, if_pos ⟨hf, by omega⟩]
    · rw [if_neg (by omega), if_neg (by omega), if_neg (by omega), if_neg (by omega)]
  · by_cases hq : j = v.toNatClampNeg
    · rw [if_neg (by omega), if_pos ⟨rfl, by omega⟩, if_pos ⟨hf, by omega⟩]
    · rw [if_neg (by omega), if_neg (by omega), if_neg (by omega), if_neg (by omega)]
theorem dX10_entry_0 : decode cX10_entry 0 = .ok (.aload_n 0, 1) := by decide +kernel
theorem dX10_entry_1 : decode cX10_entry 1 = .ok (.getfield 264, 3) := by decide +kernel
theorem dX10_entry_4 : decode cX10_entry 4 = .ok (.ifCond .ne 51, 3) := by decide +kernel
theorem dX10_entry_7 : decode cX10_entry 7 = .ok (.aload_n 0, 1) := by decide +kernel
theorem dX10_entry_8 : decode cX10_entry 8 = .ok (.getfield 87, 3) := by decide +kernel
theorem dX10_entry_11 : decode cX10_entry 11 = .ok (.sipush 300, 3) := by decide +kernel
theorem dX10_entry_14 : decode cX10_entry 14 = .ok (.aload_n 0, 1) := by decide +kernel
theorem dX10_entry_15 : decode cX10_entry 15 = .ok (.getfield 294, 3) := by decide +kernel
theorem dX10_entry_18 : decode cX10_entry 18 = .ok (.imul, 1) := by decide +kernel
theorem dX10_entry_19 : decode cX10_entry 19 = .ok (.aload_n 0, 1) := by decide +kernel
theorem dX10_entry_20 : decode cX10_entry 20 = .ok (.getfield 297, 3) := by decide +kernel
theorem dX10_entry_23 : decode cX10_entry 23 = .ok (.iadd, 1) := by decide +kernel
theorem dX10_entry_24 : decode cX10_entry 24 = .ok (.iload_n 1, 1) := by decide +kernel
theorem dX10_entry_25 : decode cX10_entry 25 = .ok (.iastore, 1) := by decide +kernel
theorem dX10_entry_26 : decode cX10_entry 26 = .ok (.aload_n 0, 1) := by decide +kernel
theorem dX10_entry_27 : decode cX10_entry 27 = .ok (.getfield 90, 3) := by decide +kernel
theorem dX10_entry_30 : decode cX10_entry 30 = .ok (.sipush 300, 3) := by decide +kernel
theorem dX10_entry_33 : decode cX10_entry 33 = .ok (.aload_n 0, 1) := by decide +kernel
theorem dX10_entry_34 : decode cX10_entry 34 = .ok (.getfield 294, 3) := by decide +kernel
theorem dX10_entry_37 : decode cX10_entry 37 = .ok (.imul, 1) := by decide +kernel
theorem dX10_entry_38 : decode cX10_entry 38 = .ok (.aload_n 0, 1) := by decide +kernel
theorem dX10_entry_39 : decode cX10_entry 39 = .ok (.getfield 297, 3) := by decide +kernel
theorem dX10_entry_42 : decode cX10_entry 42 = .ok (.iadd, 1) := by decide +kernel
theorem dX10_entry_43 : decode cX10_entry 43 = .ok (.iload_n 2, 1) := by decide +kernel
theorem dX10_entry_44 : decode cX10_entry 44 = .ok (.iastore, 1) := by decide +kernel
theorem dX10_entry_45 : decode cX10_entry 45 = .ok (.aload_n 0, 1) := by decide +kernel
theorem dX10_entry_46 : decode cX10_entry 46 = .ok (.dup, 1) := by decide +kernel
theorem dX10_entry_47 : decode cX10_entry 47 = .ok (.getfield 297, 3) := by decide +kernel
theorem dX10_entry_50 : decode cX10_entry 50 = .ok (.iconst 1, 1) := by decide +kernel
theorem dX10_entry_51 : decode cX10_entry 51 = .ok (.iadd, 1) := by decide +kernel
theorem dX10_entry_52 : decode cX10_entry 52 = .ok (.putfield 297, 3) := by decide +kernel
theorem dX10_entry_55 : decode cX10_entry 55 = .ok (.return_, 1) := by decide +kernel
theorem ce_X10_entry : CeV RX10 yX10_entry cX10_entry 3 none 2 := ⟨tb_1554, tp_72, tb_11, tb_1555, rfl, by decide, by decide, by decide +kernel⟩
set_option maxHeartbeats 4000000 in
set_option maxRecDepth 20000 in
theorem V_X10_entry (l : Launch) (D : va_G) (A : Nat → Prop) (ad : Nat → Nat) (ns : List Nat) (I : MI) (L : ML) (G : MG) (a0 : Int32) (a1 : Int32) (hJ : SGM ns G) (hI : INV I) (he : (I 1000 26).toInt = 0 → (I 1000 29).toInt ≤ 299) : Met l yX10_entry (wd yX10_entry cX10_entry 3 none) ({ frames := 0, cells := 0, slots := 0, locals := 0 }) (va_Pc [.ref (ad (1000)), .int a0, .int a1] (PM D A ad ns I L G)) (va_Qv (fun u => ∃ I2 L2, u = (ad, ns, I2, L2, G) ∧ INV I2 ∧ Kp [(1035, 1037)] [(1000, 29)] I I2 ∧ (((I 1000 26).toInt = 0 → (I2 1000 29).toInt = (I 1000 29).toInt + 1) ∧ ((I 1000 26).toInt ≠ 0 → (I2 1000 29).toInt = (I 1000 29).toInt) ∧ ENT I I2 a0 a1)) (BM D A) A) 0 0 A := by
  refine m_ofW (by decide) (Nat.le_of_ble_eq_true rfl) ?_
  intro p e s m below meth c ls args hC hE hM hA hS hl
  obtain ⟨hx, hb, hml, hown, hts, hr, hlocks, hin⟩ := hC
  have k0 : (0 : Int32).toInt = 0 := by decide
  have k1 : (1 : Int32).toInt = 1 := by decide
  have k300 : (300 : Int32).toInt = 300 := by decide
  have hK : Kp [(1035, 1037)] [(1000, 29)] I I := Kp.rf
  have hl : lv_has ls 3 [(0, .ref (ad (1000))), (1, .int (a0)), (2, .int (a1))] := hl
  refine lv_aload_n hx hb dX10_entry_0 rfl (lv_at hl 0 rfl) ?_
  refine m_geti (1000) 26 hx hb hts hown hE oc10 hM hJ.1 rfl (by decide) rfl tb_1203 dX10_entry_1 ?_
  refine lv_if_ne (tgt := 55) hx hb dX10_entry_4 (by decide) (fun c1 => ?_) (fun c1 => ?_)
  · have hc1 := c1
    have q1 := q_ne hc1
    exact m_vret hx hb hr hlocks hM hS (Nat.le_of_ble_eq_true rfl) (Nat.le_of_ble_eq_true rfl) ⟨_, _, rfl, hI, hK, ⟨by omega, by omega, fun j => ⟨by rw [if_neg (by omega)], by rw [if_neg (by omega)]⟩⟩⟩ dX10_entry_55
  · have hc1 := c1
    have q1 := q_eq hc1
    refine lv_aload_n hx hb dX10_entry_7 rfl (lv_at hl 0 rfl) ?_
    refine m_getr (1000) 35 (1035) hx hb hts hown hE oc10 hM hJ.1 rfl (by decide) rfl (hJ.2 35 (by decide)).2 (by decide) tb_1212 dX10_entry_8 ?_
    refine lv_sipush (v := (300)) hx hb dX10_entry_11 (by decide) ?_
    refine lv_aload_n hx hb dX10_entry_14 rfl (lv_at hl 0 rfl) ?_
    refine m_geti (1000) 27 hx hb hts hown hE oc10 hM hJ.1 rfl (by decide) rfl tb_1204 dX10_entry_15 ?_
    have g2 := hI.get (1000) 27 (lo := 0) (hi := 5) rfl
    refine lv_imul hx hb dX10_entry_18 ?_
    refine lv_topi (fun v3 ev3 => ?_)
    have tv3 := a_mulL (c := 300) ev3 (by decide) (by omega) (by omega)
    refine lv_aload_n hx hb dX10_entry_19 rfl (lv_at hl 0 rfl) ?_
    refine m_geti (1000) 29 hx hb hts hown hE oc10 hM hJ.1 rfl (by decide) rfl tb_1206 dX10_entry_20 ?_
    have g4 := hI.get (1000) 29 (lo := 0) (hi := 300) rfl
    refine lv_iadd hx hb dX10_entry_23 ?_
    refine lv_topi (fun v5 ev5 => ?_)
    have tv5 := a_add ev5 (by omega) (by omega)
    refine lv_iload_n hx hb dX10_entry_24 rfl (lv_at hl 1 rfl) ?_
    refine m_iast (1035) hx hb hE hM hS (hJ.2 35 (by decide)).1 rfl (vp_in_iff.mpr (by omega)) dX10_entry_25 (fun H locs I6 eI6 hM hS => ?_)
    subst eI6
    have hI := hI.putF (n := 1035) (k := ((v5).toNatClampNeg)) (v := a0) rfl
    have hK := hK.put (n := 1035) (k := ((v5).toNatClampNeg)) (v := a0) (by first | rfl | simp [inR])
    refine lv_aload_n hx hb dX10_entry_26 rfl (lv_at hl 0 rfl) ?_
    refine m_getr (1000) 36 (1036) hx hb hts hown hE oc10 hM hJ.1 rfl (by decide) rfl (hJ.2 36 (by decide)).2 (by decide) tb_1213 dX10_entry_27 ?_
    refine lv_sipush (v := (300)) hx hb dX10_entry_30 (by decide) ?_
    refine lv_aload_n hx hb dX10_entry_33 rfl (lv_at hl 0 rfl) ?_
    refine m_geti (1000) 27 hx hb hts hown hE oc10 hM hJ.1 rfl (by decide) rfl tb_1204 dX10_entry_34 ?_
    have z7 : (u2 I (1035) ((v5).toNatClampNeg) (a0)) (1000) 27 = I (1000) 27 := (show (u2 I (1035) ((v5).toNatClampNeg) (a0)) (1000) 27 = I (1000) 27 from by simp [u2_v])
    rw [z7]
    refine lv_imul hx hb dX10_entry_37 ?_
    refine lv_topi (fun v8 ev8 => ?_)
    have tv8 := a_mulL (c := 300) ev8 (by decide) (by omega) (by omega)
    refine lv_aload_n hx hb dX10_entry_38 rfl (lv_at hl 0 rfl) ?_
    refine m_geti (1000) 29 hx hb hts hown hE oc10 hM hJ.1 rfl (by decide) rfl tb_1206 dX10_entry_39 ?_
    have z9 : (u2 I (1035) ((v5).toNatClampNeg) (a0)) (1000) 29 = I (1000) 29 := (show (u2 I (1035) ((v5).toNatClampNeg) (a0)) (1000) 29 = I (1000) 29 from by simp [u2_v])
    rw [z9]
    refine lv_iadd hx hb dX10_entry_42 ?_
    refine lv_topi (fun v10 ev10 => ?_)
    have tv10 := a_add ev10 (by omega) (by omega)
    refine lv_iload_n hx hb dX10_entry_43 rfl (lv_at hl 2 rfl) ?_
    refine m_iast (1036) hx hb hE hM hS (hJ.2 36 (by decide)).1 rfl (vp_in_iff.mpr (by omega)) dX10_entry_44 (fun H locs I11 eI11 hM hS => ?_)
    subst eI11
    have hI := hI.putF (n := 1036) (k := ((v10).toNatClampNeg)) (v := a1) rfl
    have hK := hK.put (n := 1036) (k := ((v10).toNatClampNeg)) (v := a1) (by first | rfl | simp [inR])
    refine lv_aload_n hx hb dX10_entry_45 rfl (lv_at hl 0 rfl) ?_
    refine lv_dup hx hb dX10_entry_46 rfl ?_
    refine m_geti (1000) 29 hx hb hts hown hE oc10 hM hJ.1 rfl (by decide) rfl tb_1206 dX10_entry_47 ?_
    have z12 : (u2 (u2 I (1035) ((v5).toNatClampNeg) (a0)) (1036) ((v10).toNatClampNeg) (a1)) (1000) 29 = I (1000) 29 := (show (u2 (u2 I (1035) ((v5).toNatClampNeg) (a0)) (1036) ((v10).toNatClampNeg) (a1)) (1000) 29 = I (1000) 29 from by simp [u2_v])
    rw [z12]
    refine lv_iconst (v := (1)) hx hb dX10_entry_50 (by decide) ?_
    refine lv_iadd hx hb dX10_entry_51 ?_
    refine lv_topi (fun v13 ev13 => ?_)
    have tv13 := a_add ev13 (by omega) (by omega)
    refine m_puti (1000) 29 hx hb hts hown hE oc10 hM hS hJ.1 rfl (by decide) rfl rfl rfl rfl tb_1206 dX10_entry_52 (fun H locs I14 eI14 hM hS => ?_)
    subst eI14
    have hI := hI.put (n := 1000) (k := 29) (v := v13) (lo := 0) (hi := 300) rfl (by first | omega | decide)
    have hK := hK.put (n := 1000) (k := 29) (v := v13) (by first | rfl | simp [inR])
    have pw15 : ((u2 (u2 (u2 I (1035) ((v5).toNatClampNeg) (a0)) (1036) ((v10).toNatClampNeg) (a1)) (1000) 29 (v13)) (1000) 24).toInt = (I (1000) 24 : Int32).toInt := congrArg Int32.toInt ((show (u2 (u2 (u2 I (1035) ((v5).toNatClampNeg) (a0)) (1036) ((v10).toNatClampNeg) (a1)) (1000) 29 (v13)) (1000) 24 = I (1000) 24 from by simp [u2_v]))
    have pw16 : ((u2 (u2 (u2 I (1035) ((v5).toNatClampNeg) (a0)) (1036) ((v10).toNatClampNeg) (a1)) (1000) 29 (v13)) (1000) 25).toInt = (I (1000) 25 : Int32).toInt := congrArg Int32.toInt ((show (u2 (u2 (u2 I (1035) ((v5).toNatClampNeg) (a0)) (1036) ((v10).toNatClampNeg) (a1)) (1000) 29 (v13)) (1000) 25 = I (1000) 25 from by simp [u2_v]))
    have pw17 : ((u2 (u2 (u2 I (1035) ((v5).toNatClampNeg) (a0)) (1036) ((v10).toNatClampNeg) (a1)) (1000) 29 (v13)) (1000) 26).toInt = (I (1000) 26 : Int32).toInt := congrArg Int32.toInt ((show (u2 (u2 (u2 I (1035) ((v5).toNatClampNeg) (a0)) (1036) ((v10).toNatClampNeg) (a1)) (1000) 29 (v13)) (1000) 26 = I (1000) 26 from by simp [u2_v]))
    have pw18 : ((u2 (u2 (u2 I (1035) ((v5).toNatClampNeg) (a0)) (1036) ((v10).toNatClampNeg) (a1)) (1000) 29 (v13)) (1000) 27).toInt = (I (1000) 27 : Int32).toInt := congrArg Int32.toInt ((show (u2 (u2 (u2 I (1035) ((v5).toNatClampNeg) (a0)) (1036) ((v10).toNatClampNeg) (a1)) (1000) 29 (v13)) (1000) 27 = I (1000) 27 from by simp [u2_v]))
    have pw19 : ((u2 (u2 (u2 I (1035) ((v5).toNatClampNeg) (a0)) (1036) ((v10).toNatClampNeg) (a1)) (1000) 29 (v13)) (1000) 29).toInt = (v13 : Int32).toInt := congrArg Int32.toInt ((show (u2 (u2 (u2 I (1035) ((v5).toNatClampNeg) (a0)) (1036) ((v10).toNatClampNeg) (a1)) (1000) 29 (v13)) (1000) 29 = v13 from by simp [u2_v]))
    have pw20 : ((u2 (u2 (u2 I (1035) ((v5).toNatClampNeg) (a0)) (1036) ((v10).toNatClampNeg) (a1)) (1000) 29 (v13)) (1000) 31).toInt = (I (1000) 31 : Int32).toInt := congrArg Int32.toInt ((show (u2 (u2 (u2 I (1035) ((v5).toNatClampNeg) (a0)) (1036) ((v10).toNatClampNeg) (a1)) (1000) 29 (v13)) (1000) 31 = I (1000) 31 from by simp [u2_v]))
    have pw21 : ((u2 (u2 (u2 I (1035) ((v5).toNatClampNeg) (a0)) (1036) ((v10).toNatClampNeg) (a1)) (1000) 29 (v13)) (1000) 32).toInt = (I (1000) 32 : Int32).toInt := congrArg Int32.toInt ((show (u2 (u2 (u2 I (1035) ((v5).toNatClampNeg) (a0)) (1036) ((v10).toNatClampNeg) (a1)) (1000) 29 (v13)) (1000) 32 = I (1000) 32 from by simp [u2_v]))
    exact m_vret hx hb hr hlocks hM hS (Nat.le_of_ble_eq_true rfl) (Nat.le_of_ble_eq_true rfl) ⟨_, _, rfl, hI, hK, ⟨by omega, by omega, fun j => ENT_put (by omega) (by omega) (by omega) j⟩⟩ dX10_entry_55
theorem CT.bad {I I2 : MI} {n n2 : Nat} (h35 : I2 1035 = I 1035) (h36 : I2 1036 = I 1036) (h29 : (I2 1000 29).toInt = (I 1000 29).toInt) (hf : (I2 1000 26).toInt ≠ 0) : CT I I2 n n2 := ⟨fun j hj => by rw [h35, h36]; exact ⟨rfl, rfl⟩, fun q => absurd q hf⟩
theorem dX10_value_0 : decode cX10_value 0 = .ok (.aload_n 0, 1) := by decide +kernel
theorem dX10_value_1 : decode cX10_value 1 = .ok (.invokevirtual 287, 3) := by decide +kernel
theorem dX10_value_4 : decode cX10_value 4 = .ok (.aload_n 0, 1) := by decide +kernel
theorem dX10_value_5 : decode cX10_value 5 = .ok (.getfield 267, 3) := by decide +kernel
theorem dX10_value_8 : decode cX10_value 8 = .ok (.istore_n 1, 1) := by decide +kernel
theorem dX10_value_9 : decode cX10_value 9 = .ok (.aload_n 0, 1) := by decide +kernel
theorem dX10_value_10 : decode cX10_value 10 = .ok (.invokevirtual 307, 3) := by decide +kernel
theorem dX10_value_13 : decode cX10_value 13 = .ok (.ifCond .eq 23, 3) := by decide +kernel
theorem dX10_value_16 : decode cX10_value 16 = .ok (.aload_n 0, 1) := by decide +kernel
theorem dX10_value_17 : decode cX10_value 17 = .ok (.ldc_w 310, 3) := by decide +kernel
theorem dX10_value_20 : decode cX10_value 20 = .ok (.invokevirtual 311, 3) := by decide +kernel
theorem dX10_value_23 : decode cX10_value 23 = .ok (.istore_n 2, 1) := by decide +kernel
theorem dX10_value_24 : decode cX10_value 24 = .ok (.aload_n 0, 1) := by decide +kernel
theorem dX10_value_25 : decode cX10_value 25 = .ok (.iload_n 1, 1) := by decide +kernel
theorem dX10_value_26 : decode cX10_value 26 = .ok (.invokevirtual 315, 3) := by decide +kernel
theorem dX10_value_29 : decode cX10_value 29 = .ok (.aload_n 0, 1) := by decide +kernel
theorem dX10_value_30 : decode cX10_value 30 = .ok (.iconst 0, 1) := by decide +kernel
theorem dX10_value_31 : decode cX10_value 31 = .ok (.iload_n 2, 1) := by decide +kernel
theorem dX10_value_32 : decode cX10_value 32 = .ok (.invokevirtual 318, 3) := by decide +kernel
theorem dX10_value_35 : decode cX10_value 35 = .ok (.return_, 1) := by decide +kernel
theorem dX10_value_36 : decode cX10_value 36 = .ok (.iconst 0, 1) := by decide +kernel
theorem dX10_value_37 : decode cX10_value 37 = .ok (.istore_n 2, 1) := by decide +kernel
theorem dX10_value_38 : decode cX10_value 38 = .ok (.iload_n 2, 1) := by decide +kernel
theorem dX10_value_39 : decode cX10_value 39 = .ok (.aload_n 0, 1) := by decide +kernel
theorem dX10_value_40 : decode cX10_value 40 = .ok (.getfield 79, 3) := by decide +kernel
theorem dX10_value_43 : decode cX10_value 43 = .ok (.if_icmp .ge 20, 3) := by decide +kernel
theorem dX10_value_46 : decode cX10_value 46 = .ok (.aload_n 0, 1) := by decide +kernel
theorem dX10_value_47 : decode cX10_value 47 = .ok (.iload_n 2, 1) := by decide +kernel
theorem dX10_value_48 : decode cX10_value 48 = .ok (.invokestatic 321, 3) := by decide +kernel
theorem dX10_value_51 : decode cX10_value 51 = .ok (.invokevirtual 290, 3) := by decide +kernel
theorem dX10_value_54 : decode cX10_value 54 = .ok (.ifCond .ne 9, 3) := by decide +kernel
theorem dX10_value_57 : decode cX10_value 57 = .ok (.iinc 2 1, 3) := by decide +kernel
theorem dX10_value_60 : decode cX10_value 60 = .ok (.goto (-22), 3) := by decide +kernel
theorem dX10_value_63 : decode cX10_value 63 = .ok (.iload_n 2, 1) := by decide +kernel
theorem dX10_value_64 : decode cX10_value 64 = .ok (.aload_n 0, 1) := by decide +kernel
theorem dX10_value_65 : decode cX10_value 65 = .ok (.getfield 79, 3) := by decide +kernel
theorem dX10_value_68 : decode cX10_value 68 = .ok (.if_icmp .ne 10, 3) := by decide +kernel
theorem dX10_value_71 : decode cX10_value 71 = .ok (.aload_n 0, 1) := by decide +kernel
theorem dX10_value_72 : decode cX10_value 72 = .ok (.iconst 0, 1) := by decide +kernel
theorem dX10_value_73 : decode cX10_value 73 = .ok (.iload_n 1, 1) := by decide +kernel
theorem dX10_value_74 : decode cX10_value 74 = .ok (.invokevirtual 303, 3) := by decide +kernel
theorem dX10_value_77 : decode cX10_value 77 = .ok (.return_, 1) := by decide +kernel
theorem dX10_value_78 : decode cX10_value 78 = .ok (.aload_n 0, 1) := by decide +kernel
theorem dX10_value_79 : decode cX10_value 79 = .ok (.iload_n 1, 1) := by decide +kernel
theorem dX10_value_80 : decode cX10_value 80 = .ok (.invokevirtual 315, 3) := by decide +kernel
theorem dX10_value_83 : decode cX10_value 83 = .ok (.aload_n 0, 1) := by decide +kernel
theorem dX10_value_84 : decode cX10_value 84 = .ok (.dup, 1) := by decide +kernel
theorem dX10_value_85 : decode cX10_value 85 = .ok (.getfield 267, 3) := by decide +kernel
theorem dX10_value_88 : decode cX10_value 88 = .ok (.iload_n 2, 1) := by decide +kernel
theorem dX10_value_89 : decode cX10_value 89 = .ok (.invokestatic 321, 3) := by decide +kernel
theorem dX10_value_92 : decode cX10_value 92 = .ok (.invokevirtual 278, 3) := by decide +kernel
theorem dX10_value_95 : decode cX10_value 95 = .ok (.iadd, 1) := by decide +kernel
theorem dX10_value_96 : decode cX10_value 96 = .ok (.putfield 267, 3) := by decide +kernel
theorem dX10_value_99 : decode cX10_value 99 = .ok (.aload_n 0, 1) := by decide +kernel
theorem dX10_value_100 : decode cX10_value 100 = .ok (.iconst 1, 1) := by decide +kernel
theorem dX10_value_101 : decode cX10_value 101 = .ok (.iload_n 2, 1) := by decide +kernel
theorem dX10_value_102 : decode cX10_value 102 = .ok (.invokevirtual 318, 3) := by decide +kernel
theorem dX10_value_105 : decode cX10_value 105 = .ok (.return_, 1) := by decide +kernel
theorem ce_X10_value : CeV RX10 yX10_value cX10_value 3 none 0 := ⟨tb_1545, tp_70, tb_11, tb_1546, rfl, by decide, by decide, by decide +kernel⟩
set_option maxHeartbeats 4000000 in
set_option maxRecDepth 20000 in
theorem V_X10_value (l : Launch) (D : va_G) (A : Nat → Prop) (ad : Nat → Nat) (ns : List Nat) (I : MI) (L : ML) (G : MG) (hJ : SGM ns G) (hI : INV I) (hPI : (I 1000 26).toInt = 0 → 0 ≤ (I 1000 31).toInt ∧ (I 1000 31).toInt ≤ 60 ∧ 3 * (I 1000 29).toInt ≤ 6 * (I 1000 31).toInt + (I 1000 25).toInt ∧ (I 1000 25).toInt ≤ 400) : Met l yX10_value (wd yX10_value cX10_value 3 none) ({ frames := 5, cells := 0, slots := 0, locals := 109 }) (va_Pc [.ref (ad (1000))] (PM D A ad ns I L G)) (va_Qv (fun u => ∃ I2 L2, u = (ad, ns, I2, L2, G) ∧ INV I2 ∧ Kp [(1035, 1037)] [(1000, 25), (1000, 26), (1000, 29), (1000, 31)] I I2 ∧ ((I 1000 25).toInt ≤ (I2 1000 25).toInt ∧ ((I2 1000 25).toInt = (I 1000 25).toInt ∨ (I2 1000 25).toInt ≤ 400) ∧ ((I2 1000 26).toInt = 0 → (I 1000 26).toInt = 0) ∧ (I 1000 29).toInt ≤ (I2 1000 29).toInt ∧ ((I2 1000 26).toInt = 0 → (I2 1000 31).toInt = (I 1000 31).toInt + 1 ∧ (I2 1000 31).toInt ≤ 60 ∧ (I2 1000 29).toInt = (I 1000 29).toInt + 1) ∧ CT I I2 0 1)) (BM D A) A) 0 0 A := by
  refine m_ofW (by decide) (Nat.le_of_ble_eq_true rfl) ?_
  intro p e s m below meth c ls args hC hE hM hA hS hl
  obtain ⟨hx, hb, hml, hown, hts, hr, hlocks, hin⟩ := hC
  have k0 : (0 : Int32).toInt = 0 := by decide
  have k1 : (1 : Int32).toInt = 1 := by decide
  have k99999 : (99999 : Int32).toInt = 99999 := by decide
  have hC := CT.rf I 0
  have hI0 := hI
  have hK : Kp [(1035, 1037)] [(1000, 25), (1000, 26), (1000, 29), (1000, 31)] I I := Kp.rf
  have hl : lv_has ls 3 [(0, .ref (ad (1000)))] := hl
  refine lv_aload_n hx hb dX10_value_0 rfl (lv_at hl 0 rfl) ?_
  refine m_callv (m_runV (1000) (As := []) (rest := []) hx hb hml hown hts hE hM hS hA ce_X10_blanks tb_1506 (V_X10_blanks l D A ad ns I L G hJ hI) rfl rfl ⟨Nat.le_of_ble_eq_true rfl, Nat.le_of_ble_eq_true rfl⟩ hJ.1 rfl rfl (by decide) rfl hl.1 rfl (Nat.le_of_ble_eq_true rfl) dX10_value_1 ⟨Nat.le_of_ble_eq_true rfl, Nat.le_of_ble_eq_true rfl⟩) hS (fun u H locs hw hM hS => ?_)
  obtain ⟨I1, L2, rfl, hI, hkI1, xI1⟩ := hw
  have hM : Mem D A ad ns I1 L2 G H := hM
  have hK := hK.trans hkI1 rfl
  have pw3 : (I1 (1000) 24).toInt = (I (1000) 24 : Int32).toInt := congrArg Int32.toInt ((hkI1.get (1000) 24 rfl))
  have pw4 : (I1 (1000) 26).toInt = (I (1000) 26 : Int32).toInt := congrArg Int32.toInt ((hkI1.get (1000) 26 rfl))
  have pw5 : (I1 (1000) 27).toInt = (I (1000) 27 : Int32).toInt := congrArg Int32.toInt ((hkI1.get (1000) 27 rfl))
  have pw6 : (I1 (1000) 29).toInt = (I (1000) 29 : Int32).toInt := congrArg Int32.toInt ((hkI1.get (1000) 29 rfl))
  have pw7 : (I1 (1000) 31).toInt = (I (1000) 31 : Int32).toInt := congrArg Int32.toInt ((hkI1.get (1000) 31 rfl))
  have pw8 : (I1 (1000) 32).toInt = (I (1000) 32 : Int32).toInt := congrArg Int32.toInt ((hkI1.get (1000) 32 rfl))
  refine lv_aload_n hx hb dX10_value_4 rfl (lv_at hl 0 rfl) ?_
  refine m_geti (1000) 25 hx hb hts hown hE oc10 hM hJ.1 rfl (by decide) rfl tb_1202 dX10_value_5 ?_
  have g9 := hI.get (1000) 25 (lo := 0) (hi := 100000) rfl
  refine lv_istore_n (lv' := [(1, .int (I1 (1000) 25)), (0, .ref (ad (1000)))]) hx hb dX10_value_8 rfl hl (by decide) rfl (fun ls hl => ?_)
  refine lv_aload_n hx hb dX10_value_9 rfl (lv_at hl 1 rfl) ?_
  refine m_calli (m_runV (1000) (As := []) (rest := []) hx hb hml hown hts hE hM hS hA ce_X10_isDigit tb_1529 (V_X10_isDigit l D A ad ns I1 L2 G hJ hI) rfl rfl ⟨Nat.le_of_ble_eq_true rfl, Nat.le_of_ble_eq_true rfl⟩ hJ.1 rfl rfl (by decide) rfl hl.1 rfl (Nat.le_of_ble_eq_true rfl) dX10_value_10 ⟨Nat.le_of_ble_eq_true rfl, Nat.le_of_ble_eq_true rfl⟩) hS (fun r10 u H locs hw hM hS => ?_)
  obtain ⟨rfl, xr10⟩ := hw
  have hM : Mem D A ad ns I1 L2 G H := hM
  have g11 := hI.get 1000 24 (lo := 0) (hi := 400) rfl
  have g12 := hI.get 1000 25 (lo := 0) (hi := 100000) rfl
  refine lv_if_eq (tgt := 36) hx hb dX10_value_13 (by decide) (fun c13 => ?_) (fun c13 => ?_)
  · have hc13 := c13
    have q13 := q_eq hc13
    refine lv_iconst (v := (0)) hx hb dX10_value_36 (by decide) ?_
    refine lv_istore_n (lv' := [(2, .int (0)), (1, .int (I1 (1000) 25)), (0, .ref (ad (1000)))]) hx hb dX10_value_37 rfl hl (by decide) rfl (fun ls hl => ?_)
    have loop38 : ∀ (n : Nat) (x2_38 : Int32) (Ia38 : MI) (La38 : ML) (H : Heap) (locs : List Loc) (ls : Array Slot), INV Ia38 → Kp [(1035, 1037)] [(1000, 25), (1000, 26), (1000, 29), (1000, 31)] I Ia38 → (0 ≤ x2_38.toInt ∧ x2_38.toInt ≤ 13) → (13 - x2_38.toInt).toNat < n → Mem D A ad ns Ia38 La38 G H → va_S A s.heap H locs → lv_has ls 3 [(2, .int (x2_38)), (1, .int (I1 (1000) 25)), (0, .ref (ad (1000)))] → W p l e ({ frames := 5, cells := 0, slots := 0, locals := 109 } : Room) s m args below meth c H locs 0 0 (MQ below (va_Qv (fun u => ∃ I2 L2, u = (ad, ns, I2, L2, G) ∧ INV I2 ∧ Kp [(1035, 1037)] [(1000, 25), (1000, 26), (1000, 29), (1000, 31)] I I2 ∧ ((I 1000 25).toInt ≤ (I2 1000 25).toInt ∧ ((I2 1000 25).toInt = (I 1000 25).toInt ∨ (I2 1000 25).toInt ≤ 400) ∧ ((I2 1000 26).toInt = 0 → (I 1000 26).toInt = 0) ∧ (I 1000 29).toInt ≤ (I2 1000 29).toInt ∧ ((I2 1000 26).toInt = 0 → (I2 1000 31).toInt = (I 1000 31).toInt + 1 ∧ (I2 1000 31).toInt ≤ 60 ∧ (I2 1000 29).toInt = (I 1000 29).toInt + 1) ∧ CT I I2 0 1)) (BM D A) A) args s 0 0 A) (F0 m 38 ls []) := by
      intro n
      induction n with
      | zero =>
        intro x2_38 Ia38 La38 H locs ls hI hK hr2_38 hmu
        exact absurd hmu (Nat.not_lt_zero _)
      | succ n ih38 =>
        intro x2_38 Ia38 La38 H locs ls hI hK hr2_38 hmu38 hM hS hl
        refine lv_iload_n hx hb dX10_value_38 rfl (lv_at hl 0 rfl) ?_
        refine lv_aload_n hx hb dX10_value_39 rfl (lv_at hl 2 rfl) ?_
        refine m_geti (1000) 33 hx hb hts hown hE oc10 hM hJ.1 rfl (by decide) rfl tb_1210 dX10_value_40 ?_
        have g14 := hI.get (1000) 33 (lo := 13) (hi := 13) rfl
        refine lv_icmp_ge (tgt := 63) hx hb dX10_value_43 (by decide) (fun c15 => ?_) (fun c15 => ?_)
        · have hc15 := c15
          have q15 := q_le hc15
          refine lv_iload_n hx hb dX10_value_63 rfl (lv_at hl 0 rfl) ?_
          refine lv_aload_n hx hb dX10_value_64 rfl (lv_at hl 2 rfl) ?_
          refine m_geti (1000) 33 hx hb hts hown hE oc10 hM hJ.1 rfl (by decide) rfl tb_1210 dX10_value_65 ?_
          refine lv_icmp_ne (tgt := 78) hx hb dX10_value_68 (by decide) (fun c16 => ?_) (fun c16 => ?_)
          · exact absurd (q_ne c16) (by omega)
          · have hc16 := c16
            have q16 := q_eq hc16
            refine lv_aload_n hx hb dX10_value_71 rfl (lv_at hl 2 rfl) ?_
            refine lv_iconst (v := (0)) hx hb dX10_value_72 (by decide) ?_
            refine lv_iload_n hx hb dX10_value_73 rfl (lv_at hl 1 rfl) ?_
            refine m_callv (m_runV (1000) (As := [.int (0), .int (I1 (1000) 25)]) (rest := []) hx hb hml hown hts hE hM hS hA ce_X10_fails tb_1521 (V_X10_fails l D A ad ns Ia38 La38 G (0) (I1 (1000) 25) hJ hI (by first | omega | decide) (by first | omega | decide)) rfl rfl ⟨Nat.le_of_ble_eq_true rfl, Nat.le_of_ble_eq_true rfl⟩ hJ.1 rfl rfl (by decide) rfl hl.1 rfl (Nat.le_of_ble_eq_true rfl) dX10_value_74 ⟨Nat.le_of_ble_eq_true rfl, Nat.le_of_ble_eq_true rfl⟩) hS (fun u H locs hw hM hS => ?_)
            obtain ⟨I17, L18, rfl, hI, hkI17, xI17⟩ := hw
            have hM : Mem D A ad ns I17 L18 G H := hM
            have hK := hK.trans hkI17 rfl
            have pw19 : (I17 (1000) 24).toInt = (Ia38 (1000) 24 : Int32).toInt := congrArg Int32.toInt ((hkI17.get (1000) 24 rfl))
            have pw20 : (I17 (1000) 25).toInt = (Ia38 (1000) 25 : Int32).toInt := congrArg Int32.toInt ((hkI17.get (1000) 25 rfl))
            have pw21 : (I17 (1000) 27).toInt = (Ia38 (1000) 27 : Int32).toInt := congrArg Int32.toInt ((hkI17.get (1000) 27 rfl))
            have pw22 : (I17 (1000) 29).toInt = (Ia38 (1000) 29 : Int32).toInt := congrArg Int32.toInt ((hkI17.get (1000) 29 rfl))
            have pw23 : (I17 (1000) 31).toInt = (Ia38 (1000) 31 : Int32).toInt := congrArg Int32.toInt ((hkI17.get (1000) 31 rfl))
            have pw24 : (I17 (1000) 32).toInt = (Ia38 (1000) 32 : Int32).toInt := congrArg Int32.toInt ((hkI17.get (1000) 32 rfl))
            have hC := CT.link (I2 := I17) hC ((hkI17.getA 1035 rfl)) ((hkI17.getA 1036 rfl)) (by omega) (by omega)
            exact m_vret hx hb hr hlocks hM hS (Nat.le_of_ble_eq_true rfl) (Nat.le_of_ble_eq_true rfl) ⟨_, _, rfl, hI, hK, ⟨by omega, by omega, by omega, by omega, by omega, hC⟩⟩ dX10_value_77
        · have hc15 := c15
          have q15 := q_nle hc15
          refine lv_aload_n hx hb dX10_value_46 rfl (lv_at hl 2 rfl) ?_
          refine lv_iload_n hx hb dX10_value_47 rfl (lv_at hl 0 rfl) ?_
          refine m_callq (m_runS (As := [.int (x2_38)]) (rest := [.ref (ad (1000))]) hx hb hml hown hts hE hM hS hA ce_X10_wordOf tb_1556 (V_X10_wordOf l D A ad ns Ia38 La38 G (x2_38) hI (by first | omega | decide)) rfl rfl ⟨Nat.le_of_ble_eq_true rfl, Nat.le_of_ble_eq_true rfl⟩  rfl hl.1 rfl (Nat.le_of_ble_eq_true rfl) dX10_value_48 ⟨Nat.le_of_ble_eq_true rfl, Nat.le_of_ble_eq_true rfl⟩) hS (fun r25 u H locs hw hM hS => ?_)
          obtain ⟨rfl, xr25⟩ := hw
          have hM : Mem D A ad ns Ia38 La38 G H := hM
          obtain ⟨q, rfl, hq, hn1, hn5⟩ := xr25
          have hn : q.2.2.2.length < 16 := by omega
          have kN : (Int32.ofNat q.2.2.2.length).toInt = q.2.2.2.length := nI_toInt (by omega)
          refine m_calli (m_runV (1000) (As := [.ref (D.2 100 (wi (x2_38).toNatClampNeg))]) (rest := []) hx hb hml hown hts hE hM hS hA ce_X10_stands tb_1515 (V_X10_stands l D A ad ns Ia38 La38 G (wi (x2_38).toNatClampNeg) _ hJ hI hq hn hn1) rfl rfl ⟨Nat.le_of_ble_eq_true rfl, Nat.le_of_ble_eq_true rfl⟩ hJ.1 rfl rfl (by decide) rfl hl.1 rfl (Nat.le_of_ble_eq_true rfl) dX10_value_51 ⟨Nat.le_of_ble_eq_true rfl, Nat.le_of_ble_eq_true rfl⟩) hS (fun r26 u H locs hw hM hS => ?_)
          obtain ⟨rfl, xr26⟩ := hw
          have hM : Mem D A ad ns Ia38 La38 G H := hM
          have g27 := hI.get 1000 24 (lo := 0) (hi := 400) rfl
          have g28 := hI.get 1000 25 (lo := 0) (hi := 100000) rfl
          have sl29 := xr26.2.2
          refine lv_if_ne (tgt := 63) hx hb dX10_value_54 (by decide) (fun c30 => ?_) (fun c30 => ?_)
          · have hc30 := c30
            have q30 := q_ne hc30
            refine lv_iload_n hx hb dX10_value_63 rfl (lv_at hl 0 rfl) ?_
            refine lv_aload_n hx hb dX10_value_64 rfl (lv_at hl 2 rfl) ?_
            refine m_geti (1000) 33 hx hb hts hown hE oc10 hM hJ.1 rfl (by decide) rfl tb_1210 dX10_value_65 ?_
            refine lv_icmp_ne (tgt := 78) hx hb dX10_value_68 (by decide) (fun c31 => ?_) (fun c31 => ?_)
            · have hc31 := c31
              have q31 := q_ne hc31
              refine lv_aload_n hx hb dX10_value_78 rfl (lv_at hl 2 rfl) ?_
              refine lv_iload_n hx hb dX10_value_79 rfl (lv_at hl 1 rfl) ?_
              refine m_callv (m_runV (1000) (As := [.int (I1 (1000) 25)]) (rest := []) hx hb hml hown hts hE hM hS hA ce_X10_isCounted tb_1548 (V_X10_isCounted l D A ad ns Ia38 La38 G (I1 (1000) 25) hJ hI (by omega) (by first | omega | decide)) rfl rfl ⟨Nat.le_of_ble_eq_true rfl, Nat.le_of_ble_eq_true rfl⟩ hJ.1 rfl rfl (by decide) rfl hl.1 rfl (Nat.le_of_ble_eq_true rfl) dX10_value_80 ⟨Nat.le_of_ble_eq_true rfl, Nat.le_of_ble_eq_true rfl⟩) hS (fun u H locs hw hM hS => ?_)
              obtain ⟨I32, L33, rfl, hI, hkI32, xI32⟩ := hw
              have hM : Mem D A ad ns I32 L33 G H := hM
              have hK := hK.trans hkI32 rfl
              have pw34 : (I32 (1000) 24).toInt = (Ia38 (1000) 24 : Int32).toInt := congrArg Int32.toInt ((hkI32.get (1000) 24 rfl))
              have pw35 : (I32 (1000) 25).toInt = (Ia38 (1000) 25 : Int32).toInt := congrArg Int32.toInt ((hkI32.get (1000) 25 rfl))
              have pw36 : (I32 (1000) 27).toInt = (Ia38 (1000) 27 : Int32).toInt := congrArg Int32.toInt ((hkI32.get (1000) 27 rfl))
              have pw37 : (I32 (1000) 29).toInt = (Ia38 (1000) 29 : Int32).toInt := congrArg Int32.toInt ((hkI32.get (1000) 29 rfl))
              have pw38 : (I32 (1000) 32).toInt = (Ia38 (1000) 32 : Int32).toInt := congrArg Int32.toInt ((hkI32.get (1000) 32 rfl))
              refine lv_aload_n hx hb dX10_value_83 rfl (lv_at hl 2 rfl) ?_
              refine lv_dup hx hb dX10_value_84 rfl ?_
              refine m_geti (1000) 25 hx hb hts hown hE oc10 hM hJ.1 rfl (by decide) rfl tb_1202 dX10_value_85 ?_
              have g39 := hI.get (1000) 25 (lo := 0) (hi := 100000) rfl
              have z40 : I32 (1000) 25 = Ia38 (1000) 25 := (hkI32.get (1000) 25 rfl)
              rw [z40] at g39 ⊢
              refine lv_iload_n hx hb dX10_value_88 rfl (lv_at hl 0 rfl) ?_
              refine m_callq (m_runS (As := [.int (x2_38)]) (rest := [.int (Ia38 (1000) 25), .ref (ad (1000))]) hx hb hml hown hts hE hM hS hA ce_X10_wordOf tb_1556 (V_X10_wordOf l D A ad ns I32 L33 G (x2_38) hI (by first | omega | decide)) rfl rfl ⟨Nat.le_of_ble_eq_true rfl, Nat.le_of_ble_eq_true rfl⟩  rfl hl.1 rfl (Nat.le_of_ble_eq_true rfl) dX10_value_89 ⟨Nat.le_of_ble_eq_true rfl, Nat.le_of_ble_eq_true rfl⟩) hS (fun r41 u H locs hw hM hS => ?_)
              obtain ⟨rfl, xr41⟩ := hw
              have hM : Mem D A ad ns I32 L33 G H := hM
              obtain ⟨q2, rfl, hq2, -, -⟩ := xr41
              refine m_calli (m_runVA (D.2 100 (wi (x2_38).toNatClampNeg)) (As := []) (rest := [.int (Ia38 (1000) 25), .ref (ad (1000))]) hx hb hml hown hts hE hM hS hA ce_J0_length_8abf5 tb_1519 (C_J0_length_8abf5 l D A ad ns I32 L33 G (wi (x2_38).toNatClampNeg) _ hq hn) rfl rfl ⟨Nat.le_of_ble_eq_true rfl, Nat.le_of_ble_eq_true rfl⟩ (m_strr hE hS (wi (x2_38).toNatClampNeg) hq) rfl hl.1 rfl (Nat.le_of_ble_eq_true rfl) dX10_value_92 ⟨Nat.le_of_ble_eq_true rfl, Nat.le_of_ble_eq_true rfl⟩) hS (fun r42 u H locs hw hM hS => ?_)
              obtain ⟨rfl, rfl⟩ := hw
              have hM : Mem D A ad ns I32 L33 G H := hM
              refine lv_iadd hx hb dX10_value_95 ?_
              refine lv_topi (fun v43 ev43 => ?_)
              have tv43 := a_add ev43 (by omega) (by omega)
              refine m_puti (1000) 25 hx hb hts hown hE oc10 hM hS hJ.1 rfl (by decide) rfl rfl rfl rfl tb_1202 dX10_value_96 (fun H locs I44 eI44 hM hS => ?_)
              subst eI44
              have hI := hI.put (n := 1000) (k := 25) (v := v43) (lo := 0) (hi := 100000) rfl (by first | omega | decide)
              have hK := hK.put (n := 1000) (k := 25) (v := v43) (by first | rfl | simp [inR])
              refine lv_aload_n hx hb dX10_value_99 rfl (lv_at hl 2 rfl) ?_
              refine lv_iconst (v := (1)) hx hb dX10_value_100 (by decide) ?_
              refine lv_iload_n hx hb dX10_value_101 rfl (lv_at hl 0 rfl) ?_
              have pw45 : ((u2 I32 (1000) 25 (v43)) (1000) 24).toInt = (Ia38 (1000) 24 : Int32).toInt := congrArg Int32.toInt (((show (u2 I32 (1000) 25 (v43)) (1000) 24 = I32 (1000) 24 from by simp [u2_v])).trans (hkI32.get (1000) 24 rfl))
              have pw46 : ((u2 I32 (1000) 25 (v43)) (1000) 25).toInt = (v43 : Int32).toInt := congrArg Int32.toInt ((show (u2 I32 (1000) 25 (v43)) (1000) 25 = v43 from by simp [u2_v]))
              have pw47 : ((u2 I32 (1000) 25 (v43)) (1000) 26).toInt = (I32 (1000) 26 : Int32).toInt := congrArg Int32.toInt ((show (u2 I32 (1000) 25 (v43)) (1000) 26 = I32 (1000) 26 from by simp [u2_v]))
              have pw48 : ((u2 I32 (1000) 25 (v43)) (1000) 27).toInt = (Ia38 (1000) 27 : Int32).toInt := congrArg Int32.toInt (((show (u2 I32 (1000) 25 (v43)) (1000) 27 = I32 (1000) 27 from by simp [u2_v])).trans (hkI32.get (1000) 27 rfl))
              have pw49 : ((u2 I32 (1000) 25 (v43)) (1000) 29).toInt = (Ia38 (1000) 29 : Int32).toInt := congrArg Int32.toInt (((show (u2 I32 (1000) 25 (v43)) (1000) 29 = I32 (1000) 29 from by simp [u2_v])).trans (hkI32.get (1000) 29 rfl))
              have pw50 : ((u2 I32 (1000) 25 (v43)) (1000) 31).toInt = (I32 (1000) 31 : Int32).toInt := congrArg Int32.toInt ((show (u2 I32 (1000) 25 (v43)) (1000) 31 = I32 (1000) 31 from by simp [u2_v]))
              have pw51 : ((u2 I32 (1000) 25 (v43)) (1000) 32).toInt = (Ia38 (1000) 32 : Int32).toInt := congrArg Int32.toInt (((show (u2 I32 (1000) 25 (v43)) (1000) 32 = I32 (1000) 32 from by simp [u2_v])).trans (hkI32.get (1000) 32 rfl))
              refine m_callv (m_runV (1000) (As := [.int (1), .int (x2_38)]) (rest := []) hx hb hml hown hts hE hM hS hA ce_X10_entry tb_1552 (V_X10_entry l D A ad ns (u2 I32 (1000) 25 (v43)) L33 G (1) (x2_38) hJ hI (by omega)) rfl rfl ⟨Nat.le_of_ble_eq_true rfl, Nat.le_of_ble_eq_true rfl⟩ hJ.1 rfl rfl (by decide) rfl hl.1 rfl (Nat.le_of_ble_eq_true rfl) dX10_value_102 ⟨Nat.le_of_ble_eq_true rfl, Nat.le_of_ble_eq_true rfl⟩) hS (fun u H locs hw hM hS => ?_)
              obtain ⟨I52, L53, rfl, hI, hkI52, xI52⟩ := hw
              have hM : Mem D A ad ns I52 L53 G H := hM
              have hK := hK.trans hkI52 rfl
              have hC := CT.link (I2 := (u2 I32 (1000) 25 (v43))) hC (((show (u2 I32 (1000) 25 (v43)) 1035 = I32 1035 from by funext zz; simp [u2_v])).trans (hkI32.getA 1035 rfl)) (((show (u2 I32 (1000) 25 (v43)) 1036 = I32 1036 from by funext zz; simp [u2_v])).trans (hkI32.getA 1036 rfl)) (by omega) (by omega)
              have pw54 : (I52 (1000) 24).toInt = (Ia38 (1000) 24 : Int32).toInt := congrArg Int32.toInt ((((hkI52.get (1000) 24 rfl)).trans (show (u2 I32 (1000) 25 (v43)) (1000) 24 = I32 (1000) 24 from by simp [u2_v])).trans (hkI32.get (1000) 24 rfl))
              have pw55 : (I52 (1000) 25).toInt = (v43 : Int32).toInt := congrArg Int32.toInt (((hkI52.get (1000) 25 rfl)).trans (show (u2 I32 (1000) 25 (v43)) (1000) 25 = v43 from by simp [u2_v]))
              have pw56 : (I52 (1000) 26).toInt = (I32 (1000) 26 : Int32).toInt := congrArg Int32.toInt (((hkI52.get (1000) 26 rfl)).trans (show (u2 I32 (1000) 25 (v43)) (1000) 26 = I32 (1000) 26 from by simp [u2_v]))
              have pw57 : (I52 (1000) 27).toInt = (Ia38 (1000) 27 : Int32).toInt := congrArg Int32.toInt ((((hkI52.get (1000) 27 rfl)).trans (show (u2 I32 (1000) 25 (v43)) (1000) 27 = I32 (1000) 27 from by simp [u2_v])).trans (hkI32.get (1000) 27 rfl))
              have pw58 : (I52 (1000) 31).toInt = (I32 (1000) 31 : Int32).toInt := congrArg Int32.toInt (((hkI52.get (1000) 31 rfl)).trans (show (u2 I32 (1000) 25 (v43)) (1000) 31 = I32 (1000) 31 from by simp [u2_v]))
              have pw59 : (I52 (1000) 32).toInt = (Ia38 (1000) 32 : Int32).toInt := congrArg Int32.toInt ((((hkI52.get (1000) 32 rfl)).trans (show (u2 I32 (1000) 25 (v43)) (1000) 32 = I32 (1000) 32 from by simp [u2_v])).trans (hkI32.get (1000) 32 rfl))
              have g60 := hI0.get 1000 27 (lo := 0) (hi := 5) rfl
              have g61 := hI0.get 1000 29 (lo := 0) (hi := 300) rfl
              have hC := hC.comp (n2 := 1) (xI52.2.2.ct (by omega) (by omega) (by omega) (by omega)) (by omega) (by omega) (by omega) (by omega) (by omega)
              exact m_vret hx hb hr hlocks hM hS (Nat.le_of_ble_eq_true rfl) (Nat.le_of_ble_eq_true rfl) ⟨_, _, rfl, hI, hK, ⟨by omega, by omega, by omega, by omega, by omega, hC⟩⟩ dX10_value_105
            · exact absurd (q_eq c31) (by omega)
          · have hc30 := c30
            have q30 := q_eq hc30
            obtain ⟨v62, ev62⟩ : ∃ z : Int32, z = x2_38 + Int32.ofInt (1) := ⟨_, rfl⟩
            have tv62 := a_inc ev62 (by decide) (by omega) (by omega)
            refine lv_iinc (v := v62) (lv' := [(2, .int (v62)), (1, .int (I1 (1000) 25)), (0, .ref (ad (1000)))]) hx hb dX10_value_57 hl (k := 0) rfl ev62.symm (by decide) rfl (fun ls hl => ?_)
            refine lv_goto (tgt := 38) hx hb dX10_value_60 (by decide) ?_
            exact ih38 (v62) Ia38 La38 _ _ ls hI hK (by first | omega | decide) (by omega) hM hS (lv_sub hl [0, 1, 2] rfl)
    exact loop38 (_ + 1) (0) I1 L2 _ _ ls hI hK (by first | omega | decide) (Nat.lt_succ_self _) hM hS (lv_sub hl [0, 1, 2] rfl)
  · have hc13 := c13
    have q13 := q_ne hc13
    refine lv_aload_n hx hb dX10_value_16 rfl (lv_at hl 1 rfl) ?_
    refine lv_ldcw (v := (99999)) hx hb hown (hts _ tb_1547) dX10_value_17 ?_
    refine m_calli (m_runV (1000) (As := [.int (99999)]) (rest := []) hx hb hml hown hts hE hM hS hA ce_X10_digits tb_1525 (V_X10_digits l D A ad ns I1 L2 G (99999) hJ hI) rfl rfl ⟨Nat.le_of_ble_eq_true rfl, Nat.le_of_ble_eq_true rfl⟩ hJ.1 rfl rfl (by decide) rfl hl.1 rfl (Nat.le_of_ble_eq_true rfl) dX10_value_20 ⟨Nat.le_of_ble_eq_true rfl, Nat.le_of_ble_eq_true rfl⟩) hS (fun r63 u H locs hw hM hS => ?_)
    obtain ⟨I64, L65, rfl, hI, hkI64, xr63⟩ := hw
    have hM : Mem D A ad ns I64 L65 G H := hM
    have hK := hK.trans hkI64 rfl
    have pw66 : (I64 (1000) 24).toInt = (I (1000) 24 : Int32).toInt := congrArg Int32.toInt (((hkI64.get (1000) 24 rfl)).trans (hkI1.get (1000) 24 rfl))
    have pw67 : (I64 (1000) 27).toInt = (I (1000) 27 : Int32).toInt := congrArg Int32.toInt (((hkI64.get (1000) 27 rfl)).trans (hkI1.get (1000) 27 rfl))
    have pw68 : (I64 (1000) 29).toInt = (I (1000) 29 : Int32).toInt := congrArg Int32.toInt (((hkI64.get (1000) 29 rfl)).trans (hkI1.get (1000) 29 rfl))
    have pw69 : (I64 (1000) 31).toInt = (I (1000) 31 : Int32).toInt := congrArg Int32.toInt (((hkI64.get (1000) 31 rfl)).trans (hkI1.get (1000) 31 rfl))
    have pw70 : (I64 (1000) 32).toInt = (I (1000) 32 : Int32).toInt := congrArg Int32.toInt (((hkI64.get (1000) 32 rfl)).trans (hkI1.get (1000) 32 rfl))
    refine lv_istore_n (lv' := [(2, .int (r63)), (1, .int (I1 (1000) 25)), (0, .ref (ad (1000)))]) hx hb dX10_value_23 rfl hl (by decide) rfl (fun ls hl => ?_)
    refine lv_aload_n hx hb dX10_value_24 rfl (lv_at hl 2 rfl) ?_
    refine lv_iload_n hx hb dX10_value_25 rfl (lv_at hl 1 rfl) ?_
    refine m_callv (m_runV (1000) (As := [.int (I1 (1000) 25)]) (rest := []) hx hb hml hown hts hE hM hS hA ce_X10_isCounted tb_1548 (V_X10_isCounted l D A ad ns I64 L65 G (I1 (1000) 25) hJ hI (by omega) (by first | omega | decide)) rfl rfl ⟨Nat.le_of_ble_eq_true rfl, Nat.le_of_ble_eq_true rfl⟩ hJ.1 rfl rfl (by decide) rfl hl.1 rfl (Nat.le_of_ble_eq_true rfl) dX10_value_26 ⟨Nat.le_of_ble_eq_true rfl, Nat.le_of_ble_eq_true rfl⟩) hS (fun u H locs hw hM hS => ?_)
    obtain ⟨I71, L72, rfl, hI, hkI71, xI71⟩ := hw
    have hM : Mem D A ad ns I71 L72 G H := hM
    have hK := hK.trans hkI71 rfl
    have pw73 : (I71 (1000) 24).toInt = (I (1000) 24 : Int32).toInt := congrArg Int32.toInt ((((hkI71.get (1000) 24 rfl)).trans (hkI64.get (1000) 24 rfl)).trans (hkI1.get (1000) 24 rfl))
    have pw74 : (I71 (1000) 25).toInt = (I64 (1000) 25 : Int32).toInt := congrArg Int32.toInt ((hkI71.get (1000) 25 rfl))
    have pw75 : (I71 (1000) 27).toInt = (I (1000) 27 : Int32).toInt := congrArg Int32.toInt ((((hkI71.get (1000) 27 rfl)).trans (hkI64.get (1000) 27 rfl)).trans (hkI1.get (1000) 27 rfl))
    have pw76 : (I71 (1000) 29).toInt = (I (1000) 29 : Int32).toInt := congrArg Int32.toInt ((((hkI71.get (1000) 29 rfl)).trans (hkI64.get (1000) 29 rfl)).trans (hkI1.get (1000) 29 rfl))
    have pw77 : (I71 (1000) 32).toInt = (I (1000) 32 : Int32).toInt := congrArg Int32.toInt ((((hkI71.get (1000) 32 rfl)).trans (hkI64.get (1000) 32 rfl)).trans (hkI1.get (1000) 32 rfl))
    refine lv_aload_n hx hb dX10_value_29 rfl (lv_at hl 2 rfl) ?_
    refine lv_iconst (v := (0)) hx hb dX10_value_30 (by decide) ?_
    refine lv_iload_n hx hb dX10_value_31 rfl (lv_at hl 0 rfl) ?_
    refine m_callv (m_runV (1000) (As := [.int (0), .int (r63)]) (rest := []) hx hb hml hown hts hE hM hS hA ce_X10_entry tb_1552 (V_X10_entry l D A ad ns I71 L72 G (0) (r63) hJ hI (by omega)) rfl rfl ⟨Nat.le_of_ble_eq_true rfl, Nat.le_of_ble_eq_true rfl⟩ hJ.1 rfl rfl (by decide) rfl hl.1 rfl (Nat.le_of_ble_eq_true rfl) dX10_value_32 ⟨Nat.le_of_ble_eq_true rfl, Nat.le_of_ble_eq_true rfl⟩) hS (fun u H locs hw hM hS => ?_)
    obtain ⟨I78, L79, rfl, hI, hkI78, xI78⟩ := hw
    have hM : Mem D A ad ns I78 L79 G H := hM
    have hK := hK.trans hkI78 rfl
    have hC := CT.link (I2 := I71) hC ((((hkI71.getA 1035 rfl)).trans (hkI64.getA 1035 rfl)).trans (hkI1.getA 1035 rfl)) ((((hkI71.getA 1036 rfl)).trans (hkI64.getA 1036 rfl)).trans (hkI1.getA 1036 rfl)) (by omega) (by omega)
    have pw80 : (I78 (1000) 24).toInt = (I (1000) 24 : Int32).toInt := congrArg Int32.toInt (((((hkI78.get (1000) 24 rfl)).trans (hkI71.get (1000) 24 rfl)).trans (hkI64.get (1000) 24 rfl)).trans (hkI1.get (1000) 24 rfl))
    have pw81 : (I78 (1000) 25).toInt = (I64 (1000) 25 : Int32).toInt := congrArg Int32.toInt (((hkI78.get (1000) 25 rfl)).trans (hkI71.get (1000) 25 rfl))
    have pw82 : (I78 (1000) 26).toInt = (I71 (1000) 26 : Int32).toInt := congrArg Int32.toInt ((hkI78.get (1000) 26 rfl))
    have pw83 : (I78 (1000) 27).toInt = (I (1000) 27 : Int32).toInt := congrArg Int32.toInt (((((hkI78.get (1000) 27 rfl)).trans (hkI71.get (1000) 27 rfl)).trans (hkI64.get (1000) 27 rfl)).trans (hkI1.get (1000) 27 rfl))
    have pw84 : (I78 (1000) 31).toInt = (I71 (1000) 31 : Int32).toInt := congrArg Int32.toInt ((hkI78.get (1000) 31 rfl))
    have pw85 : (I78 (1000) 32).toInt = (I (1000) 32 : Int32).toInt := congrArg Int32.toInt (((((hkI78.get (1000) 32 rfl)).trans (hkI71.get (1000) 32 rfl)).trans (hkI64.get (1000) 32 rfl)).trans (hkI1.get (1000) 32 rfl))
    have g86 := hI0.get 1000 27 (lo := 0) (hi := 5) rfl
    have g87 := hI0.get 1000 29 (lo := 0) (hi := 300) rfl
    have hC := hC.comp (n2 := 1) (xI78.2.2.ct (by omega) (by omega) (by omega) (by omega)) (by omega) (by omega) (by omega) (by omega) (by omega)
    exact m_vret hx hb hr hlocks hM hS (Nat.le_of_ble_eq_true rfl) (Nat.le_of_ble_eq_true rfl) ⟨_, _, rfl, hI, hK, ⟨by omega, by omega, by omega, by omega, by omega, hC⟩⟩ dX10_value_35
theorem dX10_term_0 : decode cX10_term 0 = .ok (.aload_n 0, 1) := by decide +kernel
theorem dX10_term_1 : decode cX10_term 1 = .ok (.invokevirtual 325, 3) := by decide +kernel
theorem dX10_term_4 : decode cX10_term 4 = .ok (.aload_n 0, 1) := by decide +kernel
theorem dX10_term_5 : decode cX10_term 5 = .ok (.invokevirtual 287, 3) := by decide +kernel
theorem dX10_term_8 : decode cX10_term 8 = .ok (.aload_n 0, 1) := by decide +kernel
theorem dX10_term_9 : decode cX10_term 9 = .ok (.getfield 264, 3) := by decide +kernel
theorem dX10_term_12 : decode cX10_term 12 = .ok (.ifCond .ne 65, 3) := by decide +kernel
theorem dX10_term_15 : decode cX10_term 15 = .ok (.aload_n 0, 1) := by decide +kernel
theorem dX10_term_16 : decode cX10_term 16 = .ok (.invokevirtual 270, 3) := by decide +kernel
theorem dX10_term_19 : decode cX10_term 19 = .ok (.bipush 42, 2) := by decide +kernel
theorem dX10_term_21 : decode cX10_term 21 = .ok (.if_icmp .eq 12, 3) := by decide +kernel
theorem dX10_term_24 : decode cX10_term 24 = .ok (.aload_n 0, 1) := by decide +kernel
theorem dX10_term_25 : decode cX10_term 25 = .ok (.invokevirtual 270, 3) := by decide +kernel
theorem dX10_term_28 : decode cX10_term 28 = .ok (.bipush 47, 2) := by decide +kernel
theorem dX10_term_30 : decode cX10_term 30 = .ok (.if_icmp .ne 47, 3) := by decide +kernel
theorem dX10_term_33 : decode cX10_term 33 = .ok (.aload_n 0, 1) := by decide +kernel
theorem dX10_term_34 : decode cX10_term 34 = .ok (.invokevirtual 270, 3) := by decide +kernel
theorem dX10_term_37 : decode cX10_term 37 = .ok (.bipush 42, 2) := by decide +kernel
theorem dX10_term_39 : decode cX10_term 39 = .ok (.if_icmp .ne 8, 3) := by decide +kernel
theorem dX10_term_42 : decode cX10_term 42 = .ok (.bipush 13, 2) := by decide +kernel
theorem dX10_term_44 : decode cX10_term 44 = .ok (.goto 5, 3) := by decide +kernel
theorem dX10_term_47 : decode cX10_term 47 = .ok (.bipush 14, 2) := by decide +kernel
theorem dX10_term_49 : decode cX10_term 49 = .ok (.istore_n 1, 1) := by decide +kernel
theorem dX10_term_50 : decode cX10_term 50 = .ok (.aload_n 0, 1) := by decide +kernel
theorem dX10_term_51 : decode cX10_term 51 = .ok (.dup, 1) := by decide +kernel
theorem dX10_term_52 : decode cX10_term 52 = .ok (.getfield 267, 3) := by decide +kernel
theorem dX10_term_55 : decode cX10_term 55 = .ok (.iconst 1, 1) := by decide +kernel
theorem dX10_term_56 : decode cX10_term 56 = .ok (.iadd, 1) := by decide +kernel
theorem dX10_term_57 : decode cX10_term 57 = .ok (.putfield 267, 3) := by decide +kernel
theorem dX10_term_60 : decode cX10_term 60 = .ok (.aload_n 0, 1) := by decide +kernel
theorem dX10_term_61 : decode cX10_term 61 = .ok (.invokevirtual 325, 3) := by decide +kernel
theorem dX10_term_64 : decode cX10_term 64 = .ok (.aload_n 0, 1) := by decide +kernel
theorem dX10_term_65 : decode cX10_term 65 = .ok (.iload_n 1, 1) := by decide +kernel
theorem dX10_term_66 : decode cX10_term 66 = .ok (.iconst 0, 1) := by decide +kernel
theorem dX10_term_67 : decode cX10_term 67 = .ok (.invokevirtual 318, 3) := by decide +kernel
theorem dX10_term_70 : decode cX10_term 70 = .ok (.aload_n 0, 1) := by decide +kernel
theorem dX10_term_71 : decode cX10_term 71 = .ok (.invokevirtual 287, 3) := by decide +kernel
theorem dX10_term_74 : decode cX10_term 74 = .ok (.goto (-66), 3) := by decide +kernel
theorem dX10_term_77 : decode cX10_term 77 = .ok (.return_, 1) := by decide +kernel
theorem ce_X10_term : CeV RX10 yX10_term cX10_term 2 none 0 := ⟨tb_1541, tp_69, tb_11, tb_1542, rfl, by decide, by decide, by decide +kernel⟩
set_option maxHeartbeats 4000000 in
set_option maxRecDepth 20000 in
theorem V_X10_term (l : Launch) (D : va_G) (A : Nat → Prop) (ad : Nat → Nat) (ns : List Nat) (I : MI) (L : ML) (G : MG) (hJ : SGM ns G) (hI : INV I) (hPI : (I 1000 26).toInt = 0 → 0 ≤ (I 1000 31).toInt ∧ (I 1000 31).toInt ≤ 60 ∧ 3 * (I 1000 29).toInt ≤ 6 * (I 1000 31).toInt + (I 1000 25).toInt ∧ (I 1000 25).toInt ≤ 400) : Met l yX10_term (wd yX10_term cX10_term 2 none) ({ frames := 6, cells := 0, slots := 0, locals := 131 }) (va_Pc [.ref (ad (1000))] (PM D A ad ns I L G)) (va_Qv (fun u => ∃ I2 L2, u = (ad, ns, I2, L2, G) ∧ INV I2 ∧ Kp [(1035, 1037)] [(1000, 25), (1000, 26), (1000, 29), (1000, 31)] I I2 ∧ ((I 1000 25).toInt ≤ (I2 1000 25).toInt ∧ ((I2 1000 25).toInt = (I 1000 25).toInt ∨ (I2 1000 25).toInt ≤ 400) ∧ ((I2 1000 26).toInt = 0 → (I 1000 26).toInt = 0) ∧ (I 1000 29).toInt ≤ (I2 1000 29).toInt ∧ ((I2 1000 26).toInt = 0 → (I 1000 31).toInt + 1 ≤ (I2 1000 31).toInt ∧ (I2 1000 31).toInt ≤ 60 ∧ (I2 1000 29).toInt + 1 ≤ (I 1000 29).toInt + 2 * ((I2 1000 31).toInt - (I 1000 31).toInt)) ∧ CT I I2 0 1)) (BM D A) A) 0 0 A := by
  refine m_ofW (by decide) (Nat.le_of_ble_eq_true rfl) ?_
  intro p e s m below meth c ls args hC hE hM hA hS hl
  obtain ⟨hx, hb, hml, hown, hts, hr, hlocks, hin⟩ := hC
  have k0 : (0 : Int32).toInt = 0 := by decide
  have k1 : (1 : Int32).toInt = 1 := by decide
  have k13 : (13 : Int32).toInt = 13 := by decide
  have k14 : (14 : Int32).toInt = 14 := by decide
  have k42 : (42 : Int32).toInt = 42 := by decide
  have k47 : (47 : Int32).toInt = 47 := by decide
  have hC := CT.rf I 0
  have hI0 := hI
  have hK : Kp [(1035, 1037)] [(1000, 25), (1000, 26), (1000, 29), (1000, 31)] I I := Kp.rf
  have hl : lv_has ls 2 [(0, .ref (ad (1000)))] := hl
  refine lv_aload_n hx hb dX10_term_0 rfl (lv_at hl 0 rfl) ?_
  refine m_callv (m_runV (1000) (As := []) (rest := []) hx hb hml hown hts hE hM hS hA ce_X10_value tb_1543 (V_X10_value l D A ad ns I L G hJ hI (by omega)) rfl rfl ⟨Nat.le_of_ble_eq_true rfl, Nat.le_of_ble_eq_true rfl⟩ hJ.1 rfl rfl (by decide) rfl hl.1 rfl (Nat.le_of_ble_eq_true rfl) dX10_term_1 ⟨Nat.le_of_ble_eq_true rfl, Nat.le_of_ble_eq_true rfl⟩) hS (fun u H locs hw hM hS => ?_)
  obtain ⟨I1, L2, rfl, hI, hkI1, xI1⟩ := hw
  have hM : Mem D A ad ns I1 L2 G H := hM
  have hK := hK.trans hkI1 rfl
  have pw3 : (I1 (1000) 24).toInt = (I (1000) 24 : Int32).toInt := congrArg Int32.toInt ((hkI1.get (1000) 24 rfl))
  have pw4 : (I1 (1000) 27).toInt = (I (1000) 27 : Int32).toInt := congrArg Int32.toInt ((hkI1.get (1000) 27 rfl))
  have pw5 : (I1 (1000) 32).toInt = (I (1000) 32 : Int32).toInt := congrArg Int32.toInt ((hkI1.get (1000) 32 rfl))
  have g6 := hI0.get 1000 27 (lo := 0) (hi := 5) rfl
  have g7 := hI0.get 1000 29 (lo := 0) (hi := 300) rfl
  have hC := hC.comp ((xI1.2.2.2.2.2).mono0 (0)) (by omega) (by omega) (by omega) (by omega) (by omega)
  refine lv_aload_n hx hb dX10_term_4 rfl (lv_at hl 0 rfl) ?_
  refine m_callv (m_runV (1000) (As := []) (rest := []) hx hb hml hown hts hE hM hS hA ce_X10_blanks tb_1506 (V_X10_blanks l D A ad ns I1 L2 G hJ hI) rfl rfl ⟨Nat.le_of_ble_eq_true rfl, Nat.le_of_ble_eq_true rfl⟩ hJ.1 rfl rfl (by decide) rfl hl.1 rfl (Nat.le_of_ble_eq_true rfl) dX10_term_5 ⟨Nat.le_of_ble_eq_true rfl, Nat.le_of_ble_eq_true rfl⟩) hS (fun u H locs hw hM hS => ?_)
  obtain ⟨I8, L9, rfl, hI, hkI8, xI8⟩ := hw
  have hM : Mem D A ad ns I8 L9 G H := hM
  have hK := hK.trans hkI8 rfl
  have pw10 : (I8 (1000) 24).toInt = (I (1000) 24 : Int32).toInt := congrArg Int32.toInt (((hkI8.get (1000) 24 rfl)).trans (hkI1.get (1000) 24 rfl))
  have pw11 : (I8 (1000) 26).toInt = (I1 (1000) 26 : Int32).toInt := congrArg Int32.toInt ((hkI8.get (1000) 26 rfl))
  have pw12 : (I8 (1000) 27).toInt = (I (1000) 27 : Int32).toInt := congrArg Int32.toInt (((hkI8.get (1000) 27 rfl)).trans (hkI1.get (1000) 27 rfl))
  have pw13 : (I8 (1000) 29).toInt = (I1 (1000) 29 : Int32).toInt := congrArg Int32.toInt ((hkI8.get (1000) 29 rfl))
  have pw14 : (I8 (1000) 31).toInt = (I1 (1000) 31 : Int32).toInt := congrArg Int32.toInt ((hkI8.get (1000) 31 rfl))
  have pw15 : (I8 (1000) 32).toInt = (I (1000) 32 : Int32).toInt := congrArg Int32.toInt (((hkI8.get (1000) 32 rfl)).trans (hkI1.get (1000) 32 rfl))
  have hC := CT.link (I2 := I8) hC ((hkI8.getA 1035 rfl)) ((hkI8.getA 1036 rfl)) (by omega) (by omega)
  have loop8 : ∀ (n : Nat)  (Ia8 : MI) (La8 : ML) (H : Heap) (locs : List Loc) (ls : Array Slot), INV Ia8 → Kp [(1035, 1037)] [(1000, 25), (1000, 26), (1000, 29), (1000, 31)] I Ia8 → ((I 1000 25).toInt ≤ (Ia8 1000 25).toInt ∧ ((Ia8 1000 25).toInt = (I 1000 25).toInt ∨ (Ia8 1000 25).toInt ≤ 400) ∧ ((Ia8 1000 26).toInt = 0 → (I 1000 26).toInt = 0) ∧ (I 1000 29).toInt ≤ (Ia8 1000 29).toInt ∧ ((Ia8 1000 26).toInt = 0 → (I 1000 31).toInt + 1 ≤ (Ia8 1000 31).toInt ∧ (Ia8 1000 31).toInt ≤ 60 ∧ (Ia8 1000 29).toInt + 1 ≤ (I 1000 29).toInt + 2 * ((Ia8 1000 31).toInt - (I 1000 31).toInt))) → (CT I Ia8 0 1) → (400 - (Ia8 1000 25).toInt).toNat < n → Mem D A ad ns Ia8 La8 G H → va_S A s.heap H locs → lv_has ls 2 [(0, .ref (ad (1000)))] → W p l e ({ frames := 6, cells := 0, slots := 0, locals := 131 } : Room) s m args below meth c H locs 0 0 (MQ below (va_Qv (fun u => ∃ I2 L2, u = (ad, ns, I2, L2, G) ∧ INV I2 ∧ Kp [(1035, 1037)] [(1000, 25), (1000, 26), (1000, 29), (1000, 31)] I I2 ∧ ((I 1000 25).toInt ≤ (I2 1000 25).toInt ∧ ((I2 1000 25).toInt = (I 1000 25).toInt ∨ (I2 1000 25).toInt ≤ 400) ∧ ((I2 1000 26).toInt = 0 → (I 1000 26).toInt = 0) ∧ (I 1000 29).toInt ≤ (I2 1000 29).toInt ∧ ((I2 1000 26).toInt = 0 → (I 1000 31).toInt + 1 ≤ (I2 1000 31).toInt ∧ (I2 1000 31).toInt ≤ 60 ∧ (I2 1000 29).toInt + 1 ≤ (I 1000 29).toInt + 2 * ((I2 1000 31).toInt - (I 1000 31).toInt)) ∧ CT I I2 0 1)) (BM D A) A) args s 0 0 A) (F0 m 8 ls []) := by
    intro n
    induction n with
    | zero =>
      intro  Ia8 La8 H locs ls hI hK hlin hC hmu
      exact absurd hmu (Nat.not_lt_zero _)
    | succ n ih8 =>
      intro  Ia8 La8 H locs ls hI hK hlin hC hmu8 hM hS hl
      refine lv_aload_n hx hb dX10_term_8 rfl (lv_at hl 0 rfl) ?_
      refine m_geti (1000) 26 hx hb hts hown hE oc10 hM hJ.1 rfl (by decide) rfl tb_1203 dX10_term_9 ?_
      refine lv_if_ne (tgt := 77) hx hb dX10_term_12 (by decide) (fun c16 => ?_) (fun c16 => ?_)
      · have hc16 := c16
        have q16 := q_ne hc16
        exact m_vret hx hb hr hlocks hM hS (Nat.le_of_ble_eq_true rfl) (Nat.le_of_ble_eq_true rfl) ⟨_, _, rfl, hI, hK, ⟨by omega, by omega, by omega, by omega, by omega, hC⟩⟩ dX10_term_77
      · have hc16 := c16
        have q16 := q_eq hc16
        refine lv_aload_n hx hb dX10_term_15 rfl (lv_at hl 0 rfl) ?_
        refine m_calli (m_runV (1000) (As := []) (rest := []) hx hb hml hown hts hE hM hS hA ce_X10_sign tb_1510 (V_X10_sign l D A ad ns Ia8 La8 G hJ hI) rfl rfl ⟨Nat.le_of_ble_eq_true rfl, Nat.le_of_ble_eq_true rfl⟩ hJ.1 rfl rfl (by decide) rfl hl.1 rfl (Nat.le_of_ble_eq_true rfl) dX10_term_16 ⟨Nat.le_of_ble_eq_true rfl, Nat.le_of_ble_eq_true rfl⟩) hS (fun r17 u H locs hw hM hS => ?_)
        obtain ⟨rfl, xr17⟩ := hw
        have hM : Mem D A ad ns Ia8 La8 G H := hM
        have g18 := hI.get 1000 24 (lo := 0) (hi := 400) rfl
        have g19 := hI.get 1000 25 (lo := 0) (hi := 100000) rfl
        refine lv_bipush (v := (42)) hx hb dX10_term_19 (by decide) ?_
        refine lv_icmp_eq (tgt := 33) hx hb dX10_term_21 (by decide) (fun c20 => ?_) (fun c20 => ?_)
        · have hc20 := c20
          have q20 := q_eq hc20
          refine lv_aload_n hx hb dX10_term_33 rfl (lv_at hl 0 rfl) ?_
          refine m_calli (m_runV (1000) (As := []) (rest := []) hx hb hml hown hts hE hM hS hA ce_X10_sign tb_1510 (V_X10_sign l D A ad ns Ia8 La8 G hJ hI) rfl rfl ⟨Nat.le_of_ble_eq_true rfl, Nat.le_of_ble_eq_true rfl⟩ hJ.1 rfl rfl (by decide) rfl hl.1 rfl (Nat.le_of_ble_eq_true rfl) dX10_term_34 ⟨Nat.le_of_ble_eq_true rfl, Nat.le_of_ble_eq_true rfl⟩) hS (fun r21 u H locs hw hM hS => ?_)
          obtain ⟨rfl, xr21⟩ := hw
          have hM : Mem D A ad ns Ia8 La8 G H := hM
          have g22 := hI.get 1000 24 (lo := 0) (hi := 400) rfl
          have g23 := hI.get 1000 25 (lo := 0) (hi := 100000) rfl
          refine lv_bipush (v := (42)) hx hb dX10_term_37 (by decide) ?_
          refine lv_icmp_ne (tgt := 47) hx hb dX10_term_39 (by decide) (fun c24 => ?_) (fun c24 => ?_)
          · have hc24 := c24
            have q24 := q_ne hc24
            refine lv_bipush (v := (14)) hx hb dX10_term_47 (by decide) ?_
            refine lv_istore_n (lv' := [(1, .int (14)), (0, .ref (ad (1000)))]) hx hb dX10_term_49 rfl hl (by decide) rfl (fun ls hl => ?_)
            refine lv_aload_n hx hb dX10_term_50 rfl (lv_at hl 1 rfl) ?_
            refine lv_dup hx hb dX10_term_51 rfl ?_
            refine m_geti (1000) 25 hx hb hts hown hE oc10 hM hJ.1 rfl (by decide) rfl tb_1202 dX10_term_52 ?_
            have g25 := hI.get (1000) 25 (lo := 0) (hi := 100000) rfl
            refine lv_iconst (v := (1)) hx hb dX10_term_55 (by decide) ?_
            refine lv_iadd hx hb dX10_term_56 ?_
            refine lv_topi (fun v26 ev26 => ?_)
            have tv26 := a_add ev26 (by omega) (by omega)
            refine m_puti (1000) 25 hx hb hts hown hE oc10 hM hS hJ.1 rfl (by decide) rfl rfl rfl rfl tb_1202 dX10_term_57 (fun H locs I27 eI27 hM hS => ?_)
            subst eI27
            have hI := hI.put (n := 1000) (k := 25) (v := v26) (lo := 0) (hi := 100000) rfl (by first | omega | decide)
            have hK := hK.put (n := 1000) (k := 25) (v := v26) (by first | rfl | simp [inR])
            refine lv_aload_n hx hb dX10_term_60 rfl (lv_at hl 1 rfl) ?_
            have pw28 : ((u2 Ia8 (1000) 25 (v26)) (1000) 24).toInt = (Ia8 (1000) 24 : Int32).toInt := congrArg Int32.toInt ((show (u2 Ia8 (1000) 25 (v26)) (1000) 24 = Ia8 (1000) 24 from by simp [u2_v]))
            have pw29 : ((u2 Ia8 (1000) 25 (v26)) (1000) 25).toInt = (v26 : Int32).toInt := congrArg Int32.toInt ((show (u2 Ia8 (1000) 25 (v26)) (1000) 25 = v26 from by simp [u2_v]))
            have pw30 : ((u2 Ia8 (1000) 25 (v26)) (1000) 26).toInt = (Ia8 (1000) 26 : Int32).toInt := congrArg Int32.toInt ((show (u2 Ia8 (1000) 25 (v26)) (1000) 26 = Ia8 (1000) 26 from by simp [u2_v]))
            have pw31 : ((u2 Ia8 (1000) 25 (v26)) (1000) 27).toInt = (Ia8 (1000) 27 : Int32).toInt := congrArg Int32.toInt ((show (u2 Ia8 (1000) 25 (v26)) (1000) 27 = Ia8 (1000) 27 from by simp [u2_v]))
            have pw32 : ((u2 Ia8 (1000) 25 (v26)) (1000) 29).toInt = (Ia8 (1000) 29 : Int32).toInt := congrArg Int32.toInt ((show (u2 Ia8 (1000) 25 (v26)) (1000) 29 = Ia8 (1000) 29 from by simp [u2_v]))
            have pw33 : ((u2 Ia8 (1000) 25 (v26)) (1000) 31).toInt = (Ia8 (1000) 31 : Int32).toInt := congrArg Int32.toInt ((show (u2 Ia8 (1000) 25 (v26)) (1000) 31 = Ia8 (1000) 31 from by simp [u2_v]))
            have pw34 : ((u2 Ia8 (1000) 25 (v26)) (1000) 32).toInt = (Ia8 (1000) 32 : Int32).toInt := congrArg Int32.toInt ((show (u2 Ia8 (1000) 25 (v26)) (1000) 32 = Ia8 (1000) 32 from by simp [u2_v]))
            refine m_callv (m_runV (1000) (As := []) (rest := []) hx hb hml hown hts hE hM hS hA ce_X10_value tb_1543 (V_X10_value l D A ad ns (u2 Ia8 (1000) 25 (v26)) La8 G hJ hI (by omega)) rfl rfl ⟨Nat.le_of_ble_eq_true rfl, Nat.le_of_ble_eq_true rfl⟩ hJ.1 rfl rfl (by decide) rfl hl.1 rfl (Nat.le_of_ble_eq_true rfl) dX10_term_61 ⟨Nat.le_of_ble_eq_true rfl, Nat.le_of_ble_eq_true rfl⟩) hS (fun u H locs hw hM hS => ?_)
            obtain ⟨I35, L36, rfl, hI, hkI35, xI35⟩ := hw
            have hM : Mem D A ad ns I35 L36 G H := hM
            have hK := hK.trans hkI35 rfl
            have hC := CT.link (I2 := (u2 Ia8 (1000) 25 (v26))) hC ((show (u2 Ia8 (1000) 25 (v26)) 1035 = Ia8 1035 from by funext zz; simp [u2_v])) ((show (u2 Ia8 (1000) 25 (v26)) 1036 = Ia8 1036 from by funext zz; simp [u2_v])) (by omega) (by omega)
            have pw37 : (I35 (1000) 24).toInt = (Ia8 (1000) 24 : Int32).toInt := congrArg Int32.toInt (((hkI35.get (1000) 24 rfl)).trans (show (u2 Ia8 (1000) 25 (v26)) (1000) 24 = Ia8 (1000) 24 from by simp [u2_v]))
            have pw38 : (I35 (1000) 27).toInt = (Ia8 (1000) 27 : Int32).toInt := congrArg Int32.toInt (((hkI35.get (1000) 27 rfl)).trans (show (u2 Ia8 (1000) 25 (v26)) (1000) 27 = Ia8 (1000) 27 from by simp [u2_v]))
            have pw39 : (I35 (1000) 32).toInt = (Ia8 (1000) 32 : Int32).toInt := congrArg Int32.toInt (((hkI35.get (1000) 32 rfl)).trans (show (u2 Ia8 (1000) 25 (v26)) (1000) 32 = Ia8 (1000) 32 from by simp [u2_v]))
            have g40 := hI0.get 1000 27 (lo := 0) (hi := 5) rfl
            have g41 := hI0.get 1000 29 (lo := 0) (hi := 300) rfl
            have hC := hC.comp ((xI35.2.2.2.2.2).mono0 (1)) (by omega) (by omega) (by omega) (by omega) (by omega)
            refine lv_aload_n hx hb dX10_term_64 rfl (lv_at hl 1 rfl) ?_
            refine lv_iload_n hx hb dX10_term_65 rfl (lv_at hl 0 rfl) ?_
            refine lv_iconst (v := (0)) hx hb dX10_term_66 (by decide) ?_
            refine m_callv (m_runV (1000) (As := [.int (14), .int (0)]) (rest := []) hx hb hml hown hts hE hM hS hA ce_X10_entry tb_1552 (V_X10_entry l D A ad ns I35 L36 G (14) (0) hJ hI (by omega)) rfl rfl ⟨Nat.le_of_ble_eq_true rfl, Nat.le_of_ble_eq_true rfl⟩ hJ.1 rfl rfl (by decide) rfl hl.1 rfl (Nat.le_of_ble_eq_true rfl) dX10_term_67 ⟨Nat.le_of_ble_eq_true rfl, Nat.le_of_ble_eq_true rfl⟩) hS (fun u H locs hw hM hS => ?_)
            obtain ⟨I42, L43, rfl, hI, hkI42, xI42⟩ := hw
            have hM : Mem D A ad ns I42 L43 G H := hM
            have hK := hK.trans hkI42 rfl
            have pw44 : (I42 (1000) 24).toInt = (Ia8 (1000) 24 : Int32).toInt := congrArg Int32.toInt ((((hkI42.get (1000) 24 rfl)).trans (hkI35.get (1000) 24 rfl)).trans (show (u2 Ia8 (1000) 25 (v26)) (1000) 24 = Ia8 (1000) 24 from by simp [u2_v]))
            have pw45 : (I42 (1000) 25).toInt = (I35 (1000) 25 : Int32).toInt := congrArg Int32.toInt ((hkI42.get (1000) 25 rfl))
            have pw46 : (I42 (1000) 26).toInt = (I35 (1000) 26 : Int32).toInt := congrArg Int32.toInt ((hkI42.get (1000) 26 rfl))
            have pw47 : (I42 (1000) 27).toInt = (Ia8 (1000) 27 : Int32).toInt := congrArg Int32.toInt ((((hkI42.get (1000) 27 rfl)).trans (hkI35.get (1000) 27 rfl)).trans (show (u2 Ia8 (1000) 25 (v26)) (1000) 27 = Ia8 (1000) 27 from by simp [u2_v]))
            have pw48 : (I42 (1000) 31).toInt = (I35 (1000) 31 : Int32).toInt := congrArg Int32.toInt ((hkI42.get (1000) 31 rfl))
            have pw49 : (I42 (1000) 32).toInt = (Ia8 (1000) 32 : Int32).toInt := congrArg Int32.toInt ((((hkI42.get (1000) 32 rfl)).trans (hkI35.get (1000) 32 rfl)).trans (show (u2 Ia8 (1000) 25 (v26)) (1000) 32 = Ia8 (1000) 32 from by simp [u2_v]))
            have g50 := hI0.get 1000 27 (lo := 0) (hi := 5) rfl
            have g51 := hI0.get 1000 29 (lo := 0) (hi := 300) rfl
            have hC := hC.comp (n2 := 1) (xI42.2.2.ct (by omega) (by omega) (by omega) (by omega)) (by omega) (by omega) (by omega) (by omega) (by omega)
            refine lv_aload_n hx hb dX10_term_70 rfl (lv_at hl 1 rfl) ?_
            refine m_callv (m_runV (1000) (As := []) (rest := []) hx hb hml hown hts hE hM hS hA ce_X10_blanks tb_1506 (V_X10_blanks l D A ad ns I42 L43 G hJ hI) rfl rfl ⟨Nat.le_of_ble_eq_true rfl, Nat.le_of_ble_eq_true rfl⟩ hJ.1 rfl rfl (by decide) rfl hl.1 rfl (Nat.le_of_ble_eq_true rfl) dX10_term_71 ⟨Nat.le_of_ble_eq_true rfl, Nat.le_of_ble_eq_true rfl⟩) hS (fun u H locs hw hM hS => ?_)
            obtain ⟨I52, L53, rfl, hI, hkI52, xI52⟩ := hw
            have hM : Mem D A ad ns I52 L53 G H := hM
            have hK := hK.trans hkI52 rfl
            have pw54 : (I52 (1000) 24).toInt = (Ia8 (1000) 24 : Int32).toInt := congrArg Int32.toInt (((((hkI52.get (1000) 24 rfl)).trans (hkI42.get (1000) 24 rfl)).trans (hkI35.get (1000) 24 rfl)).trans (show (u2 Ia8 (1000) 25 (v26)) (1000) 24 = Ia8 (1000) 24 from by simp [u2_v]))
            have pw55 : (I52 (1000) 26).toInt = (I35 (1000) 26 : Int32).toInt := congrArg Int32.toInt (((hkI52.get (1000) 26 rfl)).trans (hkI42.get (1000) 26 rfl))
            have pw56 : (I52 (1000) 27).toInt = (Ia8 (1000) 27 : Int32).toInt := congrArg Int32.toInt (((((hkI52.get (1000) 27 rfl)).trans (hkI42.get (1000) 27 rfl)).trans (hkI35.get (1000) 27 rfl)).trans (show (u2 Ia8 (1000) 25 (v26)) (1000) 27 = Ia8 (1000) 27 from by simp [u2_v]))
            have pw57 : (I52 (1000) 29).toInt = (I42 (1000) 29 : Int32).toInt := congrArg Int32.toInt ((hkI52.get (1000) 29 rfl))
            have pw58 : (I52 (1000) 31).toInt = (I35 (1000) 31 : Int32).toInt := congrArg Int32.toInt (((hkI52.get (1000) 31 rfl)).trans (hkI42.get (1000) 31 rfl))
            have pw59 : (I52 (1000) 32).toInt = (Ia8 (1000) 32 : Int32).toInt := congrArg Int32.toInt (((((hkI52.get (1000) 32 rfl)).trans (hkI42.get (1000) 32 rfl)).trans (hkI35.get (1000) 32 rfl)).trans (show (u2 Ia8 (1000) 25 (v26)) (1000) 32 = Ia8 (1000) 32 from by simp [u2_v]))
            refine lv_goto (tgt := 8) hx hb dX10_term_74 (by decide) ?_
            have hC := CT.link (I2 := I52) hC ((hkI52.getA 1035 rfl)) ((hkI52.getA 1036 rfl)) (by omega) (by omega)
            exact ih8  I52 L53 _ _ ls hI hK (by omega) (by simpa using hC) (by omega) hM hS (lv_sub hl [1] rfl)
          · have hc24 := c24
            have q24 := q_eq hc24
            refine lv_bipush (v := (13)) hx hb dX10_term_42 (by decide) ?_
            refine lv_goto (tgt := 49) hx hb dX10_term_44 (by decide) ?_
            refine lv_istore_n (lv' := [(1, .int (13)), (0, .ref (ad (1000)))]) hx hb dX10_term_49 rfl hl (by decide) rfl (fun ls hl => ?_)
            refine lv_aload_n hx hb dX10_term_50 rfl (lv_at hl 1 rfl) ?_
            refine lv_dup hx hb dX10_term_51 rfl ?_
            refine m_geti (1000) 25 hx hb hts hown hE oc10 hM hJ.1 rfl (by decide) rfl tb_1202 dX10_term_52 ?_
            have g60 := hI.get (1000) 25 (lo := 0) (hi := 100000) rfl
            refine lv_iconst (v := (1)) hx hb dX10_term_55 (by decide) ?_
            refine lv_iadd hx hb dX10_term_56 ?_
            refine lv_topi (fun v61 ev61 => ?_)
            have tv61 := a_add ev61 (by omega) (by omega)
            refine m_puti (1000) 25 hx hb hts hown hE oc10 hM hS hJ.1 rfl (by decide) rfl rfl rfl rfl tb_1202 dX10_term_57 (fun H locs I62 eI62 hM hS => ?_)
            subst eI62
            have hI := hI.put (n := 1000) (k := 25) (v := v61) (lo := 0) (hi := 100000) rfl (by first | omega | decide)
            have hK := hK.put (n := 1000) (k := 25) (v := v61) (by first | rfl | simp [inR])
            refine lv_aload_n hx hb dX10_term_60 rfl (lv_at hl 1 rfl) ?_
            have pw63 : ((u2 Ia8 (1000) 25 (v61)) (1000) 24).toInt = (Ia8 (1000) 24 : Int32).toInt := congrArg Int32.toInt ((show (u2 Ia8 (1000) 25 (v61)) (1000) 24 = Ia8 (1000) 24 from by simp [u2_v]))
            have pw64 : ((u2 Ia8 (1000) 25 (v61)) (1000) 25).toInt = (v61 : Int32).toInt := congrArg Int32.toInt ((show (u2 Ia8 (1000) 25 (v61)) (1000) 25 = v61 from by simp [u2_v]))
            have pw65 : ((u2 Ia8 (1000) 25 (v61)) (1000) 26).toInt = (Ia8 (1000) 26 : Int32).toInt := congrArg Int32.toInt ((show (u2 Ia8 (1000) 25 (v61)) (1000) 26 = Ia8 (1000) 26 from by simp [u2_v]))
            have pw66 : ((u2 Ia8 (1000) 25 (v61)) (1000) 27).toInt = (Ia8 (1000) 27 : Int32).toInt := congrArg Int32.toInt ((show (u2 Ia8 (1000) 25 (v61)) (1000) 27 = Ia8 (1000) 27 from by simp [u2_v]))
            have pw67 : ((u2 Ia8 (1000) 25 (v61)) (1000) 29).toInt = (Ia8 (1000) 29 : Int32).toInt := congrArg Int32.toInt ((show (u2 Ia8 (1000) 25 (v61)) (1000) 29 = Ia8 (1000) 29 from by simp [u2_v]))
            have pw68 : ((u2 Ia8 (1000) 25 (v61)) (1000) 31).toInt = (Ia8 (1000) 31 : Int32).toInt := congrArg Int32.toInt ((show (u2 Ia8 (1000) 25 (v61)) (1000) 31 = Ia8 (1000) 31 from by simp [u2_v]))
            have pw69 : ((u2 Ia8 (1000) 25 (v61)) (1000) 32).toInt = (Ia8 (1000) 32 : Int32).toInt := congrArg Int32.toInt ((show (u2 Ia8 (1000) 25 (v61)) (1000) 32 = Ia8 (1000) 32 from by simp [u2_v]))
            refine m_callv (m_runV (1000) (As := []) (rest := []) hx hb hml hown hts hE hM hS hA ce_X10_value tb_1543 (V_X10_value l D A ad ns (u2 Ia8 (1000) 25 (v61)) La8 G hJ hI (by omega)) rfl rfl ⟨Nat.le_of_ble_eq_true rfl, Nat.le_of_ble_eq_true rfl⟩ hJ.1 rfl rfl (by decide) rfl hl.1 rfl (Nat.le_of_ble_eq_true rfl) dX10_term_61 ⟨Nat.le_of_ble_eq_true rfl, Nat.le_of_ble_eq_true rfl⟩) hS (fun u H locs hw hM hS => ?_)
            obtain ⟨I70, L71, rfl, hI, hkI70, xI70⟩ := hw
            have hM : Mem D A ad ns I70 L71 G H := hM
            have hK := hK.trans hkI70 rfl
            have hC := CT.link (I2 := (u2 Ia8 (1000) 25 (v61))) hC ((show (u2 Ia8 (1000) 25 (v61)) 1035 = Ia8 1035 from by funext zz; simp [u2_v])) ((show (u2 Ia8 (1000) 25 (v61)) 1036 = Ia8 1036 from by funext zz; simp [u2_v])) (by omega) (by omega)
            have pw72 : (I70 (1000) 24).toInt = (Ia8 (1000) 24 : Int32).toInt := congrArg Int32.toInt (((hkI70.get (1000) 24 rfl)).trans (show (u2 Ia8 (1000) 25 (v61)) (1000) 24 = Ia8 (1000) 24 from by simp [u2_v]))
            have pw73 : (I70 (1000) 27).toInt = (Ia8 (1000) 27 : Int32).toInt := congrArg Int32.toInt (((hkI70.get (1000) 27 rfl)).trans (show (u2 Ia8 (1000) 25 (v61)) (1000) 27 = Ia8 (1000) 27 from by simp [u2_v]))
            have pw74 : (I70 (1000) 32).toInt = (Ia8 (1000) 32 : Int32).toInt := congrArg Int32.toInt (((hkI70.get (1000) 32 rfl)).trans (show (u2 Ia8 (1000) 25 (v61)) (1000) 32 = Ia8 (1000) 32 from by simp [u2_v]))
            have g75 := hI0.get 1000 27 (lo := 0) (hi := 5) rfl
            have g76 := hI0.get 1000 29 (lo := 0) (hi := 300) rfl
            have hC := hC.comp ((xI70.2.2.2.2.2).mono0 (1)) (by omega) (by omega) (by omega) (by omega) (by omega)
            refine lv_aload_n hx hb dX10_term_64 rfl (lv_at hl 1 rfl) ?_
            refine lv_iload_n hx hb dX10_term_65 rfl (lv_at hl 0 rfl) ?_
            refine lv_iconst (v := (0)) hx hb dX10_term_66 (by decide) ?_
            refine m_callv (m_runV (1000) (As := [.int (13), .int (0)]) (rest := []) hx hb hml hown hts hE hM hS hA ce_X10_entry tb_1552 (V_X10_entry l D A ad ns I70 L71 G (13) (0) hJ hI (by omega)) rfl rfl ⟨Nat.le_of_ble_eq_true rfl, Nat.le_of_ble_eq_true rfl⟩ hJ.1 rfl rfl (by decide) rfl hl.1 rfl (Nat.le_of_ble_eq_true rfl) dX10_term_67 ⟨Nat.le_of_ble_eq_true rfl, Nat.le_of_ble_eq_true rfl⟩) hS (fun u H locs hw hM hS => ?_)
            obtain ⟨I77, L78, rfl, hI, hkI77, xI77⟩ := hw
            have hM : Mem D A ad ns I77 L78 G H := hM
            have hK := hK.trans hkI77 rfl
            have pw79 : (I77 (1000) 24).toInt = (Ia8 (1000) 24 : Int32).toInt := congrArg Int32.toInt ((((hkI77.get (1000) 24 rfl)).trans (hkI70.get (1000) 24 rfl)).trans (show (u2 Ia8 (1000) 25 (v61)) (1000) 24 = Ia8 (1000) 24 from by simp [u2_v]))
            have pw80 : (I77 (1000) 25).toInt = (I70 (1000) 25 : Int32).toInt := congrArg Int32.toInt ((hkI77.get (1000) 25 rfl))
            have pw81 : (I77 (1000) 26).toInt = (I70 (1000) 26 : Int32).toInt := congrArg Int32.toInt ((hkI77.get (1000) 26 rfl))
            have pw82 : (I77 (1000) 27).toInt = (Ia8 (1000) 27 : Int32).toInt := congrArg Int32.toInt ((((hkI77.get (1000) 27 rfl)).trans (hkI70.get (1000) 27 rfl)).trans (show (u2 Ia8 (1000) 25 (v61)) (1000) 27 = Ia8 (1000) 27 from by simp [u2_v]))
            have pw83 : (I77 (1000) 31).toInt = (I70 (1000) 31 : Int32).toInt := congrArg Int32.toInt ((hkI77.get (1000) 31 rfl))
            have pw84 : (I77 (1000) 32).toInt = (Ia8 (1000) 32 : Int32).toInt := congrArg Int32.toInt ((((hkI77.get (1000) 32 rfl)).trans (hkI70.get (1000) 32 rfl)).trans (show (u2 Ia8 (1000) 25 (v61)) (1000) 32 = Ia8 (1000) 32 from by simp [u2_v]))
            have g85 := hI0.get 1000 27 (lo := 0) (hi := 5) rfl
            have g86 := hI0.get 1000 29 (lo := 0) (hi := 300) rfl
            have hC := hC.comp (n2 := 1) (xI77.2.2.ct (by omega) (by omega) (by omega) (by omega)) (by omega) (by omega) (by omega) (by omega) (by omega)
            refine lv_aload_n hx hb dX10_term_70 rfl (lv_at hl 1 rfl) ?_
            refine m_callv (m_runV (1000) (As := []) (rest := []) hx hb hml hown hts hE hM hS hA ce_X10_blanks tb_1506 (V_X10_blanks l D A ad ns I77 L78 G hJ hI) rfl rfl ⟨Nat.le_of_ble_eq_true rfl, Nat.le_of_ble_eq_true rfl⟩ hJ.1 rfl rfl (by decide) rfl hl.1 rfl (Nat.le_of_ble_eq_true rfl) dX10_term_71 ⟨Nat.le_of_ble_eq_true rfl, Nat.le_of_ble_eq_true rfl⟩) hS (fun u H locs hw hM hS => ?_)
            obtain ⟨I87, L88, rfl, hI, hkI87, xI87⟩ := hw
            have hM : Mem D A ad ns I87 L88 G H := hM
            have hK := hK.trans hkI87 rfl
            have pw89 : (I87 (1000) 24).toInt = (Ia8 (1000) 24 : Int32).toInt := congrArg Int32.toInt (((((hkI87.get (1000) 24 rfl)).trans (hkI77.get (1000) 24 rfl)).trans (hkI70.get (1000) 24 rfl)).trans (show (u2 Ia8 (1000) 25 (v61)) (1000) 24 = Ia8 (1000) 24 from by simp [u2_v]))
            have pw90 : (I87 (1000) 26).toInt = (I70 (1000) 26 : Int32).toInt := congrArg Int32.toInt (((hkI87.get (1000) 26 rfl)).trans (hkI77.get (1000) 26 rfl))
            have pw91 : (I87 (1000) 27).toInt = (Ia8 (1000) 27 : Int32).toInt := congrArg Int32.toInt (((((hkI87.get (1000) 27 rfl)).trans (hkI77.get (1000) 27 rfl)).trans (hkI70.get (1000) 27 rfl)).trans (show (u2 Ia8 (1000) 25 (v61)) (1000) 27 = Ia8 (1000) 27 from by simp [u2_v]))
            have pw92 : (I87 (1000) 29).toInt = (I77 (1000) 29 : Int32).toInt := congrArg Int32.toInt ((hkI87.get (1000) 29 rfl))
            have pw93 : (I87 (1000) 31).toInt = (I70 (1000) 31 : Int32).toInt := congrArg Int32.toInt (((hkI87.get (1000) 31 rfl)).trans (hkI77.get (1000) 31 rfl))
            have pw94 : (I87 (1000) 32).toInt = (Ia8 (1000) 32 : Int32).toInt := congrArg Int32.toInt (((((hkI87.get (1000) 32 rfl)).trans (hkI77.get (1000) 32 rfl)).trans (hkI70.get (1000) 32 rfl)).trans (show (u2 Ia8 (1000) 25 (v61)) (1000) 32 = Ia8 (1000) 32 from by simp [u2_v]))
            refine lv_goto (tgt := 8) hx hb dX10_term_74 (by decide) ?_
            have hC := CT.link (I2 := I87) hC ((hkI87.getA 1035 rfl)) ((hkI87.getA 1036 rfl)) (by omega) (by omega)
            exact ih8  I87 L88 _ _ ls hI hK (by omega) (by simpa using hC) (by omega) hM hS (lv_sub hl [1] rfl)
        · have hc20 := c20
          have q20 := q_ne hc20
          refine lv_aload_n hx hb dX10_term_24 rfl (lv_at hl 0 rfl) ?_
          refine m_calli (m_runV (1000) (As := []) (rest := []) hx hb hml hown hts hE hM hS hA ce_X10_sign tb_1510 (V_X10_sign l D A ad ns Ia8 La8 G hJ hI) rfl rfl ⟨Nat.le_of_ble_eq_true rfl, Nat.le_of_ble_eq_true rfl⟩ hJ.1 rfl rfl (by decide) rfl hl.1 rfl (Nat.le_of_ble_eq_true rfl) dX10_term_25 ⟨Nat.le_of_ble_eq_true rfl, Nat.le_of_ble_eq_true rfl⟩) hS (fun r95 u H locs hw hM hS => ?_)
          obtain ⟨rfl, xr95⟩ := hw
          have hM : Mem D A ad ns Ia8 La8 G H := hM
          have g96 := hI.get 1000 24 (lo := 0) (hi := 400) rfl
          have g97 := hI.get 1000 25 (lo := 0) (hi := 100000) rfl
          refine lv_bipush (v := (47)) hx hb dX10_term_28 (by decide) ?_
          refine lv_icmp_ne (tgt := 77) hx hb dX10_term_30 (by decide) (fun c98 => ?_) (fun c98 => ?_)
          · have hc98 := c98
            have q98 := q_ne hc98
            exact m_vret hx hb hr hlocks hM hS (Nat.le_of_ble_eq_true rfl) (Nat.le_of_ble_eq_true rfl) ⟨_, _, rfl, hI, hK, ⟨by omega, by omega, by omega, by omega, by omega, hC⟩⟩ dX10_term_77
          · have hc98 := c98
            have q98 := q_eq hc98
            refine lv_aload_n hx hb dX10_term_33 rfl (lv_at hl 0 rfl) ?_
            refine m_calli (m_runV (1000) (As := []) (rest := []) hx hb hml hown hts hE hM hS hA ce_X10_sign tb_1510 (V_X10_sign l D A ad ns Ia8 La8 G hJ hI) rfl rfl ⟨Nat.le_of_ble_eq_true rfl, Nat.le_of_ble_eq_true rfl⟩ hJ.1 rfl rfl (by decide) rfl hl.1 rfl (Nat.le_of_ble_eq_true rfl) dX10_term_34 ⟨Nat.le_of_ble_eq_true rfl, Nat.le_of_ble_eq_true rfl⟩) hS (fun r99 u H locs hw hM hS => ?_)
            obtain ⟨rfl, xr99⟩ := hw
            have hM : Mem D A ad ns Ia8 La8 G H := hM
            have g100 := hI.get 1000 24 (lo := 0) (hi := 400) rfl
            have g101 := hI.get 1000 25 (lo := 0) (hi := 100000) rfl
            refine lv_bipush (v := (42)) hx hb dX10_term_37 (by decide) ?_
            refine lv_icmp_ne (tgt := 47) hx hb dX10_term_39 (by decide) (fun c102 => ?_) (fun c102 => ?_)
            · have hc102 := c102
              have q102 := q_ne hc102
              refine lv_bipush (v := (14)) hx hb dX10_term_47 (by decide) ?_
              refine lv_istore_n (lv' := [(1, .int (14)), (0, .ref (ad (1000)))]) hx hb dX10_term_49 rfl hl (by decide) rfl (fun ls hl => ?_)
              refine lv_aload_n hx hb dX10_term_50 rfl (lv_at hl 1 rfl) ?_
              refine lv_dup hx hb dX10_term_51 rfl ?_
              refine m_geti (1000) 25 hx hb hts hown hE oc10 hM hJ.1 rfl (by decide) rfl tb_1202 dX10_term_52 ?_
              have g103 := hI.get (1000) 25 (lo := 0) (hi := 100000) rfl
              refine lv_iconst (v := (1)) hx hb dX10_term_55 (by decide) ?_
              refine lv_iadd hx hb dX10_term_56 ?_
              refine lv_topi (fun v104 ev104 => ?_)
              have tv104 := a_add ev104 (by omega) (by omega)
              refine m_puti (1000) 25 hx hb hts hown hE oc10 hM hS hJ.1 rfl (by decide) rfl rfl rfl rfl tb_1202 dX10_term_57 (fun H locs I105 eI105 hM hS => ?_)
              subst eI105
              have hI := hI.put (n := 1000) (k := 25) (v := v104) (lo := 0) (hi := 100000) rfl (by first | omega | decide)
              have hK := hK.put (n := 1000) (k := 25) (v := v104) (by first | rfl | simp [inR])
              refine lv_aload_n hx hb dX10_term_60 rfl (lv_at hl 1 rfl) ?_
              have pw106 : ((u2 Ia8 (1000) 25 (v104)) (1000) 24).toInt = (Ia8 (1000) 24 : Int32).toInt := congrArg Int32.toInt ((show (u2 Ia8 (1000) 25 (v104)) (1000) 24 = Ia8 (1000) 24 from by simp [u2_v]))
              have pw107 : ((u2 Ia8 (1000) 25 (v104)) (1000) 25).toInt = (v104 : Int32).toInt := congrArg Int32.toInt ((show (u2 Ia8 (1000) 25 (v104)) (1000) 25 = v104 from by simp [u2_v]))
              have pw108 : ((u2 Ia8 (1000) 25 (v104)) (1000) 26).toInt = (Ia8 (1000) 26 : Int32).toInt := congrArg Int32.toInt ((show (u2 Ia8 (1000) 25 (v104)) (1000) 26 = Ia8 (1000) 26 from by simp [u2_v]))
              have pw109 : ((u2 Ia8 (1000) 25 (v104)) (1000) 27).toInt = (Ia8 (1000) 27 : Int32).toInt := congrArg Int32.toInt ((show (u2 Ia8 (1000) 25 (v104)) (1000) 27 = Ia8 (1000) 27 from by simp [u2_v]))
              have pw110 : ((u2 Ia8 (1000) 25 (v104)) (1000) 29).toInt = (Ia8 (1000) 29 : Int32).toInt := congrArg Int32.toInt ((show (u2 Ia8 (1000) 25 (v104)) (1000) 29 = Ia8 (1000) 29 from by simp [u2_v]))
              have pw111 : ((u2 Ia8 (1000) 25 (v104)) (1000) 31).toInt = (Ia8 (1000) 31 : Int32).toInt := congrArg Int32.toInt ((show (u2 Ia8 (1000) 25 (v104)) (1000) 31 = Ia8 (1000) 31 from by simp [u2_v]))
              have pw112 : ((u2 Ia8 (1000) 25 (v104)) (1000) 32).toInt = (Ia8 (1000) 32 : Int32).toInt := congrArg Int32.toInt ((show (u2 Ia8 (1000) 25 (v104)) (1000) 32 = Ia8 (1000) 32 from by simp [u2_v]))
              refine m_callv (m_runV (1000) (As := []) (rest := []) hx hb hml hown hts hE hM hS hA ce_X10_value tb_1543 (V_X10_value l D A ad ns (u2 Ia8 (1000) 25 (v104)) La8 G hJ hI (by omega)) rfl rfl ⟨Nat.le_of_ble_eq_true rfl, Nat.le_of_ble_eq_true rfl⟩ hJ.1 rfl rfl (by decide) rfl hl.1 rfl (Nat.le_of_ble_eq_true rfl) dX10_term_61 ⟨Nat.le_of_ble_eq_true rfl, Nat.le_of_ble_eq_true rfl⟩) hS (fun u H locs hw hM hS => ?_)
              obtain ⟨I113, L114, rfl, hI, hkI113, xI113⟩ := hw
              have hM : Mem D A ad ns I113 L114 G H := hM
              have hK := hK.trans hkI113 rfl
              have hC := CT.link (I2 := (u2 Ia8 (1000) 25 (v104))) hC ((show (u2 Ia8 (1000) 25 (v104)) 1035 = Ia8 1035 from by funext zz; simp [u2_v])) ((show (u2 Ia8 (1000) 25 (v104)) 1036 = Ia8 1036 from by funext zz; simp [u2_v])) (by omega) (by omega)
              have pw115 : (I113 (1000) 24).toInt = (Ia8 (1000) 24 : Int32).toInt := congrArg Int32.toInt (((hkI113.get (1000) 24 rfl)).trans (show (u2 Ia8 (1000) 25 (v104)) (1000) 24 = Ia8 (1000) 24 from by simp [u2_v]))
              have pw116 : (I113 (1000) 27).toInt = (Ia8 (1000) 27 : Int32).toInt := congrArg Int32.toInt (((hkI113.get (1000) 27 rfl)).trans (show (u2 Ia8 (1000) 25 (v104)) (1000) 27 = Ia8 (1000) 27 from by simp [u2_v]))
              have pw117 : (I113 (1000) 32).toInt = (Ia8 (1000) 32 : Int32).toInt := congrArg Int32.toInt (((hkI113.get (1000) 32 rfl)).trans (show (u2 Ia8 (1000) 25 (v104)) (1000) 32 = Ia8 (1000) 32 from by simp [u2_v]))
              have g118 := hI0.get 1000 27 (lo := 0) (hi := 5) rfl
              have g119 := hI0.get 1000 29 (lo := 0) (hi := 300) rfl
              have hC := hC.comp ((xI113.2.2.2.2.2).mono0 (1)) (by omega) (by omega) (by omega) (by omega) (by omega)
              refine lv_aload_n hx hb dX10_term_64 rfl (lv_at hl 1 rfl) ?_
              refine lv_iload_n hx hb dX10_term_65 rfl (lv_at hl 0 rfl) ?_
              refine lv_iconst (v := (0)) hx hb dX10_term_66 (by decide) ?_
              refine m_callv (m_runV (1000) (As := [.int (14), .int (0)]) (rest := []) hx hb hml hown hts hE hM hS hA ce_X10_entry tb_1552 (V_X10_entry l D A ad ns I113 L114 G (14) (0) hJ hI (by omega)) rfl rfl ⟨Nat.le_of_ble_eq_true rfl, Nat.le_of_ble_eq_true rfl⟩ hJ.1 rfl rfl (by decide) rfl hl.1 rfl (Nat.le_of_ble_eq_true rfl) dX10_term_67 ⟨Nat.le_of_ble_eq_true rfl, Nat.le_of_ble_eq_true rfl⟩) hS (fun u H locs hw hM hS => ?_)
              obtain ⟨I120, L121, rfl, hI, hkI120, xI120⟩ := hw
              have hM : Mem D A ad ns I120 L121 G H := hM
              have hK := hK.trans hkI120 rfl
              have pw122 : (I120 (1000) 24).toInt = (Ia8 (1000) 24 : Int32).toInt := congrArg Int32.toInt ((((hkI120.get (1000) 24 rfl)).trans (hkI113.get (1000) 24 rfl)).trans (show (u2 Ia8 (1000) 25 (v104)) (1000) 24 = Ia8 (1000) 24 from by simp [u2_v]))
              have pw123 : (I120 (1000) 25).toInt = (I113 (1000) 25 : Int32).toInt := congrArg Int32.toInt ((hkI120.get (1000) 25 rfl))
              have pw124 : (I120 (1000) 26).toInt = (I113 (1000) 26 : Int32).toInt := congrArg Int32.toInt ((hkI120.get (1000) 26 rfl))
              have pw125 : (I120 (1000) 27).toInt = (Ia8 (1000) 27 : Int32).toInt := congrArg Int32.toInt ((((hkI120.get (1000) 27 rfl)).trans (hkI113.get (1000) 27 rfl)).trans (show (u2 Ia8 (1000) 25 (v104)) (1000) 27 = Ia8 (1000) 27 from by simp [u2_v]))
              have pw126 : (I120 (1000) 31).toInt = (I113 (1000) 31 : Int32).toInt := congrArg Int32.toInt ((hkI120.get (1000) 31 rfl))
              have pw127 : (I120 (1000) 32).toInt = (Ia8 (1000) 32 : Int32).toInt := congrArg Int32.toInt ((((hkI120.get (1000) 32 rfl)).trans (hkI113.get (1000) 32 rfl)).trans (show (u2 Ia8 (1000) 25 (v104)) (1000) 32 = Ia8 (1000) 32 from by simp [u2_v]))
              have g128 := hI0.get 1000 27 (lo := 0) (hi := 5) rfl
              have g129 := hI0.get 1000 29 (lo := 0) (hi := 300) rfl
              have hC := hC.comp (n2 := 1) (xI120.2.2.ct (by omega) (by omega) (by omega) (by omega)) (by omega) (by omega) (by omega) (by omega) (by omega)
              refine lv_aload_n hx hb dX10_term_70 rfl (lv_at hl 1 rfl) ?_
              refine m_callv (m_runV (1000) (As := []) (rest := []) hx hb hml hown hts hE hM hS hA ce_X10_blanks tb_1506 (V_X10_blanks l D A ad ns I120 L121 G hJ hI) rfl rfl ⟨Nat.le_of_ble_eq_true rfl, Nat.le_of_ble_eq_true rfl⟩ hJ.1 rfl rfl (by decide) rfl hl.1 rfl (Nat.le_of_ble_eq_true rfl) dX10_term_71 ⟨Nat.le_of_ble_eq_true rfl, Nat.le_of_ble_eq_true rfl⟩) hS (fun u H locs hw hM hS => ?_)
              obtain ⟨I130, L131, rfl, hI, hkI130, xI130⟩ := hw
              have hM : Mem D A ad ns I130 L131 G H := hM
              have hK := hK.trans hkI130 rfl
              have pw132 : (I130 (1000) 24).toInt = (Ia8 (1000) 24 : Int32).toInt := congrArg Int32.toInt (((((hkI130.get (1000) 24 rfl)).trans (hkI120.get (1000) 24 rfl)).trans (hkI113.get (1000) 24 rfl)).trans (show (u2 Ia8 (1000) 25 (v104)) (1000) 24 = Ia8 (1000) 24 from by simp [u2_v]))
              have pw133 : (I130 (1000) 26).toInt = (I113 (1000) 26 : Int32).toInt := congrArg Int32.toInt (((hkI130.get (1000) 26 rfl)).trans (hkI120.get (1000) 26 rfl))
              have pw134 : (I130 (1000) 27).toInt = (Ia8 (1000) 27 : Int32).toInt := congrArg Int32.toInt (((((hkI130.get (1000) 27 rfl)).trans (hkI120.get (1000) 27 rfl)).trans (hkI113.get (1000) 27 rfl)).trans (show (u2 Ia8 (1000) 25 (v104)) (1000) 27 = Ia8 (1000) 27 from by simp [u2_v]))
              have pw135 : (I130 (1000) 29).toInt = (I120 (1000) 29 : Int32).toInt := congrArg Int32.toInt ((hkI130.get (1000) 29 rfl))
              have pw136 : (I130 (1000) 31).toInt = (I113 (1000) 31 : Int32).toInt := congrArg Int32.toInt (((hkI130.get (1000) 31 rfl)).trans (hkI120.get (1000) 31 rfl))
              have pw137 : (I130 (1000) 32).toInt = (Ia8 (1000) 32 : Int32).toInt := congrArg Int32.toInt (((((hkI130.get (1000) 32 rfl)).trans (hkI120.get (1000) 32 rfl)).trans (hkI113.get (1000) 32 rfl)).trans (show (u2 Ia8 (1000) 25 (v104)) (1000) 32 = Ia8 (1000) 32 from by simp [u2_v]))
              refine lv_goto (tgt := 8) hx hb dX10_term_74 (by decide) ?_
              have hC := CT.link (I2 := I130) hC ((hkI130.getA 1035 rfl)) ((hkI130.getA 1036 rfl)) (by omega) (by omega)
              exact ih8  I130 L131 _ _ ls hI hK (by omega) (by simpa using hC) (by omega) hM hS (lv_sub hl [1] rfl)
            · have hc102 := c102
              have q102 := q_eq hc102
              refine lv_bipush (v := (13)) hx hb dX10_term_42 (by decide) ?_
              refine lv_goto (tgt := 49) hx hb dX10_term_44 (by decide) ?_
              refine lv_istore_n (lv' := [(1, .int (13)), (0, .ref (ad (1000)))]) hx hb dX10_term_49 rfl hl (by decide) rfl (fun ls hl => ?_)
              refine lv_aload_n hx hb dX10_term_50 rfl (lv_at hl 1 rfl) ?_
              refine lv_dup hx hb dX10_term_51 rfl ?_
              refine m_geti (1000) 25 hx hb hts hown hE oc10 hM hJ.1 rfl (by decide) rfl tb_1202 dX10_term_52 ?_
              have g138 := hI.get (1000) 25 (lo := 0) (hi := 100000) rfl
              refine lv_iconst (v := (1)) hx hb dX10_term_55 (by decide) ?_
              refine lv_iadd hx hb dX10_term_56 ?_
              refine lv_topi (fun v139 ev139 => ?_)
              have tv139 := a_add ev139 (by omega) (by omega)
              refine m_puti (1000) 25 hx hb hts hown hE oc10 hM hS hJ.1 rfl (by decide) rfl rfl rfl rfl tb_1202 dX10_term_57 (fun H locs I140 eI140 hM hS => ?_)
              subst eI140
              have hI := hI.put (n := 1000) (k := 25) (v := v139) (lo := 0) (hi := 100000) rfl (by first | omega | decide)
              have hK := hK.put (n := 1000) (k := 25) (v := v139) (by first | rfl | simp [inR])
              refine lv_aload_n hx hb dX10_term_60 rfl (lv_at hl 1 rfl) ?_
              have pw141 : ((u2 Ia8 (1000) 25 (v139)) (1000) 24).toInt = (Ia8 (1000) 24 : Int32).toInt := congrArg Int32.toInt ((show (u2 Ia8 (1000) 25 (v139)) (1000) 24 = Ia8 (1000) 24 from by simp [u2_v]))
              have pw142 : ((u2 Ia8 (1000) 25 (v139)) (1000) 25).toInt = (v139 : Int32).toInt := congrArg Int32.toInt ((show (u2 Ia8 (1000) 25 (v139)) (1000) 25 = v139 from by simp [u2_v]))
              have pw143 : ((u2 Ia8 (1000) 25 (v139)) (1000) 26).toInt = (Ia8 (1000) 26 : Int32).toInt := congrArg Int32.toInt ((show (u2 Ia8 (1000) 25 (v139)) (1000) 26 = Ia8 (1000) 26 from by simp [u2_v]))
              have pw144 : ((u2 Ia8 (1000) 25 (v139)) (1000) 27).toInt = (Ia8 (1000) 27 : Int32).toInt := congrArg Int32.toInt ((show (u2 Ia8 (1000) 25 (v139)) (1000) 27 = Ia8 (1000) 27 from by simp [u2_v]))
              have pw145 : ((u2 Ia8 (1000) 25 (v139)) (1000) 29).toInt = (Ia8 (1000) 29 : Int32).toInt := congrArg Int32.toInt ((show (u2 Ia8 (1000) 25 (v139)) (1000) 29 = Ia8 (1000) 29 from by simp [u2_v]))
              have pw146 : ((u2 Ia8 (1000) 25 (v139)) (1000) 31).toInt = (Ia8 (1000) 31 : Int32).toInt := congrArg Int32.toInt ((show (u2 Ia8 (1000) 25 (v139)) (1000) 31 = Ia8 (1000) 31 from by simp [u2_v]))
              have pw147 : ((u2 Ia8 (1000) 25 (v139)) (1000) 32).toInt = (Ia8 (1000) 32 : Int32).toInt := congrArg Int32.toInt ((show (u2 Ia8 (1000) 25 (v139)) (1000) 32 = Ia8 (1000) 32 from by simp [u2_v]))
              refine m_callv (m_runV (1000) (As := []) (rest := []) hx hb hml hown hts hE hM hS hA ce_X10_value tb_1543 (V_X10_value l D A ad ns (u2 Ia8 (1000) 25 (v139)) La8 G hJ hI (by omega)) rfl rfl ⟨Nat.le_of_ble_eq_true rfl, Nat.le_of_ble_eq_true rfl⟩ hJ.1 rfl rfl (by decide) rfl hl.1 rfl (Nat.le_of_ble_eq_true rfl) dX10_term_61 ⟨Nat.le_of_ble_eq_true rfl, Nat.le_of_ble_eq_true rfl⟩) hS (fun u H locs hw hM hS => ?_)
              obtain ⟨I148, L149, rfl, hI, hkI148, xI148⟩ := hw
              have hM : Mem D A ad ns I148 L149 G H := hM
              have hK := hK.trans hkI148 rfl
              have hC := CT.link (I2 := (u2 Ia8 (1000) 25 (v139))) hC ((show (u2 Ia8 (1000) 25 (v139)) 1035 = Ia8 1035 from by funext zz; simp [u2_v])) ((show (u2 Ia8 (1000) 25 (v139)) 1036 = Ia8 1036 from by funext zz; simp [u2_v])) (by omega) (by omega)
              have pw150 : (I148 (1000) 24).toInt = (Ia8 (1000) 24 : Int32).toInt := congrArg Int32.toInt (((hkI148.get (1000) 24 rfl)).trans (show (u2 Ia8 (1000) 25 (v139)) (1000) 24 = Ia8 (1000) 24 from by simp [u2_v]))
              have pw151 : (I148 (1000) 27).toInt = (Ia8 (1000) 27 : Int32).toInt := congrArg Int32.toInt (((hkI148.get (1000) 27 rfl)).trans (show (u2 Ia8 (1000) 25 (v139)) (1000) 27 = Ia8 (1000) 27 from by simp [u2_v]))
              have pw152 : (I148 (1000) 32).toInt = (Ia8 (1000) 32 : Int32).toInt := congrArg Int32.toInt (((hkI148.get (1000) 32 rfl)).trans (show (u2 Ia8 (1000) 25 (v139)) (1000) 32 = Ia8 (1000) 32 from by simp [u2_v]))
              have g153 := hI0.get 1000 27 (lo := 0) (hi := 5) rfl
              have g154 := hI0.get 1000 29 (lo := 0) (hi := 300) rfl
              have hC := hC.comp ((xI148.2.2.2.2.2).mono0 (1)) (by omega) (by omega) (by omega) (by omega) (by omega)
              refine lv_aload_n hx hb dX10_term_64 rfl (lv_at hl 1 rfl) ?_
              refine lv_iload_n hx hb dX10_term_65 rfl (lv_at hl 0 rfl) ?_
              refine lv_iconst (v := (0)) hx hb dX10_term_66 (by decide) ?_
              refine m_callv (m_runV (1000) (As := [.int (13), .int (0)]) (rest := []) hx hb hml hown hts hE hM hS hA ce_X10_entry tb_1552 (V_X10_entry l D A ad ns I148 L149 G (13) (0) hJ hI (by omega)) rfl rfl ⟨Nat.le_of_ble_eq_true rfl, Nat.le_of_ble_eq_true rfl⟩ hJ.1 rfl rfl (by decide) rfl hl.1 rfl (Nat.le_of_ble_eq_true rfl) dX10_term_67 ⟨Nat.le_of_ble_eq_true rfl, Nat.le_of_ble_eq_true rfl⟩) hS (fun u H locs hw hM hS => ?_)
              obtain ⟨I155, L156, rfl, hI, hkI155, xI155⟩ := hw
              have hM : Mem D A ad ns I155 L156 G H := hM
              have hK := hK.trans hkI155 rfl
              have pw157 : (I155 (1000) 24).toInt = (Ia8 (1000) 24 : Int32).toInt := congrArg Int32.toInt ((((hkI155.get (1000) 24 rfl)).trans (hkI148.get (1000) 24 rfl)).trans (show (u2 Ia8 (1000) 25 (v139)) (1000) 24 = Ia8 (1000) 24 from by simp [u2_v]))
              have pw158 : (I155 (1000) 25).toInt = (I148 (1000) 25 : Int32).toInt := congrArg Int32.toInt ((hkI155.get (1000) 25 rfl))
              have pw159 : (I155 (1000) 26).toInt = (I148 (1000) 26 : Int32).toInt := congrArg Int32.toInt ((hkI155.get (1000) 26 rfl))
              have pw160 : (I155 (1000) 27).toInt = (Ia8 (1000) 27 : Int32).toInt := congrArg Int32.toInt ((((hkI155.get (1000) 27 rfl)).trans (hkI148.get (1000) 27 rfl)).trans (show (u2 Ia8 (1000) 25 (v139)) (1000) 27 = Ia8 (1000) 27 from by simp [u2_v]))
              have pw161 : (I155 (1000) 31).toInt = (I148 (1000) 31 : Int32).toInt := congrArg Int32.toInt ((hkI155.get (1000) 31 rfl))
              have pw162 : (I155 (1000) 32).toInt = (Ia8 (1000) 32 : Int32).toInt := congrArg Int32.toInt ((((hkI155.get (1000) 32 rfl)).trans (hkI148.get (1000) 32 rfl)).trans (show (u2 Ia8 (1000) 25 (v139)) (1000) 32 = Ia8 (1000) 32 from by simp [u2_v]))
              have g163 := hI0.get 1000 27 (lo := 0) (hi := 5) rfl
              have g164 := hI0.get 1000 29 (lo := 0) (hi := 300) rfl
              have hC := hC.comp (n2 := 1) (xI155.2.2.ct (by omega) (by omega) (by omega) (by omega)) (by omega) (by omega) (by omega) (by omega) (by omega)
              refine lv_aload_n hx hb dX10_term_70 rfl (lv_at hl 1 rfl) ?_
              refine m_callv (m_runV (1000) (As := []) (rest := []) hx hb hml hown hts hE hM hS hA ce_X10_blanks tb_1506 (V_X10_blanks l D A ad ns I155 L156 G hJ hI) rfl rfl ⟨Nat.le_of_ble_eq_true rfl, Nat.le_of_ble_eq_true rfl⟩ hJ.1 rfl rfl (by decide) rfl hl.1 rfl (Nat.le_of_ble_eq_true rfl) dX10_term_71 ⟨Nat.le_of_ble_eq_true rfl, Nat.le_of_ble_eq_true rfl⟩) hS (fun u H locs hw hM hS => ?_)
              obtain ⟨I165, L166, rfl, hI, hkI165, xI165⟩ := hw
              have hM : Mem D A ad ns I165 L166 G H := hM
              have hK := hK.trans hkI165 rfl
              have pw167 : (I165 (1000) 24).toInt = (Ia8 (1000) 24 : Int32).toInt := congrArg Int32.toInt (((((hkI165.get (1000) 24 rfl)).trans (hkI155.get (1000) 24 rfl)).trans (hkI148.get (1000) 24 rfl)).trans (show (u2 Ia8 (1000) 25 (v139)) (1000) 24 = Ia8 (1000) 24 from by simp [u2_v]))
              have pw168 : (I165 (1000) 26).toInt = (I148 (1000) 26 : Int32).toInt := congrArg Int32.toInt (((hkI165.get (1000) 26 rfl)).trans (hkI155.get (1000) 26 rfl))
              have pw169 : (I165 (1000) 27).toInt = (Ia8 (1000) 27 : Int32).toInt := congrArg Int32.toInt (((((hkI165.get (1000) 27 rfl)).trans (hkI155.get (1000) 27 rfl)).trans (hkI148.get (1000) 27 rfl)).trans (show (u2 Ia8 (1000) 25 (v139)) (1000) 27 = Ia8 (1000) 27 from by simp [u2_v]))
              have pw170 : (I165 (1000) 29).toInt = (I155 (1000) 29 : Int32).toInt := congrArg Int32.toInt ((hkI165.get (1000) 29 rfl))
              have pw171 : (I165 (1000) 31).toInt = (I148 (1000) 31 : Int32).toInt := congrArg Int32.toInt (((hkI165.get (1000) 31 rfl)).trans (hkI155.get (1000) 31 rfl))
              have pw172 : (I165 (1000) 32).toInt = (Ia8 (1000) 32 : Int32).toInt := congrArg Int32.toInt (((((hkI165.get (1000) 32 rfl)).trans (hkI155.get (1000) 32 rfl)).trans (hkI148.get (1000) 32 rfl)).trans (show (u2 Ia8 (1000) 25 (v139)) (1000) 32 = Ia8 (1000) 32 from by simp [u2_v]))
              refine lv_goto (tgt := 8) hx hb dX10_term_74 (by decide) ?_
              have hC := CT.link (I2 := I165) hC ((hkI165.getA 1035 rfl)) ((hkI165.getA 1036 rfl)) (by omega) (by omega)
              exact ih8  I165 L166 _ _ ls hI hK (by omega) (by simpa using hC) (by omega) hM hS (lv_sub hl [1] rfl)
  exact loop8 (_ + 1)  I8 L9 _ _ ls hI hK (by omega) (by simpa using hC) (Nat.lt_succ_self _) hM hS (lv_sub hl [0] rfl)
theorem dX10_sum_0 : decode cX10_sum 0 = .ok (.aload_n 0, 1) := by decide +kernel
theorem dX10_sum_1 : decode cX10_sum 1 = .ok (.invokevirtual 328, 3) := by decide +kernel
theorem dX10_sum_4 : decode cX10_sum 4 = .ok (.aload_n 0, 1) := by decide +kernel
theorem dX10_sum_5 : decode cX10_sum 5 = .ok (.getfield 264, 3) := by decide +kernel
theorem dX10_sum_8 : decode cX10_sum 8 = .ok (.ifCond .ne 59, 3) := by decide +kernel
theorem dX10_sum_11 : decode cX10_sum 11 = .ok (.aload_n 0, 1) := by decide +kernel
theorem dX10_sum_12 : decode cX10_sum 12 = .ok (.invokevirtual 270, 3) := by decide +kernel
theorem dX10_sum_15 : decode cX10_sum 15 = .ok (.bipush 43, 2) := by decide +kernel
theorem dX10_sum_17 : decode cX10_sum 17 = .ok (.if_icmp .eq 12, 3) := by decide +kernel
theorem dX10_sum_20 : decode cX10_sum 20 = .ok (.aload_n 0, 1) := by decide +kernel
theorem dX10_sum_21 : decode cX10_sum 21 = .ok (.invokevirtual 270, 3) := by decide +kernel
theorem dX10_sum_24 : decode cX10_sum 24 = .ok (.bipush 45, 2) := by decide +kernel
theorem dX10_sum_26 : decode cX10_sum 26 = .ok (.if_icmp .ne 41, 3) := by decide +kernel
theorem dX10_sum_29 : decode cX10_sum 29 = .ok (.aload_n 0, 1) := by decide +kernel
theorem dX10_sum_30 : decode cX10_sum 30 = .ok (.invokevirtual 270, 3) := by decide +kernel
theorem dX10_sum_33 : decode cX10_sum 33 = .ok (.bipush 43, 2) := by decide +kernel
theorem dX10_sum_35 : decode cX10_sum 35 = .ok (.if_icmp .ne 7, 3) := by decide +kernel
theorem dX10_sum_38 : decode cX10_sum 38 = .ok (.iconst 2, 1) := by decide +kernel
theorem dX10_sum_39 : decode cX10_sum 39 = .ok (.goto 4, 3) := by decide +kernel
theorem dX10_sum_42 : decode cX10_sum 42 = .ok (.iconst 3, 1) := by decide +kernel
theorem dX10_sum_43 : decode cX10_sum 43 = .ok (.istore_n 1, 1) := by decide +kernel
theorem dX10_sum_44 : decode cX10_sum 44 = .ok (.aload_n 0, 1) := by decide +kernel
theorem dX10_sum_45 : decode cX10_sum 45 = .ok (.dup, 1) := by decide +kernel
theorem dX10_sum_46 : decode cX10_sum 46 = .ok (.getfield 267, 3) := by decide +kernel
theorem dX10_sum_49 : decode cX10_sum 49 = .ok (.iconst 1, 1) := by decide +kernel
theorem dX10_sum_50 : decode cX10_sum 50 = .ok (.iadd, 1) := by decide +kernel
theorem dX10_sum_51 : decode cX10_sum 51 = .ok (.putfield 267, 3) := by decide +kernel
theorem dX10_sum_54 : decode cX10_sum 54 = .ok (.aload_n 0, 1) := by decide +kernel
theorem dX10_sum_55 : decode cX10_sum 55 = .ok (.invokevirtual 328, 3) := by decide +kernel
theorem dX10_sum_58 : decode cX10_sum 58 = .ok (.aload_n 0, 1) := by decide +kernel
theorem dX10_sum_59 : decode cX10_sum 59 = .ok (.iload_n 1, 1) := by decide +kernel
theorem dX10_sum_60 : decode cX10_sum 60 = .ok (.iconst 0, 1) := by decide +kernel
theorem dX10_sum_61 : decode cX10_sum 61 = .ok (.invokevirtual 318, 3) := by decide +kernel
theorem dX10_sum_64 : decode cX10_sum 64 = .ok (.goto (-60), 3) := by decide +kernel
theorem dX10_sum_67 : decode cX10_sum 67 = .ok (.return_, 1) := by decide +kernel
theorem ce_X10_sum : CeV RX10 yX10_sum cX10_sum 2 none 0 := ⟨tb_1537, tp_68, tb_11, tb_1538, rfl, by decide, by decide, by decide +kernel⟩
set_option maxHeartbeats 4000000 in
set_option maxRecDepth 20000 in
theorem V_X10_sum (l : Launch) (D : va_G) (A : Nat → Prop) (ad : Nat → Nat) (ns : List Nat) (I : MI) (L : ML) (G : MG) (hJ : SGM ns G) (hI : INV I) (hPI : (I 1000 26).toInt = 0 → 0 ≤ (I 1000 31).toInt ∧ (I 1000 31).toInt ≤ 60 ∧ 3 * (I 1000 29).toInt ≤ 6 * (I 1000 31).toInt + (I 1000 25).toInt ∧ (I 1000 25).toInt ≤ 400) : Met l yX10_sum (wd yX10_sum cX10_sum 2 none) ({ frames := 7, cells := 0, slots := 0, locals := 152 }) (va_Pc [.ref (ad (1000))] (PM D A ad ns I L G)) (va_Qv (fun u => ∃ I2 L2, u = (ad, ns, I2, L2, G) ∧ INV I2 ∧ Kp [(1035, 1037)] [(1000, 25), (1000, 26), (1000, 29), (1000, 31)] I I2 ∧ ((I 1000 25).toInt ≤ (I2 1000 25).toInt ∧ ((I2 1000 25).toInt = (I 1000 25).toInt ∨ (I2 1000 25).toInt ≤ 400) ∧ ((I2 1000 26).toInt = 0 → (I 1000 26).toInt = 0) ∧ (I 1000 29).toInt ≤ (I2 1000 29).toInt ∧ ((I2 1000 26).toInt = 0 → (I 1000 31).toInt + 1 ≤ (I2 1000 31).toInt ∧ (I2 1000 31).toInt ≤ 60 ∧ (I2 1000 29).toInt + 1 ≤ (I 1000 29).toInt + 2 * ((I2 1000 31).toInt - (I 1000 31).toInt)) ∧ CT I I2 0 1)) (BM D A) A) 0 0 A := by
  refine m_ofW (by decide) (Nat.le_of_ble_eq_true rfl) ?_
  intro p e s m below meth c ls args hC hE hM hA hS hl
  obtain ⟨hx, hb, hml, hown, hts, hr, hlocks, hin⟩ := hC
  have k0 : (0 : Int32).toInt = 0 := by decide
  have k1 : (1 : Int32).toInt = 1 := by decide
  have k2 : (2 : Int32).toInt = 2 := by decide
  have k3 : (3 : Int32).toInt = 3 := by decide
  have k43 : (43 : Int32).toInt = 43 := by decide
  have k45 : (45 : Int32).toInt = 45 := by decide
  have hC := CT.rf I 0
  have hI0 := hI
  have hK : Kp [(1035, 1037)] [(1000, 25), (1000, 26), (1000, 29), (1000, 31)] I I := Kp.rf
  have hl : lv_has ls 2 [(0, .ref (ad (1000)))] := hl
  refine lv_aload_n hx hb dX10_sum_0 rfl (lv_at hl 0 rfl) ?_
  refine m_callv (m_runV (1000) (As := []) (rest := []) hx hb hml hown hts hE hM hS hA ce_X10_term tb_1539 (V_X10_term l D A ad ns I L G hJ hI (by omega)) rfl rfl ⟨Nat.le_of_ble_eq_true rfl, Nat.le_of_ble_eq_true rfl⟩ hJ.1 rfl rfl (by decide) rfl hl.1 rfl (Nat.le_of_ble_eq_true rfl) dX10_sum_1 ⟨Nat.le_of_ble_eq_true rfl, Nat.le_of_ble_eq_true rfl⟩) hS (fun u H locs hw hM hS => ?_)
  obtain ⟨I1, L2, rfl, hI, hkI1, xI1⟩ := hw
  have hM : Mem D A ad ns I1 L2 G H := hM
  have hK := hK.trans hkI1 rfl
  have pw3 : (I1 (1000) 24).toInt = (I (1000) 24 : Int32).toInt := congrArg Int32.toInt ((hkI1.get (1000) 24 rfl))
  have pw4 : (I1 (1000) 27).toInt = (I (1000) 27 : Int32).toInt := congrArg Int32.toInt ((hkI1.get (1000) 27 rfl))
  have pw5 : (I1 (1000) 32).toInt = (I (1000) 32 : Int32).toInt := congrArg Int32.toInt ((hkI1.get (1000) 32 rfl))
  have g6 := hI0.get 1000 27 (lo := 0) (hi := 5) rfl
  have g7 := hI0.get 1000 29 (lo := 0) (hi := 300) rfl
  have hC := hC.comp ((xI1.2.2.2.2.2).mono0 (0)) (by omega) (by omega) (by omega) (by omega) (by omega)
  have loop4 : ∀ (n : Nat)  (Ia4 : MI) (La4 : ML) (H : Heap) (locs : List Loc) (ls : Array Slot), INV Ia4 → Kp [(1035, 1037)] [(1000, 25), (1000, 26), (1000, 29), (1000, 31)] I Ia4 → ((I 1000 25).toInt ≤ (Ia4 1000 25).toInt ∧ ((Ia4 1000 25).toInt = (I 1000 25).toInt ∨ (Ia4 1000 25).toInt ≤ 400) ∧ ((Ia4 1000 26).toInt = 0 → (I 1000 26).toInt = 0) ∧ (I 1000 29).toInt ≤ (Ia4 1000 29).toInt ∧ ((Ia4 1000 26).toInt = 0 → (I 1000 31).toInt + 1 ≤ (Ia4 1000 31).toInt ∧ (Ia4 1000 31).toInt ≤ 60 ∧ (Ia4 1000 29).toInt + 1 ≤ (I 1000 29).toInt + 2 * ((Ia4 1000 31).toInt - (I 1000 31).toInt))) → (CT I Ia4 0 1) → (400 - (Ia4 1000 25).toInt).toNat < n → Mem D A ad ns Ia4 La4 G H → va_S A s.heap H locs → lv_has ls 2 [(0, .ref (ad (1000)))] → W p l e ({ frames := 7, cells := 0, slots := 0, locals := 152 } : Room) s m args below meth c H locs 0 0 (MQ below (va_Qv (fun u => ∃ I2 L2, u = (ad, ns, I2, L2, G) ∧ INV I2 ∧ Kp [(1035, 1037)] [(1000, 25), (1000, 26), (1000, 29), (1000, 31)] I I2 ∧ ((I 1000 25).toInt ≤ (I2 1000 25).toInt ∧ ((I2 1000 25).toInt = (I 1000 25).toInt ∨ (I2 1000 25).toInt ≤ 400) ∧ ((I2 1000 26).toInt = 0 → (I 1000 26).toInt = 0) ∧ (I 1000 29).toInt ≤ (I2 1000 29).toInt ∧ ((I2 1000 26).toInt = 0 → (I 1000 31).toInt + 1 ≤ (I2 1000 31).toInt ∧ (I2 1000 31).toInt ≤ 60 ∧ (I2 1000 29).toInt + 1 ≤ (I 1000 29).toInt + 2 * ((I2 1000 31).toInt - (I 1000 31).toInt)) ∧ CT I I2 0 1)) (BM D A) A) args s 0 0 A) (F0 m 4 ls []) := by
    intro n
    induction n with
    | zero =>
      intro  Ia4 La4 H locs ls hI hK hlin hC hmu
      exact absurd hmu (Nat.not_lt_zero _)
    | succ n ih4 =>
      intro  Ia4 La4 H locs ls hI hK hlin hC hmu4 hM hS hl
      refine lv_aload_n hx hb dX10_sum_4 rfl (lv_at hl 0 rfl) ?_
      refine m_geti (1000) 26 hx hb hts hown hE oc10 hM hJ.1 rfl (by decide) rfl tb_1203 dX10_sum_5 ?_
      refine lv_if_ne (tgt := 67) hx hb dX10_sum_8 (by decide) (fun c8 => ?_) (fun c8 => ?_)
      · have hc8 := c8
        have q8 := q_ne hc8
        exact m_vret hx hb hr hlocks hM hS (Nat.le_of_ble_eq_true rfl) (Nat.le_of_ble_eq_true rfl) ⟨_, _, rfl, hI, hK, ⟨by omega, by omega, by omega, by omega, by omega, hC⟩⟩ dX10_sum_67
      · have hc8 := c8
        have q8 := q_eq hc8
        refine lv_aload_n hx hb dX10_sum_11 rfl (lv_at hl 0 rfl) ?_
        refine m_calli (m_runV (1000) (As := []) (rest := []) hx hb hml hown hts hE hM hS hA ce_X10_sign tb_1510 (V_X10_sign l D A ad ns Ia4 La4 G hJ hI) rfl rfl ⟨Nat.le_of_ble_eq_true rfl, Nat.le_of_ble_eq_true rfl⟩ hJ.1 rfl rfl (by decide) rfl hl.1 rfl (Nat.le_of_ble_eq_true rfl) dX10_sum_12 ⟨Nat.le_of_ble_eq_true rfl, Nat.le_of_ble_eq_true rfl⟩) hS (fun r9 u H locs hw hM hS => ?_)
        obtain ⟨rfl, xr9⟩ := hw
        have hM : Mem D A ad ns Ia4 La4 G H := hM
        have g10 := hI.get 1000 24 (lo := 0) (hi := 400) rfl
        have g11 := hI.get 1000 25 (lo := 0) (hi := 100000) rfl
        refine lv_bipush (v := (43)) hx hb dX10_sum_15 (by decide) ?_
        refine lv_icmp_eq (tgt := 29) hx hb dX10_sum_17 (by decide) (fun c12 => ?_) (fun c12 => ?_)
        · have hc12 := c12
          have q12 := q_eq hc12
          refine lv_aload_n hx hb dX10_sum_29 rfl (lv_at hl 0 rfl) ?_
          refine m_calli (m_runV (1000) (As := []) (rest := []) hx hb hml hown hts hE hM hS hA ce_X10_sign tb_1510 (V_X10_sign l D A ad ns Ia4 La4 G hJ hI) rfl rfl ⟨Nat.le_of_ble_eq_true rfl, Nat.le_of_ble_eq_true rfl⟩ hJ.1 rfl rfl (by decide) rfl hl.1 rfl (Nat.le_of_ble_eq_true rfl) dX10_sum_30 ⟨Nat.le_of_ble_eq_true rfl, Nat.le_of_ble_eq_true rfl⟩) hS (fun r13 u H locs hw hM hS => ?_)
          obtain ⟨rfl, xr13⟩ := hw
          have hM : Mem D A ad ns Ia4 La4 G H := hM
          have g14 := hI.get 1000 24 (lo := 0) (hi := 400) rfl
          have g15 := hI.get 1000 25 (lo := 0) (hi := 100000) rfl
          refine lv_bipush (v := (43)) hx hb dX10_sum_33 (by decide) ?_
          refine lv_icmp_ne (tgt := 42) hx hb dX10_sum_35 (by decide) (fun c16 => ?_) (fun c16 => ?_)
          · have hc16 := c16
            have q16 := q_ne hc16
            refine lv_iconst (v := (3)) hx hb dX10_sum_42 (by decide) ?_
            refine lv_istore_n (lv' := [(1, .int (3)), (0, .ref (ad (1000)))]) hx hb dX10_sum_43 rfl hl (by decide) rfl (fun ls hl => ?_)
            refine lv_aload_n hx hb dX10_sum_44 rfl (lv_at hl 1 rfl) ?_
            refine lv_dup hx hb dX10_sum_45 rfl ?_
            refine m_geti (1000) 25 hx hb hts hown hE oc10 hM hJ.1 rfl (by decide) rfl tb_1202 dX10_sum_46 ?_
            have g17 := hI.get (1000) 25 (lo := 0) (hi := 100000) rfl
            refine lv_iconst (v := (1)) hx hb dX10_sum_49 (by decide) ?_
            refine lv_iadd hx hb dX10_sum_50 ?_
            refine lv_topi (fun v18 ev18 => ?_)
            have tv18 := a_add ev18 (by omega) (by omega)
            refine m_puti (1000) 25 hx hb hts hown hE oc10 hM hS hJ.1 rfl (by decide) rfl rfl rfl rfl tb_1202 dX10_sum_51 (fun H locs I19 eI19 hM hS => ?_)
            subst eI19
            have hI := hI.put (n := 1000) (k := 25) (v := v18) (lo := 0) (hi := 100000) rfl (by first | omega | decide)
            have hK := hK.put (n := 1000) (k := 25) (v := v18) (by first | rfl | simp [inR])
            refine lv_aload_n hx hb dX10_sum_54 rfl (lv_at hl 1 rfl) ?_
            have pw20 : ((u2 Ia4 (1000) 25 (v18)) (1000) 24).toInt = (Ia4 (1000) 24 : Int32).toInt := congrArg Int32.toInt ((show (u2 Ia4 (1000) 25 (v18)) (1000) 24 = Ia4 (1000) 24 from by simp [u2_v]))
            have pw21 : ((u2 Ia4 (1000) 25 (v18)) (1000) 25).toInt = (v18 : Int32).toInt := congrArg Int32.toInt ((show (u2 Ia4 (1000) 25 (v18)) (1000) 25 = v18 from by simp [u2_v]))
            have pw22 : ((u2 Ia4 (1000) 25 (v18)) (1000) 26).toInt = (Ia4 (1000) 26 : Int32).toInt := congrArg Int32.toInt ((show (u2 Ia4 (1000) 25 (v18)) (1000) 26 = Ia4 (1000) 26 from by simp [u2_v]))
            have pw23 : ((u2 Ia4 (1000) 25 (v18)) (1000) 27).toInt = (Ia4 (1000) 27 : Int32).toInt := congrArg Int32.toInt ((show (u2 Ia4 (1000) 25 (v18)) (1000) 27 = Ia4 (1000) 27 from by simp [u2_v]))
            have pw24 : ((u2 Ia4 (1000) 25 (v18)) (1000) 29).toInt = (Ia4 (1000) 29 : Int32).toInt := congrArg Int32.toInt ((show (u2 Ia4 (1000) 25 (v18)) (1000) 29 = Ia4 (1000) 29 from by simp [u2_v]))
            have pw25 : ((u2 Ia4 (1000) 25 (v18)) (1000) 31).toInt = (Ia4 (1000) 31 : Int32).toInt := congrArg Int32.toInt ((show (u2 Ia4 (1000) 25 (v18)) (1000) 31 = Ia4 (1000) 31 from by simp [u2_v]))
            have pw26 : ((u2 Ia4 (1000) 25 (v18)) (1000) 32).toInt = (Ia4 (1000) 32 : Int32).toInt := congrArg Int32.toInt ((show (u2 Ia4 (1000) 25 (v18)) (1000) 32 = Ia4 (1000) 32 from by simp [u2_v]))
            refine m_callv (m_runV (1000) (As := []) (rest := []) hx hb hml hown hts hE hM hS hA ce_X10_term tb_1539 (V_X10_term l D A ad ns (u2 Ia4 (1000) 25 (v18)) La4 G hJ hI (by omega)) rfl rfl ⟨Nat.le_of_ble_eq_true rfl, Nat.le_of_ble_eq_true rfl⟩ hJ.1 rfl rfl (by decide) rfl hl.1 rfl (Nat.le_of_ble_eq_true rfl) dX10_sum_55 ⟨Nat.le_of_ble_eq_true rfl, Nat.le_of_ble_eq_true rfl⟩) hS (fun u H locs hw hM hS => ?_)
            obtain ⟨I27, L28, rfl, hI, hkI27, xI27⟩ := hw
            have hM : Mem D A ad ns I27 L28 G H := hM
            have hK := hK.trans hkI27 rfl
            have hC := CT.link (I2 := (u2 Ia4 (1000) 25 (v18))) hC ((show (u2 Ia4 (1000) 25 (v18)) 1035 = Ia4 1035 from by funext zz; simp [u2_v])) ((show (u2 Ia4 (1000) 25 (v18)) 1036 = Ia4 1036 from by funext zz; simp [u2_v])) (by omega) (by omega)
            have pw29 : (I27 (1000) 24).toInt = (Ia4 (1000) 24 : Int32).toInt := congrArg Int32.toInt (((hkI27.get (1000) 24 rfl)).trans (show (u2 Ia4 (1000) 25 (v18)) (1000) 24 = Ia4 (1000) 24 from by simp [u2_v]))
            have pw30 : (I27 (1000) 27).toInt = (Ia4 (1000) 27 : Int32).toInt := congrArg Int32.toInt (((hkI27.get (1000) 27 rfl)).trans (show (u2 Ia4 (1000) 25 (v18)) (1000) 27 = Ia4 (1000) 27 from by simp [u2_v]))
            have pw31 : (I27 (1000) 32).toInt = (Ia4 (1000) 32 : Int32).toInt := congrArg Int32.toInt (((hkI27.get (1000) 32 rfl)).trans (show (u2 Ia4 (1000) 25 (v18)) (1000) 32 = Ia4 (1000) 32 from by simp [u2_v]))
            have g32 := hI0.get 1000 27 (lo := 0) (hi := 5) rfl
            have g33 := hI0.get 1000 29 (lo := 0) (hi := 300) rfl
            have hC := hC.comp ((xI27.2.2.2.2.2).mono0 (1)) (by omega) (by omega) (by omega) (by omega) (by omega)
            refine lv_aload_n hx hb dX10_sum_58 rfl (lv_at hl 1 rfl) ?_
            refine lv_iload_n hx hb dX10_sum_59 rfl (lv_at hl 0 rfl) ?_
            refine lv_iconst (v := (0)) hx hb dX10_sum_60 (by decide) ?_
            refine m_callv (m_runV (1000) (As := [.int (3), .int (0)]) (rest := []) hx hb hml hown hts hE hM hS hA ce_X10_entry tb_1552 (V_X10_entry l D A ad ns I27 L28 G (3) (0) hJ hI (by omega)) rfl rfl ⟨Nat.le_of_ble_eq_true rfl, Nat.le_of_ble_eq_true rfl⟩ hJ.1 rfl rfl (by decide) rfl hl.1 rfl (Nat.le_of_ble_eq_true rfl) dX10_sum_61 ⟨Nat.le_of_ble_eq_true rfl, Nat.le_of_ble_eq_true rfl⟩) hS (fun u H locs hw hM hS => ?_)
            obtain ⟨I34, L35, rfl, hI, hkI34, xI34⟩ := hw
            have hM : Mem D A ad ns I34 L35 G H := hM
            have hK := hK.trans hkI34 rfl
            have pw36 : (I34 (1000) 24).toInt = (Ia4 (1000) 24 : Int32).toInt := congrArg Int32.toInt ((((hkI34.get (1000) 24 rfl)).trans (hkI27.get (1000) 24 rfl)).trans (show (u2 Ia4 (1000) 25 (v18)) (1000) 24 = Ia4 (1000) 24 from by simp [u2_v]))
            have pw37 : (I34 (1000) 25).toInt = (I27 (1000) 25 : Int32).toInt := congrArg Int32.toInt ((hkI34.get (1000) 25 rfl))
            have pw38 : (I34 (1000) 26).toInt = (I27 (1000) 26 : Int32).toInt := congrArg Int32.toInt ((hkI34.get (1000) 26 rfl))
            have pw39 : (I34 (1000) 27).toInt = (Ia4 (1000) 27 : Int32).toInt := congrArg Int32.toInt ((((hkI34.get (1000) 27 rfl)).trans (hkI27.get (1000) 27 rfl)).trans (show (u2 Ia4 (1000) 25 (v18)) (1000) 27 = Ia4 (1000) 27 from by simp [u2_v]))
            have pw40 : (I34 (1000) 31).toInt = (I27 (1000) 31 : Int32).toInt := congrArg Int32.toInt ((hkI34.get (1000) 31 rfl))
            have pw41 : (I34 (1000) 32).toInt = (Ia4 (1000) 32 : Int32).toInt := congrArg Int32.toInt ((((hkI34.get (1000) 32 rfl)).trans (hkI27.get (1000) 32 rfl)).trans (show (u2 Ia4 (1000) 25 (v18)) (1000) 32 = Ia4 (1000) 32 from by simp [u2_v]))
            have g42 := hI0.get 1000 27 (lo := 0) (hi := 5) rfl
            have g43 := hI0.get 1000 29 (lo := 0) (hi := 300) rfl
            have hC := hC.comp (n2 := 1) (xI34.2.2.ct (by omega) (by omega) (by omega) (by omega)) (by omega) (by omega) (by omega) (by omega) (by omega)
            refine lv_goto (tgt := 4) hx hb dX10_sum_64 (by decide) ?_
            exact ih4  I34 L35 _ _ ls hI hK (by omega) (by simpa using hC) (by omega) hM hS (lv_sub hl [1] rfl)
          · have hc16 := c16
            have q16 := q_eq hc16
            refine lv_iconst (v := (2)) hx hb dX10_sum_38 (by decide) ?_
            refine lv_goto (tgt := 43) hx hb dX10_sum_39 (by decide) ?_
            refine lv_istore_n (lv' := [(1, .int (2)), (0, .ref (ad (1000)))]) hx hb dX10_sum_43 rfl hl (by decide) rfl (fun ls hl => ?_)
            refine lv_aload_n hx hb dX10_sum_44 rfl (lv_at hl 1 rfl) ?_
            refine lv_dup hx hb dX10_sum_45 rfl ?_
            refine m_geti (1000) 25 hx hb hts hown hE oc10 hM hJ.1 rfl (by decide) rfl tb_1202 dX10_sum_46 ?_
            have g44 := hI.get (1000) 25 (lo := 0) (hi := 100000) rfl
            refine lv_iconst (v := (1)) hx hb dX10_sum_49 (by decide) ?_
            refine lv_iadd hx hb dX10_sum_50 ?_
            refine lv_topi (fun v45 ev45 => ?_)
            have tv45 := a_add ev45 (by omega) (by omega)
            refine m_puti (1000) 25 hx hb hts hown hE oc10 hM hS hJ.1 rfl (by decide) rfl rfl rfl rfl tb_1202 dX10_sum_51 (fun H locs I46 eI46 hM hS => ?_)
            subst eI46
            have hI := hI.put (n := 1000) (k := 25) (v := v45) (lo := 0) (hi := 100000) rfl (by first | omega | decide)
            have hK := hK.put (n := 1000) (k := 25) (v := v45) (by first | rfl | simp [inR])
            refine lv_aload_n hx hb dX10_sum_54 rfl (lv_at hl 1 rfl) ?_
            have pw47 : ((u2 Ia4 (1000) 25 (v45)) (1000) 24).toInt = (Ia4 (1000) 24 : Int32).toInt := congrArg Int32.toInt ((show (u2 Ia4 (1000) 25 (v45)) (1000) 24 = Ia4 (1000) 24 from by simp [u2_v]))
            have pw48 : ((u2 Ia4 (1000) 25 (v45)) (1000) 25).toInt = (v45 : Int32).toInt := congrArg Int32.toInt ((show (u2 Ia4 (1000) 25 (v45)) (1000) 25 = v45 from by simp [u2_v]))
            have pw49 : ((u2 Ia4 (1000) 25 (v45)) (1000) 26).toInt = (Ia4 (1000) 26 : Int32).toInt := congrArg Int32.toInt ((show (u2 Ia4 (1000) 25 (v45)) (1000) 26 = Ia4 (1000) 26 from by simp [u2_v]))
            have pw50 : ((u2 Ia4 (1000) 25 (v45)) (1000) 27).toInt = (Ia4 (1000) 27 : Int32).toInt := congrArg Int32.toInt ((show (u2 Ia4 (1000) 25 (v45)) (1000) 27 = Ia4 (1000) 27 from by simp [u2_v]))
            have pw51 : ((u2 Ia4 (1000) 25 (v45)) (1000) 29).toInt = (Ia4 (1000) 29 : Int32).toInt := congrArg Int32.toInt ((show (u2 Ia4 (1000) 25 (v45)) (1000) 29 = Ia4 (1000) 29 from by simp [u2_v]))
            have pw52 : ((u2 Ia4 (1000) 25 (v45)) (1000) 31).toInt = (Ia4 (1000) 31 : Int32).toInt := congrArg Int32.toInt ((show (u2 Ia4 (1000) 25 (v45)) (1000) 31 = Ia4 (1000) 31 from by simp [u2_v]))
            have pw53 : ((u2 Ia4 (1000) 25 (v45)) (1000) 32).toInt = (Ia4 (1000) 32 : Int32).toInt := congrArg Int32.toInt ((show (u2 Ia4 (1000) 25 (v45)) (1000) 32 = Ia4 (1000) 32 from by simp [u2_v]))
            refine m_callv (m_runV (1000) (As := []) (rest := []) hx hb hml hown hts hE hM hS hA ce_X10_term tb_1539 (V_X10_term l D A ad ns (u2 Ia4 (1000) 25 (v45)) La4 G hJ hI (by omega)) rfl rfl ⟨Nat.le_of_ble_eq_true rfl, Nat.le_of_ble_eq_true rfl⟩ hJ.1 rfl rfl (by decide) rfl hl.1 rfl (Nat.le_of_ble_eq_true rfl) dX10_sum_55 ⟨Nat.le_of_ble_eq_true rfl, Nat.le_of_ble_eq_true rfl⟩) hS (fun u H locs hw hM hS => ?_)
            obtain ⟨I54, L55, rfl, hI, hkI54, xI54⟩ := hw
            have hM : Mem D A ad ns I54 L55 G H := hM
            have hK := hK.trans hkI54 rfl
            have hC := CT.link (I2 := (u2 Ia4 (1000) 25 (v45))) hC ((show (u2 Ia4 (1000) 25 (v45)) 1035 = Ia4 1035 from by funext zz; simp [u2_v])) ((show (u2 Ia4 (1000) 25 (v45)) 1036 = Ia4 1036 from by funext zz; simp [u2_v])) (by omega) (by omega)
            have pw56 : (I54 (1000) 24).toInt = (Ia4 (1000) 24 : Int32).toInt := congrArg Int32.toInt (((hkI54.get (1000) 24 rfl)).trans (show (u2 Ia4 (1000) 25 (v45)) (1000) 24 = Ia4 (1000) 24 from by simp [u2_v]))
            have pw57 : (I54 (1000) 27).toInt = (Ia4 (1000) 27 : Int32).toInt := congrArg Int32.toInt (((hkI54.get (1000) 27 rfl)).trans (show (u2 Ia4 (1000) 25 (v45)) (1000) 27 = Ia4 (1000) 27 from by simp [u2_v]))
            have pw58 : (I54 (1000) 32).toInt = (Ia4 (1000) 32 : Int32).toInt := congrArg Int32.toInt (((hkI54.get (1000) 32 rfl)).trans (show (u2 Ia4 (1000) 25 (v45)) (1000) 32 = Ia4 (1000) 32 from by simp [u2_v]))
            have g59 := hI0.get 1000 27 (lo := 0) (hi := 5) rfl
            have g60 := hI0.get 1000 29 (lo := 0) (hi := 300) rfl
            have hC := hC.comp ((xI54.2.2.2.2.2).mono0 (1)) (by omega) (by omega) (by omega) (by omega) (by omega)
            refine lv_aload_n hx hb dX10_sum_58 rfl (lv_at hl 1 rfl) ?_
            refine lv_iload_n hx hb dX10_sum_59 rfl (lv_at hl 0 rfl) ?_
            refine lv_iconst (v := (0)) hx hb dX10_sum_60 (by decide) ?_
            refine m_callv (m_runV (1000) (As := [.int (2), .int (0)]) (rest := []) hx hb hml hown hts hE hM hS hA ce_X10_entry tb_1552 (V_X10_entry l D A ad ns I54 L55 G (2) (0) hJ hI (by omega)) rfl rfl ⟨Nat.le_of_ble_eq_true rfl, Nat.le_of_ble_eq_true rfl⟩ hJ.1 rfl rfl (by decide) rfl hl.1 rfl (Nat.le_of_ble_eq_true rfl) dX10_sum_61 ⟨Nat.le_of_ble_eq_true rfl, Nat.le_of_ble_eq_true rfl⟩) hS (fun u H locs hw hM hS => ?_)
            obtain ⟨I61, L62, rfl, hI, hkI61, xI61⟩ := hw
            have hM : Mem D A ad ns I61 L62 G H := hM
            have hK := hK.trans hkI61 rfl
            have pw63 : (I61 (1000) 24).toInt = (Ia4 (1000) 24 : Int32).toInt := congrArg Int32.toInt ((((hkI61.get (1000) 24 rfl)).trans (hkI54.get (1000) 24 rfl)).trans (show (u2 Ia4 (1000) 25 (v45)) (1000) 24 = Ia4 (1000) 24 from by simp [u2_v]))
            have pw64 : (I61 (1000) 25).toInt = (I54 (1000) 25 : Int32).toInt := congrArg Int32.toInt ((hkI61.get (1000) 25 rfl))
            have pw65 : (I61 (1000) 26).toInt = (I54 (1000) 26 : Int32).toInt := congrArg Int32.toInt ((hkI61.get (1000) 26 rfl))
            have pw66 : (I61 (1000) 27).toInt = (Ia4 (1000) 27 : Int32).toInt := congrArg Int32.toInt ((((hkI61.get (1000) 27 rfl)).trans (hkI54.get (1000) 27 rfl)).trans (show (u2 Ia4 (1000) 25 (v45)) (1000) 27 = Ia4 (1000) 27 from by simp [u2_v]))
            have pw67 : (I61 (1000) 31).toInt = (I54 (1000) 31 : Int32).toInt := congrArg Int32.toInt ((hkI61.get (1000) 31 rfl))
            have pw68 : (I61 (1000) 32).toInt = (Ia4 (1000) 32 : Int32).toInt := congrArg Int32.toInt ((((hkI61.get (1000) 32 rfl)).trans (hkI54.get (1000) 32 rfl)).trans (show (u2 Ia4 (1000) 25 (v45)) (1000) 32 = Ia4 (1000) 32 from by simp [u2_v]))
            have g69 := hI0.get 1000 27 (lo := 0) (hi := 5) rfl
            have g70 := hI0.get 1000 29 (lo := 0) (hi := 300) rfl
            have hC := hC.comp (n2 := 1) (xI61.2.2.ct (by omega) (by omega) (by omega) (by omega)) (by omega) (by omega) (by omega) (by omega) (by omega)
            refine lv_goto (tgt := 4) hx hb dX10_sum_64 (by decide) ?_
            exact ih4  I61 L62 _ _ ls hI hK (by omega) (by simpa using hC) (by omega) hM hS (lv_sub hl [1] rfl)
        · have hc12 := c12
          have q12 := q_ne hc12
          refine lv_aload_n hx hb dX10_sum_20 rfl (lv_at hl 0 rfl) ?_
          refine m_calli (m_runV (1000) (As := []) (rest := []) hx hb hml hown hts hE hM hS hA ce_X10_sign tb_1510 (V_X10_sign l D A ad ns Ia4 La4 G hJ hI) rfl rfl ⟨Nat.le_of_ble_eq_true rfl, Nat.le_of_ble_eq_true rfl⟩ hJ.1 rfl rfl (by decide) rfl hl.1 rfl (Nat.le_of_ble_eq_true rfl) dX10_sum_21 ⟨Nat.le_of_ble_eq_true rfl, Nat.le_of_ble_eq_true rfl⟩) hS (fun r71 u H locs hw hM hS => ?_)
          obtain ⟨rfl, xr71⟩ := hw
          have hM : Mem D A ad ns Ia4 La4 G H := hM
          have g72 := hI.get 1000 24 (lo := 0) (hi := 400) rfl
          have g73 := hI.get 1000 25 (lo := 0) (hi := 100000) rfl
          refine lv_bipush (v := (45)) hx hb dX10_sum_24 (by decide) ?_
          refine lv_icmp_ne (tgt := 67) hx hb dX10_sum_26 (by decide) (fun c74 => ?_) (fun c74 => ?_)
          · have hc74 := c74
            have q74 := q_ne hc74
            exact m_vret hx hb hr hlocks hM hS (Nat.le_of_ble_eq_true rfl) (Nat.le_of_ble_eq_true rfl) ⟨_, _, rfl, hI, hK, ⟨by omega, by omega, by omega, by omega, by omega, hC⟩⟩ dX10_sum_67
          · have hc74 := c74
            have q74 := q_eq hc74
            refine lv_aload_n hx hb dX10_sum_29 rfl (lv_at hl 0 rfl) ?_
            refine m_calli (m_runV (1000) (As := []) (rest := []) hx hb hml hown hts hE hM hS hA ce_X10_sign tb_1510 (V_X10_sign l D A ad ns Ia4 La4 G hJ hI) rfl rfl ⟨Nat.le_of_ble_eq_true rfl, Nat.le_of_ble_eq_true rfl⟩ hJ.1 rfl rfl (by decide) rfl hl.1 rfl (Nat.le_of_ble_eq_true rfl) dX10_sum_30 ⟨Nat.le_of_ble_eq_true rfl, Nat.le_of_ble_eq_true rfl⟩) hS (fun r75 u H locs hw hM hS => ?_)
            obtain ⟨rfl, xr75⟩ := hw
            have hM : Mem D A ad ns Ia4 La4 G H := hM
            have g76 := hI.get 1000 24 (lo := 0) (hi := 400) rfl
            have g77 := hI.get 1000 25 (lo := 0) (hi := 100000) rfl
            refine lv_bipush (v := (43)) hx hb dX10_sum_33 (by decide) ?_
            refine lv_icmp_ne (tgt := 42) hx hb dX10_sum_35 (by decide) (fun c78 => ?_) (fun c78 => ?_)
            · have hc78 := c78
              have q78 := q_ne hc78
              refine lv_iconst (v := (3)) hx hb dX10_sum_42 (by decide) ?_
              refine lv_istore_n (lv' := [(1, .int (3)), (0, .ref (ad (1000)))]) hx hb dX10_sum_43 rfl hl (by decide) rfl (fun ls hl => ?_)
              refine lv_aload_n hx hb dX10_sum_44 rfl (lv_at hl 1 rfl) ?_
              refine lv_dup hx hb dX10_sum_45 rfl ?_
              refine m_geti (1000) 25 hx hb hts hown hE oc10 hM hJ.1 rfl (by decide) rfl tb_1202 dX10_sum_46 ?_
              have g79 := hI.get (1000) 25 (lo := 0) (hi := 100000) rfl
              refine lv_iconst (v := (1)) hx hb dX10_sum_49 (by decide) ?_
              refine lv_iadd hx hb dX10_sum_50 ?_
              refine lv_topi (fun v80 ev80 => ?_)
              have tv80 := a_add ev80 (by omega) (by omega)
              refine m_puti (1000) 25 hx hb hts hown hE oc10 hM hS hJ.1 rfl (by decide) rfl rfl rfl rfl tb_1202 dX10_sum_51 (fun H locs I81 eI81 hM hS => ?_)
              subst eI81
              have hI := hI.put (n := 1000) (k := 25) (v := v80) (lo := 0) (hi := 100000) rfl (by first | omega | decide)
              have hK := hK.put (n := 1000) (k := 25) (v := v80) (by first | rfl | simp [inR])
              refine lv_aload_n hx hb dX10_sum_54 rfl (lv_at hl 1 rfl) ?_
              have pw82 : ((u2 Ia4 (1000) 25 (v80)) (1000) 24).toInt = (Ia4 (1000) 24 : Int32).toInt := congrArg Int32.toInt ((show (u2 Ia4 (1000) 25 (v80)) (1000) 24 = Ia4 (1000) 24 from by simp [u2_v]))
              have pw83 : ((u2 Ia4 (1000) 25 (v80)) (1000) 25).toInt = (v80 : Int32).toInt := congrArg Int32.toInt ((show (u2 Ia4 (1000) 25 (v80)) (1000) 25 = v80 from by simp [u2_v]))
              have pw84 : ((u2 Ia4 (1000) 25 (v80)) (1000) 26).toInt = (Ia4 (1000) 26 : Int32).toInt := congrArg Int32.toInt ((show (u2 Ia4 (1000) 25 (v80)) (1000) 26 = Ia4 (1000) 26 from by simp [u2_v]))
              have pw85 : ((u2 Ia4 (1000) 25 (v80)) (1000) 27).toInt = (Ia4 (1000) 27 : Int32).toInt := congrArg Int32.toInt ((show (u2 Ia4 (1000) 25 (v80)) (1000) 27 = Ia4 (1000) 27 from by simp [u2_v]))
              have pw86 : ((u2 Ia4 (1000) 25 (v80)) (1000) 29).toInt = (Ia4 (1000) 29 : Int32).toInt := congrArg Int32.toInt ((show (u2 Ia4 (1000) 25 (v80)) (1000) 29 = Ia4 (1000) 29 from by simp [u2_v]))
              have pw87 : ((u2 Ia4 (1000) 25 (v80)) (1000) 31).toInt = (Ia4 (1000) 31 : Int32).toInt := congrArg Int32.toInt ((show (u2 Ia4 (1000) 25 (v80)) (1000) 31 = Ia4 (1000) 31 from by simp [u2_v]))
              have pw88 : ((u2 Ia4 (1000) 25 (v80)) (1000) 32).toInt = (Ia4 (1000) 32 : Int32).toInt := congrArg Int32.toInt ((show (u2 Ia4 (1000) 25 (v80)) (1000) 32 = Ia4 (1000) 32 from by simp [u2_v]))
              refine m_callv (m_runV (1000) (As := []) (rest := []) hx hb hml hown hts hE hM hS hA ce_X10_term tb_1539 (V_X10_term l D A ad ns (u2 Ia4 (1000) 25 (v80)) La4 G hJ hI (by omega)) rfl rfl ⟨Nat.le_of_ble_eq_true rfl, Nat.le_of_ble_eq_true rfl⟩ hJ.1 rfl rfl (by decide) rfl hl.1 rfl (Nat.le_of_ble_eq_true rfl) dX10_sum_55 ⟨Nat.le_of_ble_eq_true rfl, Nat.le_of_ble_eq_true rfl⟩) hS (fun u H locs hw hM hS => ?_)
              obtain ⟨I89, L90, rfl, hI, hkI89, xI89⟩ := hw
              have hM : Mem D A ad ns I89 L90 G H := hM
              have hK := hK.trans hkI89 rfl
              have hC := CT.link (I2 := (u2 Ia4 (1000) 25 (v80))) hC ((show (u2 Ia4 (1000) 25 (v80)) 1035 = Ia4 1035 from by funext zz; simp [u2_v])) ((show (u2 Ia4 (1000) 25 (v80)) 1036 = Ia4 1036 from by funext zz; simp [u2_v])) (by omega) (by omega)
              have pw91 : (I89 (1000) 24).toInt = (Ia4 (1000) 24 : Int32).toInt := congrArg Int32.toInt (((hkI89.get (1000) 24 rfl)).trans (show (u2 Ia4 (1000) 25 (v80)) (1000) 24 = Ia4 (1000) 24 from by simp [u2_v]))
              have pw92 : (I89 (1000) 27).toInt = (Ia4 (1000) 27 : Int32).toInt := congrArg Int32.toInt (((hkI89.get (1000) 27 rfl)).trans (show (u2 Ia4 (1000) 25 (v80)) (1000) 27 = Ia4 (1000) 27 from by simp [u2_v]))
              have pw93 : (I89 (1000) 32).toInt = (Ia4 (1000) 32 : Int32).toInt := congrArg Int32.toInt (((hkI89.get (1000) 32 rfl)).trans (show (u2 Ia4 (1000) 25 (v80)) (1000) 32 = Ia4 (1000) 32 from by simp [u2_v]))
              have g94 := hI0.get 1000 27 (lo := 0) (hi := 5) rfl
              have g95 := hI0.get 1000 29 (lo := 0) (hi := 300) rfl
              have hC := hC.comp ((xI89.2.2.2.2.2).mono0 (1)) (by omega) (by omega) (by omega) (by omega) (by omega)
              refine lv_aload_n hx hb dX10_sum_58 rfl (lv_at hl 1 rfl) ?_
              refine lv_iload_n hx hb dX10_sum_59 rfl (lv_at hl 0 rfl) ?_
              refine lv_iconst (v := (0)) hx hb dX10_sum_60 (by decide) ?_
              refine m_callv (m_runV (1000) (As := [.int (3), .int (0)]) (rest := []) hx hb hml hown hts hE hM hS hA ce_X10_entry tb_1552 (V_X10_entry l D A ad ns I89 L90 G (3) (0) hJ hI (by omega)) rfl rfl ⟨Nat.le_of_ble_eq_true rfl, Nat.le_of_ble_eq_true rfl⟩ hJ.1 rfl rfl (by decide) rfl hl.1 rfl (Nat.le_of_ble_eq_true rfl) dX10_sum_61 ⟨Nat.le_of_ble_eq_true rfl, Nat.le_of_ble_eq_true rfl⟩) hS (fun u H locs hw hM hS => ?_)
              obtain ⟨I96, L97, rfl, hI, hkI96, xI96⟩ := hw
              have hM : Mem D A ad ns I96 L97 G H := hM
              have hK := hK.trans hkI96 rfl
              have pw98 : (I96 (1000) 24).toInt = (Ia4 (1000) 24 : Int32).toInt := congrArg Int32.toInt ((((hkI96.get (1000) 24 rfl)).trans (hkI89.get (1000) 24 rfl)).trans (show (u2 Ia4 (1000) 25 (v80)) (1000) 24 = Ia4 (1000) 24 from by simp [u2_v]))
              have pw99 : (I96 (1000) 25).toInt = (I89 (1000) 25 : Int32).toInt := congrArg Int32.toInt ((hkI96.get (1000) 25 rfl))
              have pw100 : (I96 (1000) 26).toInt = (I89 (1000) 26 : Int32).toInt := congrArg Int32.toInt ((hkI96.get (1000) 26 rfl))
              have pw101 : (I96 (1000) 27).toInt = (Ia4 (1000) 27 : Int32).toInt := congrArg Int32.toInt ((((hkI96.get (1000) 27 rfl)).trans (hkI89.get (1000) 27 rfl)).trans (show (u2 Ia4 (1000) 25 (v80)) (1000) 27 = Ia4 (1000) 27 from by simp [u2_v]))
              have pw102 : (I96 (1000) 31).toInt = (I89 (1000) 31 : Int32).toInt := congrArg Int32.toInt ((hkI96.get (1000) 31 rfl))
              have pw103 : (I96 (1000) 32).toInt = (Ia4 (1000) 32 : Int32).toInt := congrArg Int32.toInt ((((hkI96.get (1000) 32 rfl)).trans (hkI89.get (1000) 32 rfl)).trans (show (u2 Ia4 (1000) 25 (v80)) (1000) 32 = Ia4 (1000) 32 from by simp [u2_v]))
              have g104 := hI0.get 1000 27 (lo := 0) (hi := 5) rfl
              have g105 := hI0.get 1000 29 (lo := 0) (hi := 300) rfl
              have hC := hC.comp (n2 := 1) (xI96.2.2.ct (by omega) (by omega) (by omega) (by omega)) (by omega) (by omega) (by omega) (by omega) (by omega)
              refine lv_goto (tgt := 4) hx hb dX10_sum_64 (by decide) ?_
              exact ih4  I96 L97 _ _ ls hI hK (by omega) (by simpa using hC) (by omega) hM hS (lv_sub hl [1] rfl)
            · have hc78 := c78
              have q78 := q_eq hc78
              refine lv_iconst (v := (2)) hx hb dX10_sum_38 (by decide) ?_
              refine lv_goto (tgt := 43) hx hb dX10_sum_39 (by decide) ?_
              refine lv_istore_n (lv' := [(1, .int (2)), (0, .ref (ad (1000)))]) hx hb dX10_sum_43 rfl hl (by decide) rfl (fun ls hl => ?_)
              refine lv_aload_n hx hb dX10_sum_44 rfl (lv_at hl 1 rfl) ?_
              refine lv_dup hx hb dX10_sum_45 rfl ?_
              refine m_geti (1000) 25 hx hb hts hown hE oc10 hM hJ.1 rfl (by decide) rfl tb_1202 dX10_sum_46 ?_
              have g106 := hI.get (1000) 25 (lo := 0) (hi := 100000) rfl
              refine lv_iconst (v := (1)) hx hb dX10_sum_49 (by decide) ?_
              refine lv_iadd hx hb dX10_sum_50 ?_
              refine lv_topi (fun v107 ev107 => ?_)
              have tv107 := a_add ev107 (by omega) (by omega)
              refine m_puti (1000) 25 hx hb hts hown hE oc10 hM hS hJ.1 rfl (by decide) rfl rfl rfl rfl tb_1202 dX10_sum_51 (fun H locs I108 eI108 hM hS => ?_)
              subst eI108
              have hI := hI.put (n := 1000) (k := 25) (v := v107) (lo := 0) (hi := 100000) rfl (by first | omega | decide)
              have hK := hK.put (n := 1000) (k := 25) (v := v107) (by first | rfl | simp [inR])
              refine lv_aload_n hx hb dX10_sum_54 rfl (lv_at hl 1 rfl) ?_
              have pw109 : ((u2 Ia4 (1000) 25 (v107)) (1000) 24).toInt = (Ia4 (1000) 24 : Int32).toInt := congrArg Int32.toInt ((show (u2 Ia4 (1000) 25 (v107)) (1000) 24 = Ia4 (1000) 24 from by simp [u2_v]))
              have pw110 : ((u2 Ia4 (1000) 25 (v107)) (1000) 25).toInt = (v107 : Int32).toInt := congrArg Int32.toInt ((show (u2 Ia4 (1000) 25 (v107)) (1000) 25 = v107 from by simp [u2_v]))
              have pw111 : ((u2 Ia4 (1000) 25 (v107)) (1000) 26).toInt = (Ia4 (1000) 26 : Int32).toInt := congrArg Int32.toInt ((show (u2 Ia4 (1000) 25 (v107)) (1000) 26 = Ia4 (1000) 26 from by simp [u2_v]))
              have pw112 : ((u2 Ia4 (1000) 25 (v107)) (1000) 27).toInt = (Ia4 (1000) 27 : Int32).toInt := congrArg Int32.toInt ((show (u2 Ia4 (1000) 25 (v107)) (1000) 27 = Ia4 (1000) 27 from by simp [u2_v]))
              have pw113 : ((u2 Ia4 (1000) 25 (v107)) (1000) 29).toInt = (Ia4 (1000) 29 : Int32).toInt := congrArg Int32.toInt ((show (u2 Ia4 (1000) 25 (v107)) (1000) 29 = Ia4 (1000) 29 from by simp [u2_v]))
              have pw114 : ((u2 Ia4 (1000) 25 (v107)) (1000) 31).toInt = (Ia4 (1000) 31 : Int32).toInt := congrArg Int32.toInt ((show (u2 Ia4 (1000) 25 (v107)) (1000) 31 = Ia4 (1000) 31 from by simp [u2_v]))
              have pw115 : ((u2 Ia4 (1000) 25 (v107)) (1000) 32).toInt = (Ia4 (1000) 32 : Int32).toInt := congrArg Int32.toInt ((show (u2 Ia4 (1000) 25 (v107)) (1000) 32 = Ia4 (1000) 32 from by simp [u2_v]))
              refine m_callv (m_runV (1000) (As := []) (rest := []) hx hb hml hown hts hE hM hS hA ce_X10_term tb_1539 (V_X10_term l D A ad ns (u2 Ia4 (1000) 25 (v107)) La4 G hJ hI (by omega)) rfl rfl ⟨Nat.le_of_ble_eq_true rfl, Nat.le_of_ble_eq_true rfl⟩ hJ.1 rfl rfl (by decide) rfl hl.1 rfl (Nat.le_of_ble_eq_true rfl) dX10_sum_55 ⟨Nat.le_of_ble_eq_true rfl, Nat.le_of_ble_eq_true rfl⟩) hS (fun u H locs hw hM hS => ?_)
              obtain ⟨I116, L117, rfl, hI, hkI116, xI116⟩ := hw
              have hM : Mem D A ad ns I116 L117 G H := hM
              have hK := hK.trans hkI116 rfl
              have hC := CT.link (I2 := (u2 Ia4 (1000) 25 (v107))) hC ((show (u2 Ia4 (1000) 25 (v107)) 1035 = Ia4 1035 from by funext zz; simp [u2_v])) ((show (u2 Ia4 (1000) 25 (v107)) 1036 = Ia4 1036 from by funext zz; simp [u2_v])) (by omega) (by omega)
              have pw118 : (I116 (1000) 24).toInt = (Ia4 (1000) 24 : Int32).toInt := congrArg Int32.toInt (((hkI116.get (1000) 24 rfl)).trans (show (u2 Ia4 (1000) 25 (v107)) (1000) 24 = Ia4 (1000) 24 from by simp [u2_v]))
              have pw119 : (I116 (1000) 27).toInt = (Ia4 (1000) 27 : Int32).toInt := congrArg Int32.toInt (((hkI116.get (1000) 27 rfl)).trans (show (u2 Ia4 (1000) 25 (v107)) (1000) 27 = Ia4 (1000) 27 from by simp [u2_v]))
              have pw120 : (I116 (1000) 32).toInt = (Ia4 (1000) 32 : Int32).toInt := congrArg Int32.toInt (((hkI116.get (1000) 32 rfl)).trans (show (u2 Ia4 (1000) 25 (v107)) (1000) 32 = Ia4 (1000) 32 from by simp [u2_v]))
              have g121 := hI0.get 1000 27 (lo := 0) (hi := 5) rfl
              have g122 := hI0.get 1000 29 (lo := 0) (hi := 300) rfl
              have hC := hC.comp ((xI116.2.2.2.2.2).mono0 (1)) (by omega) (by omega) (by omega) (by omega) (by omega)
              refine lv_aload_n hx hb dX10_sum_58 rfl (lv_at hl 1 rfl) ?_
              refine lv_iload_n hx hb dX10_sum_59 rfl (lv_at hl 0 rfl) ?_
              refine lv_iconst (v := (0)) hx hb dX10_sum_60 (by decide) ?_
              refine m_callv (m_runV (1000) (As := [.int (2), .int (0)]) (rest := []) hx hb hml hown hts hE hM hS hA ce_X10_entry tb_1552 (V_X10_entry l D A ad ns I116 L117 G (2) (0) hJ hI (by omega)) rfl rfl ⟨Nat.le_of_ble_eq_true rfl, Nat.le_of_ble_eq_true rfl⟩ hJ.1 rfl rfl (by decide) rfl hl.1 rfl (Nat.le_of_ble_eq_true rfl) dX10_sum_61 ⟨Nat.le_of_ble_eq_true rfl, Nat.le_of_ble_eq_true rfl⟩) hS (fun u H locs hw hM hS => ?_)
              obtain ⟨I123, L124, rfl, hI, hkI123, xI123⟩ := hw
              have hM : Mem D A ad ns I123 L124 G H := hM
              have hK := hK.trans hkI123 rfl
              have pw125 : (I123 (1000) 24).toInt = (Ia4 (1000) 24 : Int32).toInt := congrArg Int32.toInt ((((hkI123.get (1000) 24 rfl)).trans (hkI116.get (1000) 24 rfl)).trans (show (u2 Ia4 (1000) 25 (v107)) (1000) 24 = Ia4 (1000) 24 from by simp [u2_v]))
              have pw126 : (I123 (1000) 25).toInt = (I116 (1000) 25 : Int32).toInt := congrArg Int32.toInt ((hkI123.get (1000) 25 rfl))
              have pw127 : (I123 (1000) 26).toInt = (I116 (1000) 26 : Int32).toInt := congrArg Int32.toInt ((hkI123.get (1000) 26 rfl))
              have pw128 : (I123 (1000) 27).toInt = (Ia4 (1000) 27 : Int32).toInt := congrArg Int32.toInt ((((hkI123.get (1000) 27 rfl)).trans (hkI116.get (1000) 27 rfl)).trans (show (u2 Ia4 (1000) 25 (v107)) (1000) 27 = Ia4 (1000) 27 from by simp [u2_v]))
              have pw129 : (I123 (1000) 31).toInt = (I116 (1000) 31 : Int32).toInt := congrArg Int32.toInt ((hkI123.get (1000) 31 rfl))
              have pw130 : (I123 (1000) 32).toInt = (Ia4 (1000) 32 : Int32).toInt := congrArg Int32.toInt ((((hkI123.get (1000) 32 rfl)).trans (hkI116.get (1000) 32 rfl)).trans (show (u2 Ia4 (1000) 25 (v107)) (1000) 32 = Ia4 (1000) 32 from by simp [u2_v]))
              have g131 := hI0.get 1000 27 (lo := 0) (hi := 5) rfl
              have g132 := hI0.get 1000 29 (lo := 0) (hi := 300) rfl
              have hC := hC.comp (n2 := 1) (xI123.2.2.ct (by omega) (by omega) (by omega) (by omega)) (by omega) (by omega) (by omega) (by omega) (by omega)
              refine lv_goto (tgt := 4) hx hb dX10_sum_64 (by decide) ?_
              exact ih4  I123 L124 _ _ ls hI hK (by omega) (by simpa using hC) (by omega) hM hS (lv_sub hl [1] rfl)
  exact loop4 (_ + 1)  I1 L2 _ _ ls hI hK (by omega) (by simpa using hC) (Nat.lt_succ_self _) hM hS (lv_sub hl [0] rfl)
theorem dX10_compared_0 : decode cX10_compared 0 = .ok (.aload_n 0, 1) := by decide +kernel
theorem dX10_compared_1 : decode cX10_compared 1 = .ok (.invokevirtual 331, 3) := by decide +kernel
theorem dX10_compared_4 : decode cX10_compared 4 = .ok (.aload_n 0, 1) := by decide +kernel
theorem dX10_compared_5 : decode cX10_compared 5 = .ok (.invokevirtual 270, 3) := by decide +kernel
theorem dX10_compared_8 : decode cX10_compared 8 = .ok (.istore_n 1, 1) := by decide +kernel
theorem dX10_compared_9 : decode cX10_compared 9 = .ok (.iload_n 1, 1) := by decide +kernel
theorem dX10_compared_10 : decode cX10_compared 10 = .ok (.bipush 60, 2) := by decide +kernel
theorem dX10_compared_12 : decode cX10_compared 12 = .ok (.if_icmp .eq 25, 3) := by decide +kernel
theorem dX10_compared_15 : decode cX10_compared 15 = .ok (.iload_n 1, 1) := by decide +kernel
theorem dX10_compared_16 : decode cX10_compared 16 = .ok (.bipush 61, 2) := by decide +kernel
theorem dX10_compared_18 : decode cX10_compared 18 = .ok (.if_icmp .eq 19, 3) := by decide +kernel
theorem dX10_compared_21 : decode cX10_compared 21 = .ok (.iload_n 1, 1) := by decide +kernel
theorem dX10_compared_22 : decode cX10_compared 22 = .ok (.bipush 62, 2) := by decide +kernel
theorem dX10_compared_24 : decode cX10_compared 24 = .ok (.if_icmp .eq 13, 3) := by decide +kernel
theorem dX10_compared_27 : decode cX10_compared 27 = .ok (.aload_n 0, 1) := by decide +kernel
theorem dX10_compared_28 : decode cX10_compared 28 = .ok (.iconst 0, 1) := by decide +kernel
theorem dX10_compared_29 : decode cX10_compared 29 = .ok (.aload_n 0, 1) := by decide +kernel
theorem dX10_compared_30 : decode cX10_compared 30 = .ok (.getfield 267, 3) := by decide +kernel
theorem dX10_compared_33 : decode cX10_compared 33 = .ok (.invokevirtual 303, 3) := by decide +kernel
theorem dX10_compared_36 : decode cX10_compared 36 = .ok (.return_, 1) := by decide +kernel
theorem dX10_compared_37 : decode cX10_compared 37 = .ok (.aload_n 0, 1) := by decide +kernel
theorem dX10_compared_38 : decode cX10_compared 38 = .ok (.aload_n 0, 1) := by decide +kernel
theorem dX10_compared_39 : decode cX10_compared 39 = .ok (.getfield 267, 3) := by decide +kernel
theorem dX10_compared_42 : decode cX10_compared 42 = .ok (.invokevirtual 315, 3) := by decide +kernel
theorem dX10_compared_45 : decode cX10_compared 45 = .ok (.aload_n 0, 1) := by decide +kernel
theorem dX10_compared_46 : decode cX10_compared 46 = .ok (.dup, 1) := by decide +kernel
theorem dX10_compared_47 : decode cX10_compared 47 = .ok (.getfield 267, 3) := by decide +kernel
theorem dX10_compared_50 : decode cX10_compared 50 = .ok (.iconst 1, 1) := by decide +kernel
theorem dX10_compared_51 : decode cX10_compared 51 = .ok (.iadd, 1) := by decide +kernel
theorem dX10_compared_52 : decode cX10_compared 52 = .ok (.putfield 267, 3) := by decide +kernel
theorem dX10_compared_55 : decode cX10_compared 55 = .ok (.iload_n 1, 1) := by decide +kernel
theorem dX10_compared_56 : decode cX10_compared 56 = .ok (.bipush 61, 2) := by decide +kernel
theorem dX10_compared_58 : decode cX10_compared 58 = .ok (.if_icmp .eq 16, 3) := by decide +kernel
theorem dX10_compared_61 : decode cX10_compared 61 = .ok (.aload_n 0, 1) := by decide +kernel
theorem dX10_compared_62 : decode cX10_compared 62 = .ok (.invokevirtual 270, 3) := by decide +kernel
theorem dX10_compared_65 : decode cX10_compared 65 = .ok (.bipush 61, 2) := by decide +kernel
theorem dX10_compared_67 : decode cX10_compared 67 = .ok (.if_icmp .ne 7, 3) := by decide +kernel
theorem dX10_compared_70 : decode cX10_compared 70 = .ok (.iconst 1, 1) := by decide +kernel
theorem dX10_compared_71 : decode cX10_compared 71 = .ok (.goto 4, 3) := by decide +kernel
theorem dX10_compared_74 : decode cX10_compared 74 = .ok (.iconst 0, 1) := by decide +kernel
theorem dX10_compared_75 : decode cX10_compared 75 = .ok (.istore_n 2, 1) := by decide +kernel
theorem dX10_compared_76 : decode cX10_compared 76 = .ok (.aload_n 0, 1) := by decide +kernel
theorem dX10_compared_77 : decode cX10_compared 77 = .ok (.dup, 1) := by decide +kernel
theorem dX10_compared_78 : decode cX10_compared 78 = .ok (.getfield 267, 3) := by decide +kernel
theorem dX10_compared_81 : decode cX10_compared 81 = .ok (.iload_n 2, 1) := by decide +kernel
theorem dX10_compared_82 : decode cX10_compared 82 = .ok (.ifCond .eq 7, 3) := by decide +kernel
theorem dX10_compared_85 : decode cX10_compared 85 = .ok (.iconst 1, 1) := by decide +kernel
theorem dX10_compared_86 : decode cX10_compared 86 = .ok (.goto 4, 3) := by decide +kernel
theorem dX10_compared_89 : decode cX10_compared 89 = .ok (.iconst 0, 1) := by decide +kernel
theorem dX10_compared_90 : decode cX10_compared 90 = .ok (.iadd, 1) := by decide +kernel
theorem dX10_compared_91 : decode cX10_compared 91 = .ok (.putfield 267, 3) := by decide +kernel
theorem dX10_compared_94 : decode cX10_compared 94 = .ok (.aload_n 0, 1) := by decide +kernel
theorem dX10_compared_95 : decode cX10_compared 95 = .ok (.invokevirtual 331, 3) := by decide +kernel
theorem dX10_compared_98 : decode cX10_compared 98 = .ok (.aload_n 0, 1) := by decide +kernel
theorem dX10_compared_99 : decode cX10_compared 99 = .ok (.iload_n 1, 1) := by decide +kernel
theorem dX10_compared_100 : decode cX10_compared 100 = .ok (.bipush 61, 2) := by decide +kernel
theorem dX10_compared_102 : decode cX10_compared 102 = .ok (.if_icmp .ne 8, 3) := by decide +kernel
theorem dX10_compared_105 : decode cX10_compared 105 = .ok (.bipush 6, 2) := by decide +kernel
theorem dX10_compared_107 : decode cX10_compared 107 = .ok (.goto 32, 3) := by decide +kernel
theorem dX10_compared_110 : decode cX10_compared 110 = .ok (.iload_n 1, 1) := by decide +kernel
theorem dX10_compared_111 : decode cX10_compared 111 = .ok (.bipush 60, 2) := by decide +kernel
theorem dX10_compared_113 : decode cX10_compared 113 = .ok (.if_icmp .ne 15, 3) := by decide +kernel
theorem dX10_compared_116 : decode cX10_compared 116 = .ok (.iload_n 2, 1) := by decide +kernel
theorem dX10_compared_117 : decode cX10_compared 117 = .ok (.ifCond .eq 7, 3) := by decide +kernel
theorem dX10_compared_120 : decode cX10_compared 120 = .ok (.iconst 5, 1) := by decide +kernel
theorem dX10_compared_121 : decode cX10_compared 121 = .ok (.goto 18, 3) := by decide +kernel
theorem dX10_compared_124 : decode cX10_compared 124 = .ok (.iconst 4, 1) := by decide +kernel
theorem dX10_compared_125 : decode cX10_compared 125 = .ok (.goto 14, 3) := by decide +kernel
theorem dX10_compared_128 : decode cX10_compared 128 = .ok (.iload_n 2, 1) := by decide +kernel
theorem dX10_compared_129 : decode cX10_compared 129 = .ok (.ifCond .eq 8, 3) := by decide +kernel
theorem dX10_compared_132 : decode cX10_compared 132 = .ok (.bipush 7, 2) := by decide +kernel
theorem dX10_compared_134 : decode cX10_compared 134 = .ok (.goto 5, 3) := by decide +kernel
theorem dX10_compared_137 : decode cX10_compared 137 = .ok (.bipush 8, 2) := by decide +kernel
theorem dX10_compared_139 : decode cX10_compared 139 = .ok (.iconst 0, 1) := by decide +kernel
theorem dX10_compared_140 : decode cX10_compared 140 = .ok (.invokevirtual 318, 3) := by decide +kernel
theorem dX10_compared_143 : decode cX10_compared 143 = .ok (.return_, 1) := by decide +kernel
theorem ce_X10_compared : CeV RX10 yX10_compared cX10_compared 3 none 0 := ⟨tb_1592, tp_77, tb_11, tb_1593, rfl, by decide, by decide, by decide +kernel⟩
set_option maxHeartbeats 4000000 in
set_option maxRecDepth 20000 in
theorem V_X10_compared (l : Launch) (D : va_G) (A : Nat → Prop) (ad : Nat → Nat) (ns : List Nat) (I : MI) (L : ML) (G : MG) (hJ : SGM ns G) (hI : INV I) (hPI : (I 1000 26).toInt = 0 → 0 ≤ (I 1000 31).toInt ∧ (I 1000 31).toInt ≤ 60 ∧ 3 * (I 1000 29).toInt ≤ 6 * (I 1000 31).toInt + (I 1000 25).toInt ∧ (I 1000 25).toInt ≤ 400) : Met l yX10_compared (wd yX10_compared cX10_compared 3 none) ({ frames := 8, cells := 0, slots := 0, locals := 173 }) (va_Pc [.ref (ad (1000))] (PM D A ad ns I L G)) (va_Qv (fun u => ∃ I2 L2, u = (ad, ns, I2, L2, G) ∧ INV I2 ∧ Kp [(1035, 1037)] [(1000, 25), (1000, 26), (1000, 29), (1000, 31)] I I2 ∧ ((I 1000 25).toInt ≤ (I2 1000 25).toInt ∧ ((I2 1000 25).toInt = (I 1000 25).toInt ∨ (I2 1000 25).toInt ≤ 400) ∧ ((I2 1000 26).toInt = 0 → (I 1000 26).toInt = 0) ∧ (I 1000 29).toInt ≤ (I2 1000 29).toInt ∧ ((I2 1000 26).toInt = 0 → 0 ≤ (I2 1000 31).toInt ∧ (I2 1000 31).toInt ≤ 60 ∧ (I2 1000 29).toInt + 3 ≤ (I 1000 29).toInt + 2 * ((I2 1000 31).toInt - (I 1000 31).toInt)) ∧ CT I I2 0 1)) (BM D A) A) 0 0 A := by
  refine m_ofW (by decide) (Nat.le_of_ble_eq_true rfl) ?_
  intro p e s m below meth c ls args hC hE hM hA hS hl
  obtain ⟨hx, hb, hml, hown, hts, hr, hlocks, hin⟩ := hC
  have k0 : (0 : Int32).toInt = 0 := by decide
  have k1 : (1 : Int32).toInt = 1 := by decide
  have k4 : (4 : Int32).toInt = 4 := by decide
  have k5 : (5 : Int32).toInt = 5 := by decide
  have k6 : (6 : Int32).toInt = 6 := by decide
  have k7 : (7 : Int32).toInt = 7 := by decide
  have k8 : (8 : Int32).toInt = 8 := by decide
  have k60 : (60 : Int32).toInt = 60 := by decide
  have k61 : (61 : Int32).toInt = 61 := by decide
  have k62 : (62 : Int32).toInt = 62 := by decide
  have hC := CT.rf I 0
  have hI0 := hI
  have hK : Kp [(1035, 1037)] [(1000, 25), (1000, 26), (1000, 29), (1000, 31)] I I := Kp.rf
  have hl : lv_has ls 3 [(0, .ref (ad (1000)))] := hl
  refine lv_aload_n hx hb dX10_compared_0 rfl (lv_at hl 0 rfl) ?_
  refine m_callv (m_runV (1000) (As := []) (rest := []) hx hb hml hown hts hE hM hS hA ce_X10_sum tb_1535 (V_X10_sum l D A ad ns I L G hJ hI (by omega)) rfl rfl ⟨Nat.le_of_ble_eq_true rfl, Nat.le_of_ble_eq_true rfl⟩ hJ.1 rfl rfl (by decide) rfl hl.1 rfl (Nat.le_of_ble_eq_true rfl) dX10_compared_1 ⟨Nat.le_of_ble_eq_true rfl, Nat.le_of_ble_eq_true rfl⟩) hS (fun u H locs hw hM hS => ?_)
  obtain ⟨I1, L2, rfl, hI, hkI1, xI1⟩ := hw
  have hM : Mem D A ad ns I1 L2 G H := hM
  have hK := hK.trans hkI1 rfl
  have pw3 : (I1 (1000) 24).toInt = (I (1000) 24 : Int32).toInt := congrArg Int32.toInt ((hkI1.get (1000) 24 rfl))
  have pw4 : (I1 (1000) 27).toInt = (I (1000) 27 : Int32).toInt := congrArg Int32.toInt ((hkI1.get (1000) 27 rfl))
  have pw5 : (I1 (1000) 32).toInt = (I (1000) 32 : Int32).toInt := congrArg Int32.toInt ((hkI1.get (1000) 32 rfl))
  have g6 := hI0.get 1000 27 (lo := 0) (hi := 5) rfl
  have g7 := hI0.get 1000 29 (lo := 0) (hi := 300) rfl
  have hC := hC.comp ((xI1.2.2.2.2.2).mono0 (0)) (by omega) (by omega) (by omega) (by omega) (by omega)
  refine lv_aload_n hx hb dX10_compared_4 rfl (lv_at hl 0 rfl) ?_
  refine m_calli (m_runV (1000) (As := []) (rest := []) hx hb hml hown hts hE hM hS hA ce_X10_sign tb_1510 (V_X10_sign l D A ad ns I1 L2 G hJ hI) rfl rfl ⟨Nat.le_of_ble_eq_true rfl, Nat.le_of_ble_eq_true rfl⟩ hJ.1 rfl rfl (by decide) rfl hl.1 rfl (Nat.le_of_ble_eq_true rfl) dX10_compared_5 ⟨Nat.le_of_ble_eq_true rfl, Nat.le_of_ble_eq_true rfl⟩) hS (fun r8 u H locs hw hM hS => ?_)
  obtain ⟨rfl, xr8⟩ := hw
  have hM : Mem D A ad ns I1 L2 G H := hM
  have g9 := hI.get 1000 24 (lo := 0) (hi := 400) rfl
  have g10 := hI.get 1000 25 (lo := 0) (hi := 100000) rfl
  refine lv_istore_n (lv' := [(1, .int (r8)), (0, .ref (ad (1000)))]) hx hb dX10_compared_8 rfl hl (by decide) rfl (fun ls hl => ?_)
  refine lv_iload_n hx hb dX10_compared_9 rfl (lv_at hl 0 rfl) ?_
  refine lv_bipush (v := (60)) hx hb dX10_compared_10 (by decide) ?_
  refine lv_icmp_eq (tgt := 37) hx hb dX10_compared_12 (by decide) (fun c11 => ?_) (fun c11 => ?_)
  · have hc11 := c11
    have q11 := q_eq hc11
    refine lv_aload_n hx hb dX10_compared_37 rfl (lv_at hl 1 rfl) ?_
    refine lv_aload_n hx hb dX10_compared_38 rfl (lv_at hl 1 rfl) ?_
    refine m_geti (1000) 25 hx hb hts hown hE oc10 hM hJ.1 rfl (by decide) rfl tb_1202 dX10_compared_39 ?_
    have g12 := hI.get (1000) 25 (lo := 0) (hi := 100000) rfl
    refine m_callv (m_runV (1000) (As := [.int (I1 (1000) 25)]) (rest := []) hx hb hml hown hts hE hM hS hA ce_X10_isCounted tb_1548 (V_X10_isCounted l D A ad ns I1 L2 G (I1 (1000) 25) hJ hI (by omega) (by first | omega | decide)) rfl rfl ⟨Nat.le_of_ble_eq_true rfl, Nat.le_of_ble_eq_true rfl⟩ hJ.1 rfl rfl (by decide) rfl hl.1 rfl (Nat.le_of_ble_eq_true rfl) dX10_compared_42 ⟨Nat.le_of_ble_eq_true rfl, Nat.le_of_ble_eq_true rfl⟩) hS (fun u H locs hw hM hS => ?_)
    obtain ⟨I13, L14, rfl, hI, hkI13, xI13⟩ := hw
    have hM : Mem D A ad ns I13 L14 G H := hM
    have hK := hK.trans hkI13 rfl
    have pw15 : (I13 (1000) 24).toInt = (I (1000) 24 : Int32).toInt := congrArg Int32.toInt (((hkI13.get (1000) 24 rfl)).trans (hkI1.get (1000) 24 rfl))
    have pw16 : (I13 (1000) 25).toInt = (I1 (1000) 25 : Int32).toInt := congrArg Int32.toInt ((hkI13.get (1000) 25 rfl))
    have pw17 : (I13 (1000) 27).toInt = (I (1000) 27 : Int32).toInt := congrArg Int32.toInt (((hkI13.get (1000) 27 rfl)).trans (hkI1.get (1000) 27 rfl))
    have pw18 : (I13 (1000) 29).toInt = (I1 (1000) 29 : Int32).toInt := congrArg Int32.toInt ((hkI13.get (1000) 29 rfl))
    have pw19 : (I13 (1000) 32).toInt = (I (1000) 32 : Int32).toInt := congrArg Int32.toInt (((hkI13.get (1000) 32 rfl)).trans (hkI1.get (1000) 32 rfl))
    refine lv_aload_n hx hb dX10_compared_45 rfl (lv_at hl 1 rfl) ?_
    refine lv_dup hx hb dX10_compared_46 rfl ?_
    refine m_geti (1000) 25 hx hb hts hown hE oc10 hM hJ.1 rfl (by decide) rfl tb_1202 dX10_compared_47 ?_
    have g20 := hI.get (1000) 25 (lo := 0) (hi := 100000) rfl
    have z21 : I13 (1000) 25 = I1 (1000) 25 := (hkI13.get (1000) 25 rfl)
    rw [z21] at g20 ⊢
    refine lv_iconst (v := (1)) hx hb dX10_compared_50 (by decide) ?_
    refine lv_iadd hx hb dX10_compared_51 ?_
    refine lv_topi (fun v22 ev22 => ?_)
    have tv22 := a_add ev22 (by omega) (by omega)
    refine m_puti (1000) 25 hx hb hts hown hE oc10 hM hS hJ.1 rfl (by decide) rfl rfl rfl rfl tb_1202 dX10_compared_52 (fun H locs I23 eI23 hM hS => ?_)
    subst eI23
    have hI := hI.put (n := 1000) (k := 25) (v := v22) (lo := 0) (hi := 100000) rfl (by first | omega | decide)
    have hK := hK.put (n := 1000) (k := 25) (v := v22) (by first | rfl | simp [inR])
    refine lv_iload_n hx hb dX10_compared_55 rfl (lv_at hl 0 rfl) ?_
    refine lv_bipush (v := (61)) hx hb dX10_compared_56 (by decide) ?_
    refine lv_icmp_eq (tgt := 74) hx hb dX10_compared_58 (by decide) (fun c24 => ?_) (fun c24 => ?_)
    · have hc24 := c24
      have q24 := q_eq hc24
      refine lv_iconst (v := (0)) hx hb dX10_compared_74 (by decide) ?_
      refine lv_istore_n (lv' := [(2, .int (0)), (1, .int (r8)), (0, .ref (ad (1000)))]) hx hb dX10_compared_75 rfl hl (by decide) rfl (fun ls hl => ?_)
      refine lv_aload_n hx hb dX10_compared_76 rfl (lv_at hl 2 rfl) ?_
      refine lv_dup hx hb dX10_compared_77 rfl ?_
      refine m_geti (1000) 25 hx hb hts hown hE oc10 hM hJ.1 rfl (by decide) rfl tb_1202 dX10_compared_78 ?_
      have g25 := hI.get (1000) 25 (lo := 0) (hi := 100000) rfl
      have z26 : (u2 I13 (1000) 25 (v22)) (1000) 25 = v22 := (show (u2 I13 (1000) 25 (v22)) (1000) 25 = v22 from by simp [u2_v])
      rw [z26] at g25 ⊢
      refine lv_iload_n hx hb dX10_compared_81 rfl (lv_at hl 0 rfl) ?_
      refine lv_if_eq (tgt := 89) hx hb dX10_compared_82 (by decide) (fun c27 => ?_) (fun c27 => ?_)
      · have hc27 := c27
        have q27 := q_eq hc27
        refine lv_iconst (v := (0)) hx hb dX10_compared_89 (by decide) ?_
        refine lv_iadd hx hb dX10_compared_90 ?_
        refine lv_topi (fun v28 ev28 => ?_)
        have tv28 := a_add ev28 (by omega) (by omega)
        refine m_puti (1000) 25 hx hb hts hown hE oc10 hM hS hJ.1 rfl (by decide) rfl rfl rfl rfl tb_1202 dX10_compared_91 (fun H locs I29 eI29 hM hS => ?_)
        subst eI29
        have hI := hI.put (n := 1000) (k := 25) (v := v28) (lo := 0) (hi := 100000) rfl (by first | omega | decide)
        have hK := hK.put (n := 1000) (k := 25) (v := v28) (by first | rfl | simp [inR])
        refine lv_aload_n hx hb dX10_compared_94 rfl (lv_at hl 2 rfl) ?_
        have pw30 : ((u2 (u2 I13 (1000) 25 (v22)) (1000) 25 (v28)) (1000) 24).toInt = (I (1000) 24 : Int32).toInt := congrArg Int32.toInt ((((show (u2 (u2 I13 (1000) 25 (v22)) (1000) 25 (v28)) (1000) 24 = I13 (1000) 24 from by simp [u2_v])).trans (hkI13.get (1000) 24 rfl)).trans (hkI1.get (1000) 24 rfl))
        have pw31 : ((u2 (u2 I13 (1000) 25 (v22)) (1000) 25 (v28)) (1000) 25).toInt = (v28 : Int32).toInt := congrArg Int32.toInt ((show (u2 (u2 I13 (1000) 25 (v22)) (1000) 25 (v28)) (1000) 25 = v28 from by simp [u2_v]))
        have pw32 : ((u2 (u2 I13 (1000) 25 (v22)) (1000) 25 (v28)) (1000) 26).toInt = (I13 (1000) 26 : Int32).toInt := congrArg Int32.toInt ((show (u2 (u2 I13 (1000) 25 (v22)) (1000) 25 (v28)) (1000) 26 = I13 (1000) 26 from by simp [u2_v]))
        have pw33 : ((u2 (u2 I13 (1000) 25 (v22)) (1000) 25 (v28)) (1000) 27).toInt = (I (1000) 27 : Int32).toInt := congrArg Int32.toInt ((((show (u2 (u2 I13 (1000) 25 (v22)) (1000) 25 (v28)) (1000) 27 = I13 (1000) 27 from by simp [u2_v])).trans (hkI13.get (1000) 27 rfl)).trans (hkI1.get (1000) 27 rfl))
        have pw34 : ((u2 (u2 I13 (1000) 25 (v22)) (1000) 25 (v28)) (1000) 29).toInt = (I1 (1000) 29 : Int32).toInt := congrArg Int32.toInt (((show (u2 (u2 I13 (1000) 25 (v22)) (1000) 25 (v28)) (1000) 29 = I13 (1000) 29 from by simp [u2_v])).trans (hkI13.get (1000) 29 rfl))
        have pw35 : ((u2 (u2 I13 (1000) 25 (v22)) (1000) 25 (v28)) (1000) 31).toInt = (I13 (1000) 31 : Int32).toInt := congrArg Int32.toInt ((show (u2 (u2 I13 (1000) 25 (v22)) (1000) 25 (v28)) (1000) 31 = I13 (1000) 31 from by simp [u2_v]))
        have pw36 : ((u2 (u2 I13 (1000) 25 (v22)) (1000) 25 (v28)) (1000) 32).toInt = (I (1000) 32 : Int32).toInt := congrArg Int32.toInt ((((show (u2 (u2 I13 (1000) 25 (v22)) (1000) 25 (v28)) (1000) 32 = I13 (1000) 32 from by simp [u2_v])).trans (hkI13.get (1000) 32 rfl)).trans (hkI1.get (1000) 32 rfl))
        refine m_callv (m_runV (1000) (As := []) (rest := []) hx hb hml hown hts hE hM hS hA ce_X10_sum tb_1535 (V_X10_sum l D A ad ns (u2 (u2 I13 (1000) 25 (v22)) (1000) 25 (v28)) L14 G hJ hI (by omega)) rfl rfl ⟨Nat.le_of_ble_eq_true rfl, Nat.le_of_ble_eq_true rfl⟩ hJ.1 rfl rfl (by decide) rfl hl.1 rfl (Nat.le_of_ble_eq_true rfl) dX10_compared_95 ⟨Nat.le_of_ble_eq_true rfl, Nat.le_of_ble_eq_true rfl⟩) hS (fun u H locs hw hM hS => ?_)
        obtain ⟨I37, L38, rfl, hI, hkI37, xI37⟩ := hw
        have hM : Mem D A ad ns I37 L38 G H := hM
        have hK := hK.trans hkI37 rfl
        have hC := CT.link (I2 := (u2 (u2 I13 (1000) 25 (v22)) (1000) 25 (v28))) hC (((show (u2 (u2 I13 (1000) 25 (v22)) (1000) 25 (v28)) 1035 = I13 1035 from by funext zz; simp [u2_v])).trans (hkI13.getA 1035 rfl)) (((show (u2 (u2 I13 (1000) 25 (v22)) (1000) 25 (v28)) 1036 = I13 1036 from by funext zz; simp [u2_v])).trans (hkI13.getA 1036 rfl)) (by omega) (by omega)
        have pw39 : (I37 (1000) 24).toInt = (I (1000) 24 : Int32).toInt := congrArg Int32.toInt (((((hkI37.get (1000) 24 rfl)).trans (show (u2 (u2 I13 (1000) 25 (v22)) (1000) 25 (v28)) (1000) 24 = I13 (1000) 24 from by simp [u2_v])).trans (hkI13.get (1000) 24 rfl)).trans (hkI1.get (1000) 24 rfl))
        have pw40 : (I37 (1000) 27).toInt = (I (1000) 27 : Int32).toInt := congrArg Int32.toInt (((((hkI37.get (1000) 27 rfl)).trans (show (u2 (u2 I13 (1000) 25 (v22)) (1000) 25 (v28)) (1000) 27 = I13 (1000) 27 from by simp [u2_v])).trans (hkI13.get (1000) 27 rfl)).trans (hkI1.get (1000) 27 rfl))
        have pw41 : (I37 (1000) 32).toInt = (I (1000) 32 : Int32).toInt := congrArg Int32.toInt (((((hkI37.get (1000) 32 rfl)).trans (show (u2 (u2 I13 (1000) 25 (v22)) (1000) 25 (v28)) (1000) 32 = I13 (1000) 32 from by simp [u2_v])).trans (hkI13.get (1000) 32 rfl)).trans (hkI1.get (1000) 32 rfl))
        have g42 := hI0.get 1000 27 (lo := 0) (hi := 5) rfl
        have g43 := hI0.get 1000 29 (lo := 0) (hi := 300) rfl
        have hC := hC.comp ((xI37.2.2.2.2.2).mono0 (1 + (0))) (by omega) (by omega) (by omega) (by omega) (by omega)
        refine lv_aload_n hx hb dX10_compared_98 rfl (lv_at hl 2 rfl) ?_
        refine lv_iload_n hx hb dX10_compared_99 rfl (lv_at hl 1 rfl) ?_
        refine lv_bipush (v := (61)) hx hb dX10_compared_100 (by decide) ?_
        refine lv_icmp_ne (tgt := 110) hx hb dX10_compared_102 (by decide) (fun c44 => ?_) (fun c44 => ?_)
        · have hc44 := c44
          have q44 := q_ne hc44
          refine lv_iload_n hx hb dX10_compared_110 rfl (lv_at hl 1 rfl) ?_
          refine lv_bipush (v := (60)) hx hb dX10_compared_111 (by decide) ?_
          refine lv_icmp_ne (tgt := 128) hx hb dX10_compared_113 (by decide) (fun c45 => ?_) (fun c45 => ?_)
          · have hc45 := c45
            have q45 := q_ne hc45
            refine lv_iload_n hx hb dX10_compared_128 rfl (lv_at hl 0 rfl) ?_
            refine lv_if_eq (tgt := 137) hx hb dX10_compared_129 (by decide) (fun c46 => ?_) (fun c46 => ?_)
            · have hc46 := c46
              have q46 := q_eq hc46
              refine lv_bipush (v := (8)) hx hb dX10_compared_137 (by decide) ?_
              refine lv_iconst (v := (0)) hx hb dX10_compared_139 (by decide) ?_
              refine m_callv (m_runV (1000) (As := [.int (8), .int (0)]) (rest := []) hx hb hml hown hts hE hM hS hA ce_X10_entry tb_1552 (V_X10_entry l D A ad ns I37 L38 G (8) (0) hJ hI (by omega)) rfl rfl ⟨Nat.le_of_ble_eq_true rfl, Nat.le_of_ble_eq_true rfl⟩ hJ.1 rfl rfl (by decide) rfl hl.1 rfl (Nat.le_of_ble_eq_true rfl) dX10_compared_140 ⟨Nat.le_of_ble_eq_true rfl, Nat.le_of_ble_eq_true rfl⟩) hS (fun u H locs hw hM hS => ?_)
              obtain ⟨I47, L48, rfl, hI, hkI47, xI47⟩ := hw
              have hM : Mem D A ad ns I47 L48 G H := hM
              have hK := hK.trans hkI47 rfl
              have pw49 : (I47 (1000) 24).toInt = (I (1000) 24 : Int32).toInt := congrArg Int32.toInt ((((((hkI47.get (1000) 24 rfl)).trans (hkI37.get (1000) 24 rfl)).trans (show (u2 (u2 I13 (1000) 25 (v22)) (1000) 25 (v28)) (1000) 24 = I13 (1000) 24 from by simp [u2_v])).trans (hkI13.get (1000) 24 rfl)).trans (hkI1.get (1000) 24 rfl))
              have pw50 : (I47 (1000) 25).toInt = (I37 (1000) 25 : Int32).toInt := congrArg Int32.toInt ((hkI47.get (1000) 25 rfl))
              have pw51 : (I47 (1000) 26).toInt = (I37 (1000) 26 : Int32).toInt := congrArg Int32.toInt ((hkI47.get (1000) 26 rfl))
              have pw52 : (I47 (1000) 27).toInt = (I (1000) 27 : Int32).toInt := congrArg Int32.toInt ((((((hkI47.get (1000) 27 rfl)).trans (hkI37.get (1000) 27 rfl)).trans (show (u2 (u2 I13 (1000) 25 (v22)) (1000) 25 (v28)) (1000) 27 = I13 (1000) 27 from by simp [u2_v])).trans (hkI13.get (1000) 27 rfl)).trans (hkI1.get (1000) 27 rfl))
              have pw53 : (I47 (1000) 31).toInt = (I37 (1000) 31 : Int32).toInt := congrArg Int32.toInt ((hkI47.get (1000) 31 rfl))
              have pw54 : (I47 (1000) 32).toInt = (I (1000) 32 : Int32).toInt := congrArg Int32.toInt ((((((hkI47.get (1000) 32 rfl)).trans (hkI37.get (1000) 32 rfl)).trans (show (u2 (u2 I13 (1000) 25 (v22)) (1000) 25 (v28)) (1000) 32 = I13 (1000) 32 from by simp [u2_v])).trans (hkI13.get (1000) 32 rfl)).trans (hkI1.get (1000) 32 rfl))
              have g55 := hI0.get 1000 27 (lo := 0) (hi := 5) rfl
              have g56 := hI0.get 1000 29 (lo := 0) (hi := 300) rfl
              have hC := hC.comp (n2 := 1) (xI47.2.2.ct (by omega) (by omega) (by omega) (by omega)) (by omega) (by omega) (by omega) (by omega) (by omega)
              exact m_vret hx hb hr hlocks hM hS (Nat.le_of_ble_eq_true rfl) (Nat.le_of_ble_eq_true rfl) ⟨_, _, rfl, hI, hK, ⟨by omega, by omega, by omega, by omega, by omega, hC⟩⟩ dX10_compared_143
            · exact absurd c46 (by decide)
          · have hc45 := c45
            have q45 := q_eq hc45
            refine lv_iload_n hx hb dX10_compared_116 rfl (lv_at hl 0 rfl) ?_
            refine lv_if_eq (tgt := 124) hx hb dX10_compared_117 (by decide) (fun c57 => ?_) (fun c57 => ?_)
            · have hc57 := c57
              have q57 := q_eq hc57
              refine lv_iconst (v := (4)) hx hb dX10_compared_124 (by decide) ?_
              refine lv_goto (tgt := 139) hx hb dX10_compared_125 (by decide) ?_
              refine lv_iconst (v := (0)) hx hb dX10_compared_139 (by decide) ?_
              refine m_callv (m_runV (1000) (As := [.int (4), .int (0)]) (rest := []) hx hb hml hown hts hE hM hS hA ce_X10_entry tb_1552 (V_X10_entry l D A ad ns I37 L38 G (4) (0) hJ hI (by omega)) rfl rfl ⟨Nat.le_of_ble_eq_true rfl, Nat.le_of_ble_eq_true rfl⟩ hJ.1 rfl rfl (by decide) rfl hl.1 rfl (Nat.le_of_ble_eq_true rfl) dX10_compared_140 ⟨Nat.le_of_ble_eq_true rfl, Nat.le_of_ble_eq_true rfl⟩) hS (fun u H locs hw hM hS => ?_)
              obtain ⟨I58, L59, rfl, hI, hkI58, xI58⟩ := hw
              have hM : Mem D A ad ns I58 L59 G H := hM
              have hK := hK.trans hkI58 rfl
              have pw60 : (I58 (1000) 24).toInt = (I (1000) 24 : Int32).toInt := congrArg Int32.toInt ((((((hkI58.get (1000) 24 rfl)).trans (hkI37.get (1000) 24 rfl)).trans (show (u2 (u2 I13 (1000) 25 (v22)) (1000) 25 (v28)) (1000) 24 = I13 (1000) 24 from by simp [u2_v])).trans (hkI13.get (1000) 24 rfl)).trans (hkI1.get (1000) 24 rfl))
              have pw61 : (I58 (1000) 25).toInt = (I37 (1000) 25 : Int32).toInt := congrArg Int32.toInt ((hkI58.get (1000) 25 rfl))
              have pw62 : (I58 (1000) 26).toInt = (I37 (1000) 26 : Int32).toInt := congrArg Int32.toInt ((hkI58.get (1000) 26 rfl))
              have pw63 : (I58 (1000) 27).toInt = (I (1000) 27 : Int32).toInt := congrArg Int32.toInt ((((((hkI58.get (1000) 27 rfl)).trans (hkI37.get (1000) 27 rfl)).trans (show (u2 (u2 I13 (1000) 25 (v22)) (1000) 25 (v28)) (1000) 27 = I13 (1000) 27 from by simp [u2_v])).trans (hkI13.get (1000) 27 rfl)).trans (hkI1.get (1000) 27 rfl))
              have pw64 : (I58 (1000) 31).toInt = (I37 (1000) 31 : Int32).toInt := congrArg Int32.toInt ((hkI58.get (1000) 31 rfl))
              have pw65 : (I58 (1000) 32).toInt = (I (1000) 32 : Int32).toInt := congrArg Int32.toInt ((((((hkI58.get (1000) 32 rfl)).trans (hkI37.get (1000) 32 rfl)).trans (show (u2 (u2 I13 (1000) 25 (v22)) (1000) 25 (v28)) (1000) 32 = I13 (1000) 32 from by simp [u2_v])).trans (hkI13.get (1000) 32 rfl)).trans (hkI1.get (1000) 32 rfl))
              have g66 := hI0.get 1000 27 (lo := 0) (hi := 5) rfl
              have g67 := hI0.get 1000 29 (lo := 0) (hi := 300) rfl
              have hC := hC.comp (n2 := 1) (xI58.2.2.ct (by omega) (by omega) (by omega) (by omega)) (by omega) (by omega) (by omega) (by omega) (by omega)
              exact m_vret hx hb hr hlocks hM hS (Nat.le_of_ble_eq_true rfl) (Nat.le_of_ble_eq_true rfl) ⟨_, _, rfl, hI, hK, ⟨by omega, by omega, by omega, by omega, by omega, hC⟩⟩ dX10_compared_143
            · exact absurd c57 (by decide)
        · have hc44 := c44
          have q44 := q_eq hc44
          refine lv_bipush (v := (6)) hx hb dX10_compared_105 (by decide) ?_
          refine lv_goto (tgt := 139) hx hb dX10_compared_107 (by decide) ?_
          refine lv_iconst (v := (0)) hx hb dX10_compared_139 (by decide) ?_
          refine m_callv (m_runV (1000) (As := [.int (6), .int (0)]) (rest := []) hx hb hml hown hts hE hM hS hA ce_X10_entry tb_1552 (V_X10_entry l D A ad ns I37 L38 G (6) (0) hJ hI (by omega)) rfl rfl ⟨Nat.le_of_ble_eq_true rfl, Nat.le_of_ble_eq_true rfl⟩ hJ.1 rfl rfl (by decide) rfl hl.1 rfl (Nat.le_of_ble_eq_true rfl) dX10_compared_140 ⟨Nat.le_of_ble_eq_true rfl, Nat.le_of_ble_eq_true rfl⟩) hS (fun u H locs hw hM hS => ?_)
          obtain ⟨I68, L69, rfl, hI, hkI68, xI68⟩ := hw
          have hM : Mem D A ad ns I68 L69 G H := hM
          have hK := hK.trans hkI68 rfl
          have pw70 : (I68 (1000) 24).toInt = (I (1000) 24 : Int32).toInt := congrArg Int32.toInt ((((((hkI68.get (1000) 24 rfl)).trans (hkI37.get (1000) 24 rfl)).trans (show (u2 (u2 I13 (1000) 25 (v22)) (1000) 25 (v28)) (1000) 24 = I13 (1000) 24 from by simp [u2_v])).trans (hkI13.get (1000) 24 rfl)).trans (hkI1.get (1000) 24 rfl))
          have pw71 : (I68 (1000) 25).toInt = (I37 (1000) 25 : Int32).toInt := congrArg Int32.toInt ((hkI68.get (1000) 25 rfl))
          have pw72 : (I68 (1000) 26).toInt = (I37 (1000) 26 : Int32).toInt := congrArg Int32.toInt ((hkI68.get (1000) 26 rfl))
          have pw73 : (I68 (1000) 27).toInt = (I (1000) 27 : Int32).toInt := congrArg Int32.toInt ((((((hkI68.get (1000) 27 rfl)).trans (hkI37.get (1000) 27 rfl)).trans (show (u2 (u2 I13 (1000) 25 (v22)) (1000) 25 (v28)) (1000) 27 = I13 (1000) 27 from by simp [u2_v])).trans (hkI13.get (1000) 27 rfl)).trans (hkI1.get (1000) 27 rfl))
          have pw74 : (I68 (1000) 31).toInt = (I37 (1000) 31 : Int32).toInt := congrArg Int32.toInt ((hkI68.get (1000) 31 rfl))
          have pw75 : (I68 (1000) 32).toInt = (I (1000) 32 : Int32).toInt := congrArg Int32.toInt ((((((hkI68.get (1000) 32 rfl)).trans (hkI37.get (1000) 32 rfl)).trans (show (u2 (u2 I13 (1000) 25 (v22)) (1000) 25 (v28)) (1000) 32 = I13 (1000) 32 from by simp [u2_v])).trans (hkI13.get (1000) 32 rfl)).trans (hkI1.get (1000) 32 rfl))
          have g76 := hI0.get 1000 27 (lo := 0) (hi := 5) rfl
          have g77 := hI0.get 1000 29 (lo := 0) (hi := 300) rfl
          have hC := hC.comp (n2 := 1) (xI68.2.2.ct (by omega) (by omega) (by omega) (by omega)) (by omega) (by omega) (by omega) (by omega) (by omega)
          exact m_vret hx hb hr hlocks hM hS (Nat.le_of_ble_eq_true rfl) (Nat.le_of_ble_eq_true rfl) ⟨_, _, rfl, hI, hK, ⟨by omega, by omega, by omega, by omega, by omega, hC⟩⟩ dX10_compared_143
      · exact absurd c27 (by decide)
    · have hc24 := c24
      have q24 := q_ne hc24
      refine lv_aload_n hx hb dX10_compared_61 rfl (lv_at hl 1 rfl) ?_
      have pw78 : ((u2 I13 (1000) 25 (v22)) (1000) 24).toInt = (I (1000) 24 : Int32).toInt := congrArg Int32.toInt ((((show (u2 I13 (1000) 25 (v22)) (1000) 24 = I13 (1000) 24 from by simp [u2_v])).trans (hkI13.get (1000) 24 rfl)).trans (hkI1.get (1000) 24 rfl))
      have pw79 : ((u2 I13 (1000) 25 (v22)) (1000) 25).toInt = (v22 : Int32).toInt := congrArg Int32.toInt ((show (u2 I13 (1000) 25 (v22)) (1000) 25 = v22 from by simp [u2_v]))
      have pw80 : ((u2 I13 (1000) 25 (v22)) (1000) 26).toInt = (I13 (1000) 26 : Int32).toInt := congrArg Int32.toInt ((show (u2 I13 (1000) 25 (v22)) (1000) 26 = I13 (1000) 26 from by simp [u2_v]))
      have pw81 : ((u2 I13 (1000) 25 (v22)) (1000) 27).toInt = (I (1000) 27 : Int32).toInt := congrArg Int32.toInt ((((show (u2 I13 (1000) 25 (v22)) (1000) 27 = I13 (1000) 27 from by simp [u2_v])).trans (hkI13.get (1000) 27 rfl)).trans (hkI1.get (1000) 27 rfl))
      have pw82 : ((u2 I13 (1000) 25 (v22)) (1000) 29).toInt = (I1 (1000) 29 : Int32).toInt := congrArg Int32.toInt (((show (u2 I13 (1000) 25 (v22)) (1000) 29 = I13 (1000) 29 from by simp [u2_v])).trans (hkI13.get (1000) 29 rfl))
      have pw83 : ((u2 I13 (1000) 25 (v22)) (1000) 31).toInt = (I13 (1000) 31 : Int32).toInt := congrArg Int32.toInt ((show (u2 I13 (1000) 25 (v22)) (1000) 31 = I13 (1000) 31 from by simp [u2_v]))
      have pw84 : ((u2 I13 (1000) 25 (v22)) (1000) 32).toInt = (I (1000) 32 : Int32).toInt := congrArg Int32.toInt ((((show (u2 I13 (1000) 25 (v22)) (1000) 32 = I13 (1000) 32 from by simp [u2_v])).trans (hkI13.get (1000) 32 rfl)).trans (hkI1.get (1000) 32 rfl))
      refine m_calli (m_runV (1000) (As := []) (rest := []) hx hb hml hown hts hE hM hS hA ce_X10_sign tb_1510 (V_X10_sign l D A ad ns (u2 I13 (1000) 25 (v22)) L14 G hJ hI) rfl rfl ⟨Nat.le_of_ble_eq_true rfl, Nat.le_of_ble_eq_true rfl⟩ hJ.1 rfl rfl (by decide) rfl hl.1 rfl (Nat.le_of_ble_eq_true rfl) dX10_compared_62 ⟨Nat.le_of_ble_eq_true rfl, Nat.le_of_ble_eq_true rfl⟩) hS (fun r85 u H locs hw hM hS => ?_)
      obtain ⟨rfl, xr85⟩ := hw
      have hM : Mem D A ad ns (u2 I13 (1000) 25 (v22)) L14 G H := hM
      have g86 := hI.get 1000 24 (lo := 0) (hi := 400) rfl
      have g87 := hI.get 1000 25 (lo := 0) (hi := 100000) rfl
      refine lv_bipush (v := (61)) hx hb dX10_compared_65 (by decide) ?_
      refine lv_icmp_ne (tgt := 74) hx hb dX10_compared_67 (by decide) (fun c88 => ?_) (fun c88 => ?_)
      · have hc88 := c88
        have q88 := q_ne hc88
        refine lv_iconst (v := (0)) hx hb dX10_compared_74 (by decide) ?_
        refine lv_istore_n (lv' := [(2, .int (0)), (1, .int (r8)), (0, .ref (ad (1000)))]) hx hb dX10_compared_75 rfl hl (by decide) rfl (fun ls hl => ?_)
        refine lv_aload_n hx hb dX10_compared_76 rfl (lv_at hl 2 rfl) ?_
        refine lv_dup hx hb dX10_compared_77 rfl ?_
        refine m_geti (1000) 25 hx hb hts hown hE oc10 hM hJ.1 rfl (by decide) rfl tb_1202 dX10_compared_78 ?_
        have g89 := hI.get (1000) 25 (lo := 0) (hi := 100000) rfl
        have z90 : (u2 I13 (1000) 25 (v22)) (1000) 25 = v22 := (show (u2 I13 (1000) 25 (v22)) (1000) 25 = v22 from by simp [u2_v])
        rw [z90] at g89 ⊢
        refine lv_iload_n hx hb dX10_compared_81 rfl (lv_at hl 0 rfl) ?_
        refine lv_if_eq (tgt := 89) hx hb dX10_compared_82 (by decide) (fun c91 => ?_) (fun c91 => ?_)
        · have hc91 := c91
          have q91 := q_eq hc91
          refine lv_iconst (v := (0)) hx hb dX10_compared_89 (by decide) ?_
          refine lv_iadd hx hb dX10_compared_90 ?_
          refine lv_topi (fun v92 ev92 => ?_)
          have tv92 := a_add ev92 (by omega) (by omega)
          refine m_puti (1000) 25 hx hb hts hown hE oc10 hM hS hJ.1 rfl (by decide) rfl rfl rfl rfl tb_1202 dX10_compared_91 (fun H locs I93 eI93 hM hS => ?_)
          subst eI93
          have hI := hI.put (n := 1000) (k := 25) (v := v92) (lo := 0) (hi := 100000) rfl (by first | omega | decide)
          have hK := hK.put (n := 1000) (k := 25) (v := v92) (by first | rfl | simp [inR])
          refine lv_aload_n hx hb dX10_compared_94 rfl (lv_at hl 2 rfl) ?_
          have pw94 : ((u2 (u2 I13 (1000) 25 (v22)) (1000) 25 (v92)) (1000) 24).toInt = (I (1000) 24 : Int32).toInt := congrArg Int32.toInt ((((show (u2 (u2 I13 (1000) 25 (v22)) (1000) 25 (v92)) (1000) 24 = I13 (1000) 24 from by simp [u2_v])).trans (hkI13.get (1000) 24 rfl)).trans (hkI1.get (1000) 24 rfl))
          have pw95 : ((u2 (u2 I13 (1000) 25 (v22)) (1000) 25 (v92)) (1000) 25).toInt = (v92 : Int32).toInt := congrArg Int32.toInt ((show (u2 (u2 I13 (1000) 25 (v22)) (1000) 25 (v92)) (1000) 25 = v92 from by simp [u2_v]))
          have pw96 : ((u2 (u2 I13 (1000) 25 (v22)) (1000) 25 (v92)) (1000) 26).toInt = (I13 (1000) 26 : Int32).toInt := congrArg Int32.toInt ((show (u2 (u2 I13 (1000) 25 (v22)) (1000) 25 (v92)) (1000) 26 = I13 (1000) 26 from by simp [u2_v]))
          have pw97 : ((u2 (u2 I13 (1000) 25 (v22)) (1000) 25 (v92)) (1000) 27).toInt = (I (1000) 27 : Int32).toInt := congrArg Int32.toInt ((((show (u2 (u2 I13 (1000) 25 (v22)) (1000) 25 (v92)) (1000) 27 = I13 (1000) 27 from by simp [u2_v])).trans (hkI13.get (1000) 27 rfl)).trans (hkI1.get (1000) 27 rfl))
          have pw98 : ((u2 (u2 I13 (1000) 25 (v22)) (1000) 25 (v92)) (1000) 29).toInt = (I1 (1000) 29 : Int32).toInt := congrArg Int32.toInt (((show (u2 (u2 I13 (1000) 25 (v22)) (1000) 25 (v92)) (1000) 29 = I13 (1000) 29 from by simp [u2_v])).trans (hkI13.get (1000) 29 rfl))
          have pw99 : ((u2 (u2 I13 (1000) 25 (v22)) (1000) 25 (v92)) (1000) 31).toInt = (I13 (1000) 31 : Int32).toInt := congrArg Int32.toInt ((show (u2 (u2 I13 (1000) 25 (v22)) (1000) 25 (v92)) (1000) 31 = I13 (1000) 31 from by simp [u2_v]))
          have pw100 : ((u2 (u2 I13 (1000) 25 (v22)) (1000) 25 (v92)) (1000) 32).toInt = (I (1000) 32 : Int32).toInt := congrArg Int32.toInt ((((show (u2 (u2 I13 (1000) 25 (v22)) (1000) 25 (v92)) (1000) 32 = I13 (1000) 32 from by simp [u2_v])).trans (hkI13.get (1000) 32 rfl)).trans (hkI1.get (1000) 32 rfl))
          refine m_callv (m_runV (1000) (As := []) (rest := []) hx hb hml hown hts hE hM hS hA ce_X10_sum tb_1535 (V_X10_sum l D A ad ns (u2 (u2 I13 (1000) 25 (v22)) (1000) 25 (v92)) L14 G hJ hI (by omega)) rfl rfl ⟨Nat.le_of_ble_eq_true rfl, Nat.le_of_ble_eq_true rfl⟩ hJ.1 rfl rfl (by decide) rfl hl.1 rfl (Nat.le_of_ble_eq_true rfl) dX10_compared_95 ⟨Nat.le_of_ble_eq_true rfl, Nat.le_of_ble_eq_true rfl⟩) hS (fun u H locs hw hM hS => ?_)
          obtain ⟨I101, L102, rfl, hI, hkI101, xI101⟩ := hw
          have hM : Mem D A ad ns I101 L102 G H := hM
          have hK := hK.trans hkI101 rfl
          have hC := CT.link (I2 := (u2 (u2 I13 (1000) 25 (v22)) (1000) 25 (v92))) hC (((show (u2 (u2 I13 (1000) 25 (v22)) (1000) 25 (v92)) 1035 = I13 1035 from by funext zz; simp [u2_v])).trans (hkI13.getA 1035 rfl)) (((show (u2 (u2 I13 (1000) 25 (v22)) (1000) 25 (v92)) 1036 = I13 1036 from by funext zz; simp [u2_v])).trans (hkI13.getA 1036 rfl)) (by omega) (by omega)
          have pw103 : (I101 (1000) 24).toInt = (I (1000) 24 : Int32).toInt := congrArg Int32.toInt (((((hkI101.get (1000) 24 rfl)).trans (show (u2 (u2 I13 (1000) 25 (v22)) (1000) 25 (v92)) (1000) 24 = I13 (1000) 24 from by simp [u2_v])).trans (hkI13.get (1000) 24 rfl)).trans (hkI1.get (1000) 24 rfl))
          have pw104 : (I101 (1000) 27).toInt = (I (1000) 27 : Int32).toInt := congrArg Int32.toInt (((((hkI101.get (1000) 27 rfl)).trans (show (u2 (u2 I13 (1000) 25 (v22)) (1000) 25 (v92)) (1000) 27 = I13 (1000) 27 from by simp [u2_v])).trans (hkI13.get (1000) 27 rfl)).trans (hkI1.get (1000) 27 rfl))
          have pw105 : (I101 (1000) 32).toInt = (I (1000) 32 : Int32).toInt := congrArg Int32.toInt (((((hkI101.get (1000) 32 rfl)).trans (show (u2 (u2 I13 (1000) 25 (v22)) (1000) 25 (v92)) (1000) 32 = I13 (1000) 32 from by simp [u2_v])).trans (hkI13.get (1000) 32 rfl)).trans (hkI1.get (1000) 32 rfl))
          have g106 := hI0.get 1000 27 (lo := 0) (hi := 5) rfl
          have g107 := hI0.get 1000 29 (lo := 0) (hi := 300) rfl
          have hC := hC.comp ((xI101.2.2.2.2.2).mono0 (1 + (0))) (by omega) (by omega) (by omega) (by omega) (by omega)
          refine lv_aload_n hx hb dX10_compared_98 rfl (lv_at hl 2 rfl) ?_
          refine lv_iload_n hx hb dX10_compared_99 rfl (lv_at hl 1 rfl) ?_
          refine lv_bipush (v := (61)) hx hb dX10_compared_100 (by decide) ?_
          refine lv_icmp_ne (tgt := 110) hx hb dX10_compared_102 (by decide) (fun c108 => ?_) (fun c108 => ?_)
          · have hc108 := c108
            have q108 := q_ne hc108
            refine lv_iload_n hx hb dX10_compared_110 rfl (lv_at hl 1 rfl) ?_
            refine lv_bipush (v := (60)) hx hb dX10_compared_111 (by decide) ?_
            refine lv_icmp_ne (tgt := 128) hx hb dX10_compared_113 (by decide) (fun c109 => ?_) (fun c109 => ?_)
            · have hc109 := c109
              have q109 := q_ne hc109
              refine lv_iload_n hx hb dX10_compared_128 rfl (lv_at hl 0 rfl) ?_
              refine lv_if_eq (tgt := 137) hx hb dX10_compared_129 (by decide) (fun c110 => ?_) (fun c110 => ?_)
              · have hc110 := c110
                have q110 := q_eq hc110
                refine lv_bipush (v := (8)) hx hb dX10_compared_137 (by decide) ?_
                refine lv_iconst (v := (0)) hx hb dX10_compared_139 (by decide) ?_
                refine m_callv (m_runV (1000) (As := [.int (8), .int (0)]) (rest := []) hx hb hml hown hts hE hM hS hA ce_X10_entry tb_1552 (V_X10_entry l D A ad ns I101 L102 G (8) (0) hJ hI (by omega)) rfl rfl ⟨Nat.le_of_ble_eq_true rfl, Nat.le_of_ble_eq_true rfl⟩ hJ.1 rfl rfl (by decide) rfl hl.1 rfl (Nat.le_of_ble_eq_true rfl) dX10_compared_140 ⟨Nat.le_of_ble_eq_true rfl, Nat.le_of_ble_eq_true rfl⟩) hS (fun u H locs hw hM hS => ?_)
                obtain ⟨I111, L112, rfl, hI, hkI111, xI111⟩ := hw
                have hM : Mem D A ad ns I111 L112 G H := hM
                have hK := hK.trans hkI111 rfl
                have pw113 : (I111 (1000) 24).toInt = (I (1000) 24 : Int32).toInt := congrArg Int32.toInt ((((((hkI111.get (1000) 24 rfl)).trans (hkI101.get (1000) 24 rfl)).trans (show (u2 (u2 I13 (1000) 25 (v22)) (1000) 25 (v92)) (1000) 24 = I13 (1000) 24 from by simp [u2_v])).trans (hkI13.get (1000) 24 rfl)).trans (hkI1.get (1000) 24 rfl))
                have pw114 : (I111 (1000) 25).toInt = (I101 (1000) 25 : Int32).toInt := congrArg Int32.toInt ((hkI111.get (1000) 25 rfl))
                have pw115 : (I111 (1000) 26).toInt = (I101 (1000) 26 : Int32).toInt := congrArg Int32.toInt ((hkI111.get (1000) 26 rfl))
                have pw116 : (I111 (1000) 27).toInt = (I (1000) 27 : Int32).toInt := congrArg Int32.toInt ((((((hkI111.get (1000) 27 rfl)).trans (hkI101.get (1000) 27 rfl)).trans (show (u2 (u2 I13 (1000) 25 (v22)) (1000) 25 (v92)) (1000) 27 = I13 (1000) 27 from by simp [u2_v])).trans (hkI13.get (1000) 27 rfl)).trans (hkI1.get (1000) 27 rfl))
                have pw117 : (I111 (1000) 31).toInt = (I101 (1000) 31 : Int32).toInt := congrArg Int32.toInt ((hkI111.get (1000) 31 rfl))
                have pw118 : (I111 (1000) 32).toInt = (I (1000) 32 : Int32).toInt := congrArg Int32.toInt ((((((hkI111.get (1000) 32 rfl)).trans (hkI101.get (1000) 32 rfl)).trans (show (u2 (u2 I13 (1000) 25 (v22)) (1000) 25 (v92)) (1000) 32 = I13 (1000) 32 from by simp [u2_v])).trans (hkI13.get (1000) 32 rfl)).trans (hkI1.get (1000) 32 rfl))
                have g119 := hI0.get 1000 27 (lo := 0) (hi := 5) rfl
                have g120 := hI0.get 1000 29 (lo := 0) (hi := 300) rfl
                have hC := hC.comp (n2 := 1) (xI111.2.2.ct (by omega) (by omega) (by omega) (by omega)) (by omega) (by omega) (by omega) (by omega) (by omega)
                exact m_vret hx hb hr hlocks hM hS (Nat.le_of_ble_eq_true rfl) (Nat.le_of_ble_eq_true rfl) ⟨_, _, rfl, hI, hK, ⟨by omega, by omega, by omega, by omega, by omega, hC⟩⟩ dX10_compared_143
              · exact absurd c110 (by decide)
            · have hc109 := c109
              have q109 := q_eq hc109
              refine lv_iload_n hx hb dX10_compared_116 rfl (lv_at hl 0 rfl) ?_
              refine lv_if_eq (tgt := 124) hx hb dX10_compared_117 (by decide) (fun c121 => ?_) (fun c121 => ?_)
              · have hc121 := c121
                have q121 := q_eq hc121
                refine lv_iconst (v := (4)) hx hb dX10_compared_124 (by decide) ?_
                refine lv_goto (tgt := 139) hx hb dX10_compared_125 (by decide) ?_
                refine lv_iconst (v := (0)) hx hb dX10_compared_139 (by decide) ?_
                refine m_callv (m_runV (1000) (As := [.int (4), .int (0)]) (rest := []) hx hb hml hown hts hE hM hS hA ce_X10_entry tb_1552 (V_X10_entry l D A ad ns I101 L102 G (4) (0) hJ hI (by omega)) rfl rfl ⟨Nat.le_of_ble_eq_true rfl, Nat.le_of_ble_eq_true rfl⟩ hJ.1 rfl rfl (by decide) rfl hl.1 rfl (Nat.le_of_ble_eq_true rfl) dX10_compared_140 ⟨Nat.le_of_ble_eq_true rfl, Nat.le_of_ble_eq_true rfl⟩) hS (fun u H locs hw hM hS => ?_)
                obtain ⟨I122, L123, rfl, hI, hkI122, xI122⟩ := hw
                have hM : Mem D A ad ns I122 L123 G H := hM
                have hK := hK.trans hkI122 rfl
                have pw124 : (I122 (1000) 24).toInt = (I (1000) 24 : Int32).toInt := congrArg Int32.toInt ((((((hkI122.get (1000) 24 rfl)).trans (hkI101.get (1000) 24 rfl)).trans (show (u2 (u2 I13 (1000) 25 (v22)) (1000) 25 (v92)) (1000) 24 = I13 (1000) 24 from by simp [u2_v])).trans (hkI13.get (1000) 24 rfl)).trans (hkI1.get (1000) 24 rfl))
                have pw125 : (I122 (1000) 25).toInt = (I101 (1000) 25 : Int32).toInt := congrArg Int32.toInt ((hkI122.get (1000) 25 rfl))
                have pw126 : (I122 (1000) 26).toInt = (I101 (1000) 26 : Int32).toInt := congrArg Int32.toInt ((hkI122.get (1000) 26 rfl))
                have pw127 : (I122 (1000) 27).toInt = (I (1000) 27 : Int32).toInt := congrArg Int32.toInt ((((((hkI122.get (1000) 27 rfl)).trans (hkI101.get (1000) 27 rfl)).trans (show (u2 (u2 I13 (1000) 25 (v22)) (1000) 25 (v92)) (1000) 27 = I13 (1000) 27 from by simp [u2_v])).trans (hkI13.get (1000) 27 rfl)).trans (hkI1.get (1000) 27 rfl))
                have pw128 : (I122 (1000) 31).toInt = (I101 (1000) 31 : Int32).toInt := congrArg Int32.toInt ((hkI122.get (1000) 31 rfl))
                have pw129 : (I122 (1000) 32).toInt = (I (1000) 32 : Int32).toInt := congrArg Int32.toInt ((((((hkI122.get (1000) 32 rfl)).trans (hkI101.get (1000) 32 rfl)).trans (show (u2 (u2 I13 (1000) 25 (v22)) (1000) 25 (v92)) (1000) 32 = I13 (1000) 32 from by simp [u2_v])).trans (hkI13.get (1000) 32 rfl)).trans (hkI1.get (1000) 32 rfl))
                have g130 := hI0.get 1000 27 (lo := 0) (hi := 5) rfl
                have g131 := hI0.get 1000 29 (lo := 0) (hi := 300) rfl
                have hC := hC.comp (n2 := 1) (xI122.2.2.ct (by omega) (by omega) (by omega) (by omega)) (by omega) (by omega) (by omega) (by omega) (by omega)
                exact m_vret hx hb hr hlocks hM hS (Nat.le_of_ble_eq_true rfl) (Nat.le_of_ble_eq_true rfl) ⟨_, _, rfl, hI, hK, ⟨by omega, by omega, by omega, by omega, by omega, hC⟩⟩ dX10_compared_143
              · exact absurd c121 (by decide)
          · have hc108 := c108
            have q108 := q_eq hc108
            refine lv_bipush (v := (6)) hx hb dX10_compared_105 (by decide) ?_
            refine lv_goto (tgt := 139) hx hb dX10_compared_107 (by decide) ?_
            refine lv_iconst (v := (0)) hx hb dX10_compared_139 (by decide) ?_
            refine m_callv (m_runV (1000) (As := [.int (6), .int (0)]) (rest := []) hx hb hml hown hts hE hM hS hA ce_X10_entry tb_1552 (V_X10_entry l D A ad ns I101 L102 G (6) (0) hJ hI (by omega)) rfl rfl ⟨Nat.le_of_ble_eq_true rfl, Nat.le_of_ble_eq_true rfl⟩ hJ.1 rfl rfl (by decide) rfl hl.1 rfl (Nat.le_of_ble_eq_true rfl) dX10_compared_140 ⟨Nat.le_of_ble_eq_true rfl, Nat.le_of_ble_eq_true rfl⟩) hS (fun u H locs hw hM hS => ?_)
            obtain ⟨I132, L133, rfl, hI, hkI132, xI132⟩ := hw
            have hM : Mem D A ad ns I132 L133 G H := hM
            have hK := hK.trans hkI132 rfl
            have pw134 : (I132 (1000) 24).toInt = (I (1000) 24 : Int32).toInt := congrArg Int32.toInt ((((((hkI132.get (1000) 24 rfl)).trans (hkI101.get (1000) 24 rfl)).trans (show (u2 (u2 I13 (1000) 25 (v22)) (1000) 25 (v92)) (1000) 24 = I13 (1000) 24 from by simp [u2_v])).trans (hkI13.get (1000) 24 rfl)).trans (hkI1.get (1000) 24 rfl))
            have pw135 : (I132 (1000) 25).toInt = (I101 (1000) 25 : Int32).toInt := congrArg Int32.toInt ((hkI132.get (1000) 25 rfl))
            have pw136 : (I132 (1000) 26).toInt = (I101 (1000) 26 : Int32).toInt := congrArg Int32.toInt ((hkI132.get (1000) 26 rfl))
            have pw137 : (I132 (1000) 27).toInt = (I (1000) 27 : Int32).toInt := congrArg Int32.toInt ((((((hkI132.get (1000) 27 rfl)).trans (hkI101.get (1000) 27 rfl)).trans (show (u2 (u2 I13 (1000) 25 (v22)) (1000) 25 (v92)) (1000) 27 = I13 (1000) 27 from by simp [u2_v])).trans (hkI13.get (1000) 27 rfl)).trans (hkI1.get (1000) 27 rfl))
            have pw138 : (I132 (1000) 31).toInt = (I101 (1000) 31 : Int32).toInt := congrArg Int32.toInt ((hkI132.get (1000) 31 rfl))
            have pw139 : (I132 (1000) 32).toInt = (I (1000) 32 : Int32).toInt := congrArg Int32.toInt ((((((hkI132.get (1000) 32 rfl)).trans (hkI101.get (1000) 32 rfl)).trans (show (u2 (u2 I13 (1000) 25 (v22)) (1000) 25 (v92)) (1000) 32 = I13 (1000) 32 from by simp [u2_v])).trans (hkI13.get (1000) 32 rfl)).trans (hkI1.get (1000) 32 rfl))
            have g140 := hI0.get 1000 27 (lo := 0) (hi := 5) rfl
            have g141 := hI0.get 1000 29 (lo := 0) (hi := 300) rfl
            have hC := hC.comp (n2 := 1) (xI132.2.2.ct (by omega) (by omega) (by omega) (by omega)) (by omega) (by omega) (by omega) (by omega) (by omega)
            exact m_vret hx hb hr hlocks hM hS (Nat.le_of_ble_eq_true rfl) (Nat.le_of_ble_eq_true rfl) ⟨_, _, rfl, hI, hK, ⟨by omega, by omega, by omega, by omega, by omega, hC⟩⟩ dX10_compared_143
        · exact absurd c91 (by decide)
      · have hc88 := c88
        have q88 := q_eq hc88
        refine lv_iconst (v := (1)) hx hb dX10_compared_70 (by decide) ?_
        refine lv_goto (tgt := 75) hx hb dX10_compared_71 (by decide) ?_
        refine lv_istore_n (lv' := [(2, .int (1)), (1, .int (r8)), (0, .ref (ad (1000)))]) hx hb dX10_compared_75 rfl hl (by decide) rfl (fun ls hl => ?_)
        refine lv_aload_n hx hb dX10_compared_76 rfl (lv_at hl 2 rfl) ?_
        refine lv_dup hx hb dX10_compared_77 rfl ?_
        refine m_geti (1000) 25 hx hb hts hown hE oc10 hM hJ.1 rfl (by decide) rfl tb_1202 dX10_compared_78 ?_
        have g142 := hI.get (1000) 25 (lo := 0) (hi := 100000) rfl
        have z143 : (u2 I13 (1000) 25 (v22)) (1000) 25 = v22 := (show (u2 I13 (1000) 25 (v22)) (1000) 25 = v22 from by simp [u2_v])
        rw [z143] at g142 ⊢
        refine lv_iload_n hx hb dX10_compared_81 rfl (lv_at hl 0 rfl) ?_
        refine lv_if_eq (tgt := 89) hx hb dX10_compared_82 (by decide) (fun c144 => ?_) (fun c144 => ?_)
        · exact absurd c144 (by decide)
        · have hc144 := c144
          have q144 := q_ne hc144
          refine lv_iconst (v := (1)) hx hb dX10_compared_85 (by decide) ?_
          refine lv_goto (tgt := 90) hx hb dX10_compared_86 (by decide) ?_
          refine lv_iadd hx hb dX10_compared_90 ?_
          refine lv_topi (fun v145 ev145 => ?_)
          have tv145 := a_add ev145 (by omega) (by omega)
          refine m_puti (1000) 25 hx hb hts hown hE oc10 hM hS hJ.1 rfl (by decide) rfl rfl rfl rfl tb_1202 dX10_compared_91 (fun H locs I146 eI146 hM hS => ?_)
          subst eI146
          have hI := hI.put (n := 1000) (k := 25) (v := v145) (lo := 0) (hi := 100000) rfl (by first | omega | decide)
          have hK := hK.put (n := 1000) (k := 25) (v := v145) (by first | rfl | simp [inR])
          refine lv_aload_n hx hb dX10_compared_94 rfl (lv_at hl 2 rfl) ?_
          have pw147 : ((u2 (u2 I13 (1000) 25 (v22)) (1000) 25 (v145)) (1000) 24).toInt = (I (1000) 24 : Int32).toInt := congrArg Int32.toInt ((((show (u2 (u2 I13 (1000) 25 (v22)) (1000) 25 (v145)) (1000) 24 = I13 (1000) 24 from by simp [u2_v])).trans (hkI13.get (1000) 24 rfl)).trans (hkI1.get (1000) 24 rfl))
          have pw148 : ((u2 (u2 I13 (1000) 25 (v22)) (1000) 25 (v145)) (1000) 25).toInt = (v145 : Int32).toInt := congrArg Int32.toInt ((show (u2 (u2 I13 (1000) 25 (v22)) (1000) 25 (v145)) (1000) 25 = v145 from by simp [u2_v]))
          have pw149 : ((u2 (u2 I13 (1000) 25 (v22)) (1000) 25 (v145)) (1000) 26).toInt = (I13 (1000) 26 : Int32).toInt := congrArg Int32.toInt ((show (u2 (u2 I13 (1000) 25 (v22)) (1000) 25 (v145)) (1000) 26 = I13 (1000) 26 from by simp [u2_v]))
          have pw150 : ((u2 (u2 I13 (1000) 25 (v22)) (1000) 25 (v145)) (1000) 27).toInt = (I (1000) 27 : Int32).toInt := congrArg Int32.toInt ((((show (u2 (u2 I13 (1000) 25 (v22)) (1000) 25 (v145)) (1000) 27 = I13 (1000) 27 from by simp [u2_v])).trans (hkI13.get (1000) 27 rfl)).trans (hkI1.get (1000) 27 rfl))
          have pw151 : ((u2 (u2 I13 (1000) 25 (v22)) (1000) 25 (v145)) (1000) 29).toInt = (I1 (1000) 29 : Int32).toInt := congrArg Int32.toInt (((show (u2 (u2 I13 (1000) 25 (v22)) (1000) 25 (v145)) (1000) 29 = I13 (1000) 29 from by simp [u2_v])).trans (hkI13.get (1000) 29 rfl))
          have pw152 : ((u2 (u2 I13 (1000) 25 (v22)) (1000) 25 (v145)) (1000) 31).toInt = (I13 (1000) 31 : Int32).toInt := congrArg Int32.toInt ((show (u2 (u2 I13 (1000) 25 (v22)) (1000) 25 (v145)) (1000) 31 = I13 (1000) 31 from by simp [u2_v]))
          have pw153 : ((u2 (u2 I13 (1000) 25 (v22)) (1000) 25 (v145)) (1000) 32).toInt = (I (1000) 32 : Int32).toInt := congrArg Int32.toInt ((((show (u2 (u2 I13 (1000) 25 (v22)) (1000) 25 (v145)) (1000) 32 = I13 (1000) 32 from by simp [u2_v])).trans (hkI13.get (1000) 32 rfl)).trans (hkI1.get (1000) 32 rfl))
          refine m_callv (m_runV (1000) (As := []) (rest := []) hx hb hml hown hts hE hM hS hA ce_X10_sum tb_1535 (V_X10_sum l D A ad ns (u2 (u2 I13 (1000) 25 (v22)) (1000) 25 (v145)) L14 G hJ hI (by omega)) rfl rfl ⟨Nat.le_of_ble_eq_true rfl, Nat.le_of_ble_eq_true rfl⟩ hJ.1 rfl rfl (by decide) rfl hl.1 rfl (Nat.le_of_ble_eq_true rfl) dX10_compared_95 ⟨Nat.le_of_ble_eq_true rfl, Nat.le_of_ble_eq_true rfl⟩) hS (fun u H locs hw hM hS => ?_)
          obtain ⟨I154, L155, rfl, hI, hkI154, xI154⟩ := hw
          have hM : Mem D A ad ns I154 L155 G H := hM
          have hK := hK.trans hkI154 rfl
          have hC := CT.link (I2 := (u2 (u2 I13 (1000) 25 (v22)) (1000) 25 (v145))) hC (((show (u2 (u2 I13 (1000) 25 (v22)) (1000) 25 (v145)) 1035 = I13 1035 from by funext zz; simp [u2_v])).trans (hkI13.getA 1035 rfl)) (((show (u2 (u2 I13 (1000) 25 (v22)) (1000) 25 (v145)) 1036 = I13 1036 from by funext zz; simp [u2_v])).trans (hkI13.getA 1036 rfl)) (by omega) (by omega)
          have pw156 : (I154 (1000) 24).toInt = (I (1000) 24 : Int32).toInt := congrArg Int32.toInt (((((hkI154.get (1000) 24 rfl)).trans (show (u2 (u2 I13 (1000) 25 (v22)) (1000) 25 (v145)) (1000) 24 = I13 (1000) 24 from by simp [u2_v])).trans (hkI13.get (1000) 24 rfl)).trans (hkI1.get (1000) 24 rfl))
          have pw157 : (I154 (1000) 27).toInt = (I (1000) 27 : Int32).toInt := congrArg Int32.toInt (((((hkI154.get (1000) 27 rfl)).trans (show (u2 (u2 I13 (1000) 25 (v22)) (1000) 25 (v145)) (1000) 27 = I13 (1000) 27 from by simp [u2_v])).trans (hkI13.get (1000) 27 rfl)).trans (hkI1.get (1000) 27 rfl))
          have pw158 : (I154 (1000) 32).toInt = (I (1000) 32 : Int32).toInt := congrArg Int32.toInt (((((hkI154.get (1000) 32 rfl)).trans (show (u2 (u2 I13 (1000) 25 (v22)) (1000) 25 (v145)) (1000) 32 = I13 (1000) 32 from by simp [u2_v])).trans (hkI13.get (1000) 32 rfl)).trans (hkI1.get (1000) 32 rfl))
          have g159 := hI0.get 1000 27 (lo := 0) (hi := 5) rfl
          have g160 := hI0.get 1000 29 (lo := 0) (hi := 300) rfl
          have hC := hC.comp ((xI154.2.2.2.2.2).mono0 (1 + (0))) (by omega) (by omega) (by omega) (by omega) (by omega)
          refine lv_aload_n hx hb dX10_compared_98 rfl (lv_at hl 2 rfl) ?_
          refine lv_iload_n hx hb dX10_compared_99 rfl (lv_at hl 1 rfl) ?_
          refine lv_bipush (v := (61)) hx hb dX10_compared_100 (by decide) ?_
          refine lv_icmp_ne (tgt := 110) hx hb dX10_compared_102 (by decide) (fun c161 => ?_) (fun c161 => ?_)
          · have hc161 := c161
            have q161 := q_ne hc161
            refine lv_iload_n hx hb dX10_compared_110 rfl (lv_at hl 1 rfl) ?_
            refine lv_bipush (v := (60)) hx hb dX10_compared_111 (by decide) ?_
            refine lv_icmp_ne (tgt := 128) hx hb dX10_compared_113 (by decide) (fun c162 => ?_) (fun c162 => ?_)
            · have hc162 := c162
              have q162 := q_ne hc162
              refine lv_iload_n hx hb dX10_compared_128 rfl (lv_at hl 0 rfl) ?_
              refine lv_if_eq (tgt := 137) hx hb dX10_compared_129 (by decide) (fun c163 => ?_) (fun c163 => ?_)
              · exact absurd c163 (by decide)
              · have hc163 := c163
                have q163 := q_ne hc163
                refine lv_bipush (v := (7)) hx hb dX10_compared_132 (by decide) ?_
                refine lv_goto (tgt := 139) hx hb dX10_compared_134 (by decide) ?_
                refine lv_iconst (v := (0)) hx hb dX10_compared_139 (by decide) ?_
                refine m_callv (m_runV (1000) (As := [.int (7), .int (0)]) (rest := []) hx hb hml hown hts hE hM hS hA ce_X10_entry tb_1552 (V_X10_entry l D A ad ns I154 L155 G (7) (0) hJ hI (by omega)) rfl rfl ⟨Nat.le_of_ble_eq_true rfl, Nat.le_of_ble_eq_true rfl⟩ hJ.1 rfl rfl (by decide) rfl hl.1 rfl (Nat.le_of_ble_eq_true rfl) dX10_compared_140 ⟨Nat.le_of_ble_eq_true rfl, Nat.le_of_ble_eq_true rfl⟩) hS (fun u H locs hw hM hS => ?_)
                obtain ⟨I164, L165, rfl, hI, hkI164, xI164⟩ := hw
                have hM : Mem D A ad ns I164 L165 G H := hM
                have hK := hK.trans hkI164 rfl
                have pw166 : (I164 (1000) 24).toInt = (I (1000) 24 : Int32).toInt := congrArg Int32.toInt ((((((hkI164.get (1000) 24 rfl)).trans (hkI154.get (1000) 24 rfl)).trans (show (u2 (u2 I13 (1000) 25 (v22)) (1000) 25 (v145)) (1000) 24 = I13 (1000) 24 from by simp [u2_v])).trans (hkI13.get (1000) 24 rfl)).trans (hkI1.get (1000) 24 rfl))
                have pw167 : (I164 (1000) 25).toInt = (I154 (1000) 25 : Int32).toInt := congrArg Int32.toInt ((hkI164.get (1000) 25 rfl))
                have pw168 : (I164 (1000) 26).toInt = (I154 (1000) 26 : Int32).toInt := congrArg Int32.toInt ((hkI164.get (1000) 26 rfl))
                have pw169 : (I164 (1000) 27).toInt = (I (1000) 27 : Int32).toInt := congrArg Int32.toInt ((((((hkI164.get (1000) 27 rfl)).trans (hkI154.get (1000) 27 rfl)).trans (show (u2 (u2 I13 (1000) 25 (v22)) (1000) 25 (v145)) (1000) 27 = I13 (1000) 27 from by simp [u2_v])).trans (hkI13.get (1000) 27 rfl)).trans (hkI1.get (1000) 27 rfl))
                have pw170 : (I164 (1000) 31).toInt = (I154 (1000) 31 : Int32).toInt := congrArg Int32.toInt ((hkI164.get (1000) 31 rfl))
                have pw171 : (I164 (1000) 32).toInt = (I (1000) 32 : Int32).toInt := congrArg Int32.toInt ((((((hkI164.get (1000) 32 rfl)).trans (hkI154.get (1000) 32 rfl)).trans (show (u2 (u2 I13 (1000) 25 (v22)) (1000) 25 (v145)) (1000) 32 = I13 (1000) 32 from by simp [u2_v])).trans (hkI13.get (1000) 32 rfl)).trans (hkI1.get (1000) 32 rfl))
                have g172 := hI0.get 1000 27 (lo := 0) (hi := 5) rfl
                have g173 := hI0.get 1000 29 (lo := 0) (hi := 300) rfl
                have hC := hC.comp (n2 := 1) (xI164.2.2.ct (by omega) (by omega) (by omega) (by omega)) (by omega) (by omega) (by omega) (by omega) (by omega)
                exact m_vret hx hb hr hlocks hM hS (Nat.le_of_ble_eq_true rfl) (Nat.le_of_ble_eq_true rfl) ⟨_, _, rfl, hI, hK, ⟨by omega, by omega, by omega, by omega, by omega, hC⟩⟩ dX10_compared_143
            · have hc162 := c162
              have q162 := q_eq hc162
              refine lv_iload_n hx hb dX10_compared_116 rfl (lv_at hl 0 rfl) ?_
              refine lv_if_eq (tgt := 124) hx hb dX10_compared_117 (by decide) (fun c174 => ?_) (fun c174 => ?_)
              · exact absurd c174 (by decide)
              · have hc174 := c174
                have q174 := q_ne hc174
                refine lv_iconst (v := (5)) hx hb dX10_compared_120 (by decide) ?_
                refine lv_goto (tgt := 139) hx hb dX10_compared_121 (by decide) ?_
                refine lv_iconst (v := (0)) hx hb dX10_compared_139 (by decide) ?_
                refine m_callv (m_runV (1000) (As := [.int (5), .int (0)]) (rest := []) hx hb hml hown hts hE hM hS hA ce_X10_entry tb_1552 (V_X10_entry l D A ad ns I154 L155 G (5) (0) hJ hI (by omega)) rfl rfl ⟨Nat.le_of_ble_eq_true rfl, Nat.le_of_ble_eq_true rfl⟩ hJ.1 rfl rfl (by decide) rfl hl.1 rfl (Nat.le_of_ble_eq_true rfl) dX10_compared_140 ⟨Nat.le_of_ble_eq_true rfl, Nat.le_of_ble_eq_true rfl⟩) hS (fun u H locs hw hM hS => ?_)
                obtain ⟨I175, L176, rfl, hI, hkI175, xI175⟩ := hw
                have hM : Mem D A ad ns I175 L176 G H := hM
                have hK := hK.trans hkI175 rfl
                have pw177 : (I175 (1000) 24).toInt = (I (1000) 24 : Int32).toInt := congrArg Int32.toInt ((((((hkI175.get (1000) 24 rfl)).trans (hkI154.get (1000) 24 rfl)).trans (show (u2 (u2 I13 (1000) 25 (v22)) (1000) 25 (v145)) (1000) 24 = I13 (1000) 24 from by simp [u2_v])).trans (hkI13.get (1000) 24 rfl)).trans (hkI1.get (1000) 24 rfl))
                have pw178 : (I175 (1000) 25).toInt = (I154 (1000) 25 : Int32).toInt := congrArg Int32.toInt ((hkI175.get (1000) 25 rfl))
                have pw179 : (I175 (1000) 26).toInt = (I154 (1000) 26 : Int32).toInt := congrArg Int32.toInt ((hkI175.get (1000) 26 rfl))
                have pw180 : (I175 (1000) 27).toInt = (I (1000) 27 : Int32).toInt := congrArg Int32.toInt ((((((hkI175.get (1000) 27 rfl)).trans (hkI154.get (1000) 27 rfl)).trans (show (u2 (u2 I13 (1000) 25 (v22)) (1000) 25 (v145)) (1000) 27 = I13 (1000) 27 from by simp [u2_v])).trans (hkI13.get (1000) 27 rfl)).trans (hkI1.get (1000) 27 rfl))
                have pw181 : (I175 (1000) 31).toInt = (I154 (1000) 31 : Int32).toInt := congrArg Int32.toInt ((hkI175.get (1000) 31 rfl))
                have pw182 : (I175 (1000) 32).toInt = (I (1000) 32 : Int32).toInt := congrArg Int32.toInt ((((((hkI175.get (1000) 32 rfl)).trans (hkI154.get (1000) 32 rfl)).trans (show (u2 (u2 I13 (1000) 25 (v22)) (1000) 25 (v145)) (1000) 32 = I13 (1000) 32 from by simp [u2_v])).trans (hkI13.get (1000) 32 rfl)).trans (hkI1.get (1000) 32 rfl))
                have g183 := hI0.get 1000 27 (lo := 0) (hi := 5) rfl
                have g184 := hI0.get 1000 29 (lo := 0) (hi := 300) rfl
                have hC := hC.comp (n2 := 1) (xI175.2.2.ct (by omega) (by omega) (by omega) (by omega)) (by omega) (by omega) (by omega) (by omega) (by omega)
                exact m_vret hx hb hr hlocks hM hS (Nat.le_of_ble_eq_true rfl) (Nat.le_of_ble_eq_true rfl) ⟨_, _, rfl, hI, hK, ⟨by omega, by omega, by omega, by omega, by omega, hC⟩⟩ dX10_compared_143
          · have hc161 := c161
            have q161 := q_eq hc161
            refine lv_bipush (v := (6)) hx hb dX10_compared_105 (by decide) ?_
            refine lv_goto (tgt := 139) hx hb dX10_compared_107 (by decide) ?_
            refine lv_iconst (v := (0)) hx hb dX10_compared_139 (by decide) ?_
            refine m_callv (m_runV (1000) (As := [.int (6), .int (0)]) (rest := []) hx hb hml hown hts hE hM hS hA ce_X10_entry tb_1552 (V_X10_entry l D A ad ns I154 L155 G (6) (0) hJ hI (by omega)) rfl rfl ⟨Nat.le_of_ble_eq_true rfl, Nat.le_of_ble_eq_true rfl⟩ hJ.1 rfl rfl (by decide) rfl hl.1 rfl (Nat.le_of_ble_eq_true rfl) dX10_compared_140 ⟨Nat.le_of_ble_eq_true rfl, Nat.le_of_ble_eq_true rfl⟩) hS (fun u H locs hw hM hS => ?_)
            obtain ⟨I185, L186, rfl, hI, hkI185, xI185⟩ := hw
            have hM : Mem D A ad ns I185 L186 G H := hM
            have hK := hK.trans hkI185 rfl
            have pw187 : (I185 (1000) 24).toInt = (I (1000) 24 : Int32).toInt := congrArg Int32.toInt ((((((hkI185.get (1000) 24 rfl)).trans (hkI154.get (1000) 24 rfl)).trans (show (u2 (u2 I13 (1000) 25 (v22)) (1000) 25 (v145)) (1000) 24 = I13 (1000) 24 from by simp [u2_v])).trans (hkI13.get (1000) 24 rfl)).trans (hkI1.get (1000) 24 rfl))
            have pw188 : (I185 (1000) 25).toInt = (I154 (1000) 25 : Int32).toInt := congrArg Int32.toInt ((hkI185.get (1000) 25 rfl))
            have pw189 : (I185 (1000) 26).toInt = (I154 (1000) 26 : Int32).toInt := congrArg Int32.toInt ((hkI185.get (1000) 26 rfl))
            have pw190 : (I185 (1000) 27).toInt = (I (1000) 27 : Int32).toInt := congrArg Int32.toInt ((((((hkI185.get (1000) 27 rfl)).trans (hkI154.get (1000) 27 rfl)).trans (show (u2 (u2 I13 (1000) 25 (v22)) (1000) 25 (v145)) (1000) 27 = I13 (1000) 27 from by simp [u2_v])).trans (hkI13.get (1000) 27 rfl)).trans (hkI1.get (1000) 27 rfl))
            have pw191 : (I185 (1000) 31).toInt = (I154 (1000) 31 : Int32).toInt := congrArg Int32.toInt ((hkI185.get (1000) 31 rfl))
            have pw192 : (I185 (1000) 32).toInt = (I (1000) 32 : Int32).toInt := congrArg Int32.toInt ((((((hkI185.get (1000) 32 rfl)).trans (hkI154.get (1000) 32 rfl)).trans (show (u2 (u2 I13 (1000) 25 (v22)) (1000) 25 (v145)) (1000) 32 = I13 (1000) 32 from by simp [u2_v])).trans (hkI13.get (1000) 32 rfl)).trans (hkI1.get (1000) 32 rfl))
            have g193 := hI0.get 1000 27 (lo := 0) (hi := 5) rfl
            have g194 := hI0.get 1000 29 (lo := 0) (hi := 300) rfl
            have hC := hC.comp (n2 := 1) (xI185.2.2.ct (by omega) (by omega) (by omega) (by omega)) (by omega) (by omega) (by omega) (by omega) (by omega)
            exact m_vret hx hb hr hlocks hM hS (Nat.le_of_ble_eq_true rfl) (Nat.le_of_ble_eq_true rfl) ⟨_, _, rfl, hI, hK, ⟨by omega, by omega, by omega, by omega, by omega, hC⟩⟩ dX10_compared_143
  · have hc11 := c11
    have q11 := q_ne hc11
    refine lv_iload_n hx hb dX10_compared_15 rfl (lv_at hl 0 rfl) ?_
    refine lv_bipush (v := (61)) hx hb dX10_compared_16 (by decide) ?_
    refine lv_icmp_eq (tgt := 37) hx hb dX10_compared_18 (by decide) (fun c195 => ?_) (fun c195 => ?_)
    · have hc195 := c195
      have q195 := q_eq hc195
      refine lv_aload_n hx hb dX10_compared_37 rfl (lv_at hl 1 rfl) ?_
      refine lv_aload_n hx hb dX10_compared_38 rfl (lv_at hl 1 rfl) ?_
      refine m_geti (1000) 25 hx hb hts hown hE oc10 hM hJ.1 rfl (by decide) rfl tb_1202 dX10_compared_39 ?_
      have g196 := hI.get (1000) 25 (lo := 0) (hi := 100000) rfl
      refine m_callv (m_runV (1000) (As := [.int (I1 (1000) 25)]) (rest := []) hx hb hml hown hts hE hM hS hA ce_X10_isCounted tb_1548 (V_X10_isCounted l D A ad ns I1 L2 G (I1 (1000) 25) hJ hI (by omega) (by first | omega | decide)) rfl rfl ⟨Nat.le_of_ble_eq_true rfl, Nat.le_of_ble_eq_true rfl⟩ hJ.1 rfl rfl (by decide) rfl hl.1 rfl (Nat.le_of_ble_eq_true rfl) dX10_compared_42 ⟨Nat.le_of_ble_eq_true rfl, Nat.le_of_ble_eq_true rfl⟩) hS (fun u H locs hw hM hS => ?_)
      obtain ⟨I197, L198, rfl, hI, hkI197, xI197⟩ := hw
      have hM : Mem D A ad ns I197 L198 G H := hM
      have hK := hK.trans hkI197 rfl
      have pw199 : (I197 (1000) 24).toInt = (I (1000) 24 : Int32).toInt := congrArg Int32.toInt (((hkI197.get (1000) 24 rfl)).trans (hkI1.get (1000) 24 rfl))
      have pw200 : (I197 (1000) 25).toInt = (I1 (1000) 25 : Int32).toInt := congrArg Int32.toInt ((hkI197.get (1000) 25 rfl))
      have pw201 : (I197 (1000) 27).toInt = (I (1000) 27 : Int32).toInt := congrArg Int32.toInt (((hkI197.get (1000) 27 rfl)).trans (hkI1.get (1000) 27 rfl))
      have pw202 : (I197 (1000) 29).toInt = (I1 (1000) 29 : Int32).toInt := congrArg Int32.toInt ((hkI197.get (1000) 29 rfl))
      have pw203 : (I197 (1000) 32).toInt = (I (1000) 32 : Int32).toInt := congrArg Int32.toInt (((hkI197.get (1000) 32 rfl)).trans (hkI1.get (1000) 32 rfl))
      refine lv_aload_n hx hb dX10_compared_45 rfl (lv_at hl 1 rfl) ?_
      refine lv_dup hx hb dX10_compared_46 rfl ?_
      refine m_geti (1000) 25 hx hb hts hown hE oc10 hM hJ.1 rfl (by decide) rfl tb_1202 dX10_compared_47 ?_
      have g204 := hI.get (1000) 25 (lo := 0) (hi := 100000) rfl
      have z205 : I197 (1000) 25 = I1 (1000) 25 := (hkI197.get (1000) 25 rfl)
      rw [z205] at g204 ⊢
      refine lv_iconst (v := (1)) hx hb dX10_compared_50 (by decide) ?_
      refine lv_iadd hx hb dX10_compared_51 ?_
      refine lv_topi (fun v206 ev206 => ?_)
      have tv206 := a_add ev206 (by omega) (by omega)
      refine m_puti (1000) 25 hx hb hts hown hE oc10 hM hS hJ.1 rfl (by decide) rfl rfl rfl rfl tb_1202 dX10_compared_52 (fun H locs I207 eI207 hM hS => ?_)
      subst eI207
      have hI := hI.put (n := 1000) (k := 25) (v := v206) (lo := 0) (hi := 100000) rfl (by first | omega | decide)
      have hK := hK.put (n := 1000) (k := 25) (v := v206) (by first | rfl | simp [inR])
      refine lv_iload_n hx hb dX10_compared_55 rfl (lv_at hl 0 rfl) ?_
      refine lv_bipush (v := (61)) hx hb dX10_compared_56 (by decide) ?_
      refine lv_icmp_eq (tgt := 74) hx hb dX10_compared_58 (by decide) (fun c208 => ?_) (fun c208 => ?_)
      · have hc208 := c208
        have q208 := q_eq hc208
        refine lv_iconst (v := (0)) hx hb dX10_compared_74 (by decide) ?_
        refine lv_istore_n (lv' := [(2, .int (0)), (1, .int (r8)), (0, .ref (ad (1000)))]) hx hb dX10_compared_75 rfl hl (by decide) rfl (fun ls hl => ?_)
        refine lv_aload_n hx hb dX10_compared_76 rfl (lv_at hl 2 rfl) ?_
        refine lv_dup hx hb dX10_compared_77 rfl ?_
        refine m_geti (1000) 25 hx hb hts hown hE oc10 hM hJ.1 rfl (by decide) rfl tb_1202 dX10_compared_78 ?_
        have g209 := hI.get (1000) 25 (lo := 0) (hi := 100000) rfl
        have z210 : (u2 I197 (1000) 25 (v206)) (1000) 25 = v206 := (show (u2 I197 (1000) 25 (v206)) (1000) 25 = v206 from by simp [u2_v])
        rw [z210] at g209 ⊢
        refine lv_iload_n hx hb dX10_compared_81 rfl (lv_at hl 0 rfl) ?_
        refine lv_if_eq (tgt := 89) hx hb dX10_compared_82 (by decide) (fun c211 => ?_) (fun c211 => ?_)
        · have hc211 := c211
          have q211 := q_eq hc211
          refine lv_iconst (v := (0)) hx hb dX10_compared_89 (by decide) ?_
          refine lv_iadd hx hb dX10_compared_90 ?_
          refine lv_topi (fun v212 ev212 => ?_)
          have tv212 := a_add ev212 (by omega) (by omega)
          refine m_puti (1000) 25 hx hb hts hown hE oc10 hM hS hJ.1 rfl (by decide) rfl rfl rfl rfl tb_1202 dX10_compared_91 (fun H locs I213 eI213 hM hS => ?_)
          subst eI213
          have hI := hI.put (n := 1000) (k := 25) (v := v212) (lo := 0) (hi := 100000) rfl (by first | omega | decide)
          have hK := hK.put (n := 1000) (k := 25) (v := v212) (by first | rfl | simp [inR])
          refine lv_aload_n hx hb dX10_compared_94 rfl (lv_at hl 2 rfl) ?_
          have pw214 : ((u2 (u2 I197 (1000) 25 (v206)) (1000) 25 (v212)) (1000) 24).toInt = (I (1000) 24 : Int32).toInt := congrArg Int32.toInt ((((show (u2 (u2 I197 (1000) 25 (v206)) (1000) 25 (v212)) (1000) 24 = I197 (1000) 24 from by simp [u2_v])).trans (hkI197.get (1000) 24 rfl)).trans (hkI1.get (1000) 24 rfl))
          have pw215 : ((u2 (u2 I197 (1000) 25 (v206)) (1000) 25 (v212)) (1000) 25).toInt = (v212 : Int32).toInt := congrArg Int32.toInt ((show (u2 (u2 I197 (1000) 25 (v206)) (1000) 25 (v212)) (1000) 25 = v212 from by simp [u2_v]))
          have pw216 : ((u2 (u2 I197 (1000) 25 (v206)) (1000) 25 (v212)) (1000) 26).toInt = (I197 (1000) 26 : Int32).toInt := congrArg Int32.toInt ((show (u2 (u2 I197 (1000) 25 (v206)) (1000) 25 (v212)) (1000) 26 = I197 (1000) 26 from by simp [u2_v]))
          have pw217 : ((u2 (u2 I197 (1000) 25 (v206)) (1000) 25 (v212)) (1000) 27).toInt = (I (1000) 27 : Int32).toInt := congrArg Int32.toInt ((((show (u2 (u2 I197 (1000) 25 (v206)) (1000) 25 (v212)) (1000) 27 = I197 (1000) 27 from by simp [u2_v])).trans (hkI197.get (1000) 27 rfl)).trans (hkI1.get (1000) 27 rfl))
          have pw218 : ((u2 (u2 I197 (1000) 25 (v206)) (1000) 25 (v212)) (1000) 29).toInt = (I1 (1000) 29 : Int32).toInt := congrArg Int32.toInt (((show (u2 (u2 I197 (1000) 25 (v206)) (1000) 25 (v212)) (1000) 29 = I197 (1000) 29 from by simp [u2_v])).trans (hkI197.get (1000) 29 rfl))
          have pw219 : ((u2 (u2 I197 (1000) 25 (v206)) (1000) 25 (v212)) (1000) 31).toInt = (I197 (1000) 31 : Int32).toInt := congrArg Int32.toInt ((show (u2 (u2 I197 (1000) 25 (v206)) (1000) 25 (v212)) (1000) 31 = I197 (1000) 31 from by simp [u2_v]))
          have pw220 : ((u2 (u2 I197 (1000) 25 (v206)) (1000) 25 (v212)) (1000) 32).toInt = (I (1000) 32 : Int32).toInt := congrArg Int32.toInt ((((show (u2 (u2 I197 (1000) 25 (v206)) (1000) 25 (v212)) (1000) 32 = I197 (1000) 32 from by simp [u2_v])).trans (hkI197.get (1000) 32 rfl)).trans (hkI1.get (1000) 32 rfl))
          refine m_callv (m_runV (1000) (As := []) (rest := []) hx hb hml hown hts hE hM hS hA ce_X10_sum tb_1535 (V_X10_sum l D A ad ns (u2 (u2 I197 (1000) 25 (v206)) (1000) 25 (v212)) L198 G hJ hI (by omega)) rfl rfl ⟨Nat.le_of_ble_eq_true rfl, Nat.le_of_ble_eq_true rfl⟩ hJ.1 rfl rfl (by decide) rfl hl.1 rfl (Nat.le_of_ble_eq_true rfl) dX10_compared_95 ⟨Nat.le_of_ble_eq_true rfl, Nat.le_of_ble_eq_true rfl⟩) hS (fun u H locs hw hM hS => ?_)
          obtain ⟨I221, L222, rfl, hI, hkI221, xI221⟩ := hw
          have hM : Mem D A ad ns I221 L222 G H := hM
          have hK := hK.trans hkI221 rfl
          have hC := CT.link (I2 := (u2 (u2 I197 (1000) 25 (v206)) (1000) 25 (v212))) hC (((show (u2 (u2 I197 (1000) 25 (v206)) (1000) 25 (v212)) 1035 = I197 1035 from by funext zz; simp [u2_v])).trans (hkI197.getA 1035 rfl)) (((show (u2 (u2 I197 (1000) 25 (v206)) (1000) 25 (v212)) 1036 = I197 1036 from by funext zz; simp [u2_v])).trans (hkI197.getA 1036 rfl)) (by omega) (by omega)
          have pw223 : (I221 (1000) 24).toInt = (I (1000) 24 : Int32).toInt := congrArg Int32.toInt (((((hkI221.get (1000) 24 rfl)).trans (show (u2 (u2 I197 (1000) 25 (v206)) (1000) 25 (v212)) (1000) 24 = I197 (1000) 24 from by simp [u2_v])).trans (hkI197.get (1000) 24 rfl)).trans (hkI1.get (1000) 24 rfl))
          have pw224 : (I221 (1000) 27).toInt = (I (1000) 27 : Int32).toInt := congrArg Int32.toInt (((((hkI221.get (1000) 27 rfl)).trans (show (u2 (u2 I197 (1000) 25 (v206)) (1000) 25 (v212)) (1000) 27 = I197 (1000) 27 from by simp [u2_v])).trans (hkI197.get (1000) 27 rfl)).trans (hkI1.get (1000) 27 rfl))
          have pw225 : (I221 (1000) 32).toInt = (I (1000) 32 : Int32).toInt := congrArg Int32.toInt (((((hkI221.get (1000) 32 rfl)).trans (show (u2 (u2 I197 (1000) 25 (v206)) (1000) 25 (v212)) (1000) 32 = I197 (1000) 32 from by simp [u2_v])).trans (hkI197.get (1000) 32 rfl)).trans (hkI1.get (1000) 32 rfl))
          have g226 := hI0.get 1000 27 (lo := 0) (hi := 5) rfl
          have g227 := hI0.get 1000 29 (lo := 0) (hi := 300) rfl
          have hC := hC.comp ((xI221.2.2.2.2.2).mono0 (1 + (0))) (by omega) (by omega) (by omega) (by omega) (by omega)
          refine lv_aload_n hx hb dX10_compared_98 rfl (lv_at hl 2 rfl) ?_
          refine lv_iload_n hx hb dX10_compared_99 rfl (lv_at hl 1 rfl) ?_
          refine lv_bipush (v := (61)) hx hb dX10_compared_100 (by decide) ?_
          refine lv_icmp_ne (tgt := 110) hx hb dX10_compared_102 (by decide) (fun c228 => ?_) (fun c228 => ?_)
          · have hc228 := c228
            have q228 := q_ne hc228
            refine lv_iload_n hx hb dX10_compared_110 rfl (lv_at hl 1 rfl) ?_
            refine lv_bipush (v := (60)) hx hb dX10_compared_111 (by decide) ?_
            refine lv_icmp_ne (tgt := 128) hx hb dX10_compared_113 (by decide) (fun c229 => ?_) (fun c229 => ?_)
            · have hc229 := c229
              have q229 := q_ne hc229
              refine lv_iload_n hx hb dX10_compared_128 rfl (lv_at hl 0 rfl) ?_
              refine lv_if_eq (tgt := 137) hx hb dX10_compared_129 (by decide) (fun c230 => ?_) (fun c230 => ?_)
              · have hc230 := c230
                have q230 := q_eq hc230
                refine lv_bipush (v := (8)) hx hb dX10_compared_137 (by decide) ?_
                refine lv_iconst (v := (0)) hx hb dX10_compared_139 (by decide) ?_
                refine m_callv (m_runV (1000) (As := [.int (8), .int (0)]) (rest := []) hx hb hml hown hts hE hM hS hA ce_X10_entry tb_1552 (V_X10_entry l D A ad ns I221 L222 G (8) (0) hJ hI (by omega)) rfl rfl ⟨Nat.le_of_ble_eq_true rfl, Nat.le_of_ble_eq_true rfl⟩ hJ.1 rfl rfl (by decide) rfl hl.1 rfl (Nat.le_of_ble_eq_true rfl) dX10_compared_140 ⟨Nat.le_of_ble_eq_true rfl, Nat.le_of_ble_eq_true rfl⟩) hS (fun u H locs hw hM hS => ?_)
                obtain ⟨I231, L232, rfl, hI, hkI231, xI231⟩ := hw
                have hM : Mem D A ad ns I231 L232 G H := hM
                have hK := hK.trans hkI231 rfl
                have pw233 : (I231 (1000) 24).toInt = (I (1000) 24 : Int32).toInt := congrArg Int32.toInt ((((((hkI231.get (1000) 24 rfl)).trans (hkI221.get (1000) 24 rfl)).trans (show (u2 (u2 I197 (1000) 25 (v206)) (1000) 25 (v212)) (1000) 24 = I197 (1000) 24 from by simp [u2_v])).trans (hkI197.get (1000) 24 rfl)).trans (hkI1.get (1000) 24 rfl))
                have pw234 : (I231 (1000) 25).toInt = (I221 (1000) 25 : Int32).toInt := congrArg Int32.toInt ((hkI231.get (1000) 25 rfl))
                have pw235 : (I231 (1000) 26).toInt = (I221 (1000) 26 : Int32).toInt := congrArg Int32.toInt ((hkI231.get (1000) 26 rfl))
                have pw236 : (I231 (1000) 27).toInt = (I (1000) 27 : Int32).toInt := congrArg Int32.toInt ((((((hkI231.get (1000) 27 rfl)).trans (hkI221.get (1000) 27 rfl)).trans (show (u2 (u2 I197 (1000) 25 (v206)) (1000) 25 (v212)) (1000) 27 = I197 (1000) 27 from by simp [u2_v])).trans (hkI197.get (1000) 27 rfl)).trans (hkI1.get (1000) 27 rfl))
                have pw237 : (I231 (1000) 31).toInt = (I221 (1000) 31 : Int32).toInt := congrArg Int32.toInt ((hkI231.get (1000) 31 rfl))
                have pw238 : (I231 (1000) 32).toInt = (I (1000) 32 : Int32).toInt := congrArg Int32.toInt ((((((hkI231.get (1000) 32 rfl)).trans (hkI221.get (1000) 32 rfl)).trans (show (u2 (u2 I197 (1000) 25 (v206)) (1000) 25 (v212)) (1000) 32 = I197 (1000) 32 from by simp [u2_v])).trans (hkI197.get (1000) 32 rfl)).trans (hkI1.get (1000) 32 rfl))
                have g239 := hI0.get 1000 27 (lo := 0) (hi := 5) rfl
                have g240 := hI0.get 1000 29 (lo := 0) (hi := 300) rfl
                have hC := hC.comp (n2 := 1) (xI231.2.2.ct (by omega) (by omega) (by omega) (by omega)) (by omega) (by omega) (by omega) (by omega) (by omega)
                exact m_vret hx hb hr hlocks hM hS (Nat.le_of_ble_eq_true rfl) (Nat.le_of_ble_eq_true rfl) ⟨_, _, rfl, hI, hK, ⟨by omega, by omega, by omega, by omega, by omega, hC⟩⟩ dX10_compared_143
              · exact absurd c230 (by decide)
            · have hc229 := c229
              have q229 := q_eq hc229
              refine lv_iload_n hx hb dX10_compared_116 rfl (lv_at hl 0 rfl) ?_
              refine lv_if_eq (tgt := 124) hx hb dX10_compared_117 (by decide) (fun c241 => ?_) (fun c241 => ?_)
              · have hc241 := c241
                have q241 := q_eq hc241
                refine lv_iconst (v := (4)) hx hb dX10_compared_124 (by decide) ?_
                refine lv_goto (tgt := 139) hx hb dX10_compared_125 (by decide) ?_
                refine lv_iconst (v := (0)) hx hb dX10_compared_139 (by decide) ?_
                refine m_callv (m_runV (1000) (As := [.int (4), .int (0)]) (rest := []) hx hb hml hown hts hE hM hS hA ce_X10_entry tb_1552 (V_X10_entry l D A ad ns I221 L222 G (4) (0) hJ hI (by omega)) rfl rfl ⟨Nat.le_of_ble_eq_true rfl, Nat.le_of_ble_eq_true rfl⟩ hJ.1 rfl rfl (by decide) rfl hl.1 rfl (Nat.le_of_ble_eq_true rfl) dX10_compared_140 ⟨Nat.le_of_ble_eq_true rfl, Nat.le_of_ble_eq_true rfl⟩) hS (fun u H locs hw hM hS => ?_)
                obtain ⟨I242, L243, rfl, hI, hkI242, xI242⟩ := hw
                have hM : Mem D A ad ns I242 L243 G H := hM
                have hK := hK.trans hkI242 rfl
                have pw244 : (I242 (1000) 24).toInt = (I (1000) 24 : Int32).toInt := congrArg Int32.toInt ((((((hkI242.get (1000) 24 rfl)).trans (hkI221.get (1000) 24 rfl)).trans (show (u2 (u2 I197 (1000) 25 (v206)) (1000) 25 (v212)) (1000) 24 = I197 (1000) 24 from by simp [u2_v])).trans (hkI197.get (1000) 24 rfl)).trans (hkI1.get (1000) 24 rfl))
                have pw245 : (I242 (1000) 25).toInt = (I221 (1000) 25 : Int32).toInt := congrArg Int32.toInt ((hkI242.get (1000) 25 rfl))
                have pw246 : (I242 (1000) 26).toInt = (I221 (1000) 26 : Int32).toInt := congrArg Int32.toInt ((hkI242.get (1000) 26 rfl))
                have pw247 : (I242 (1000) 27).toInt = (I (1000) 27 : Int32).toInt := congrArg Int32.toInt ((((((hkI242.get (1000) 27 rfl)).trans (hkI221.get (1000) 27 rfl)).trans (show (u2 (u2 I197 (1000) 25 (v206)) (1000) 25 (v212)) (1000) 27 = I197 (1000) 27 from by simp [u2_v])).trans (hkI197.get (1000) 27 rfl)).trans (hkI1.get (1000) 27 rfl))
                have pw248 : (I242 (1000) 31).toInt = (I221 (1000) 31 : Int32).toInt := congrArg Int32.toInt ((hkI242.get (1000) 31 rfl))
                have pw249 : (I242 (1000) 32).toInt = (I (1000) 32 : Int32).toInt := congrArg Int32.toInt ((((((hkI242.get (1000) 32 rfl)).trans (hkI221.get (1000) 32 rfl)).trans (show (u2 (u2 I197 (1000) 25 (v206)) (1000) 25 (v212)) (1000) 32 = I197 (1000) 32 from by simp [u2_v])).trans (hkI197.get (1000) 32 rfl)).trans (hkI1.get (1000) 32 rfl))
                have g250 := hI0.get 1000 27 (lo := 0) (hi := 5) rfl
                have g251 := hI0.get 1000 29 (lo := 0) (hi := 300) rfl
                have hC := hC.comp (n2 := 1) (xI242.2.2.ct (by omega) (by omega) (by omega) (by omega)) (by omega) (by omega) (by omega) (by omega) (by omega)
                exact m_vret hx hb hr hlocks hM hS (Nat.le_of_ble_eq_true rfl) (Nat.le_of_ble_eq_true rfl) ⟨_, _, rfl, hI, hK, ⟨by omega, by omega, by omega, by omega, by omega, hC⟩⟩ dX10_compared_143
              · exact absurd c241 (by decide)
          · have hc228 := c228
            have q228 := q_eq hc228
            refine lv_bipush (v := (6)) hx hb dX10_compared_105 (by decide) ?_
            refine lv_goto (tgt := 139) hx hb dX10_compared_107 (by decide) ?_
            refine lv_iconst (v := (0)) hx hb dX10_compared_139 (by decide) ?_
            refine m_callv (m_runV (1000) (As := [.int (6), .int (0)]) (rest := []) hx hb hml hown hts hE hM hS hA ce_X10_entry tb_1552 (V_X10_entry l D A ad ns I221 L222 G (6) (0) hJ hI (by omega)) rfl rfl ⟨Nat.le_of_ble_eq_true rfl, Nat.le_of_ble_eq_true rfl⟩ hJ.1 rfl rfl (by decide) rfl hl.1 rfl (Nat.le_of_ble_eq_true rfl) dX10_compared_140 ⟨Nat.le_of_ble_eq_true rfl, Nat.le_of_ble_eq_true rfl⟩) hS (fun u H locs hw hM hS => ?_)
            obtain ⟨I252, L253, rfl, hI, hkI252, xI252⟩ := hw
            have hM : Mem D A ad ns I252 L253 G H := hM
            have hK := hK.trans hkI252 rfl
            have pw254 : (I252 (1000) 24).toInt = (I (1000) 24 : Int32).toInt := congrArg Int32.toInt ((((((hkI252.get (1000) 24 rfl)).trans (hkI221.get (1000) 24 rfl)).trans (show (u2 (u2 I197 (1000) 25 (v206)) (1000) 25 (v212)) (1000) 24 = I197 (1000) 24 from by simp [u2_v])).trans (hkI197.get (1000) 24 rfl)).trans (hkI1.get (1000) 24 rfl))
            have pw255 : (I252 (1000) 25).toInt = (I221 (1000) 25 : Int32).toInt := congrArg Int32.toInt ((hkI252.get (1000) 25 rfl))
            have pw256 : (I252 (1000) 26).toInt = (I221 (1000) 26 : Int32).toInt := congrArg Int32.toInt ((hkI252.get (1000) 26 rfl))
            have pw257 : (I252 (1000) 27).toInt = (I (1000) 27 : Int32).toInt := congrArg Int32.toInt ((((((hkI252.get (1000) 27 rfl)).trans (hkI221.get (1000) 27 rfl)).trans (show (u2 (u2 I197 (1000) 25 (v206)) (1000) 25 (v212)) (1000) 27 = I197 (1000) 27 from by simp [u2_v])).trans (hkI197.get (1000) 27 rfl)).trans (hkI1.get (1000) 27 rfl))
            have pw258 : (I252 (1000) 31).toInt = (I221 (1000) 31 : Int32).toInt := congrArg Int32.toInt ((hkI252.get (1000) 31 rfl))
            have pw259 : (I252 (1000) 32).toInt = (I (1000) 32 : Int32).toInt := congrArg Int32.toInt ((((((hkI252.get (1000) 32 rfl)).trans (hkI221.get (1000) 32 rfl)).trans (show (u2 (u2 I197 (1000) 25 (v206)) (1000) 25 (v212)) (1000) 32 = I197 (1000) 32 from by simp [u2_v])).trans (hkI197.get (1000) 32 rfl)).trans (hkI1.get (1000) 32 rfl))
            have g260 := hI0.get 1000 27 (lo := 0) (hi := 5) rfl
            have g261 := hI0.get 1000 29 (lo := 0) (hi := 300) rfl
            have hC := hC.comp (n2 := 1) (xI252.2.2.ct (by omega) (by omega) (by omega) (by omega)) (by omega) (by omega) (by omega) (by omega) (by omega)
            exact m_vret hx hb hr hlocks hM hS (Nat.le_of_ble_eq_true rfl) (Nat.le_of_ble_eq_true rfl) ⟨_, _, rfl, hI, hK, ⟨by omega, by omega, by omega, by omega, by omega, hC⟩⟩ dX10_compared_143
        · exact absurd c211 (by decide)
      · have hc208 := c208
        have q208 := q_ne hc208
        refine lv_aload_n hx hb dX10_compared_61 rfl (lv_at hl 1 rfl) ?_
        have pw262 : ((u2 I197 (1000) 25 (v206)) (1000) 24).toInt = (I (1000) 24 : Int32).toInt := congrArg Int32.toInt ((((show (u2 I197 (1000) 25 (v206)) (1000) 24 = I197 (1000) 24 from by simp [u2_v])).trans (hkI197.get (1000) 24 rfl)).trans (hkI1.get (1000) 24 rfl))
        have pw263 : ((u2 I197 (1000) 25 (v206)) (1000) 25).toInt = (v206 : Int32).toInt := congrArg Int32.toInt ((show (u2 I197 (1000) 25 (v206)) (1000) 25 = v206 from by simp [u2_v]))
        have pw264 : ((u2 I197 (1000) 25 (v206)) (1000) 26).toInt = (I197 (1000) 26 : Int32).toInt := congrArg Int32.toInt ((show (u2 I197 (1000) 25 (v206)) (1000) 26 = I197 (1000) 26 from by simp [u2_v]))
        have pw265 : ((u2 I197 (1000) 25 (v206)) (1000) 27).toInt = (I (1000) 27 : Int32).toInt := congrArg Int32.toInt ((((show (u2 I197 (1000) 25 (v206)) (1000) 27 = I197 (1000) 27 from by simp [u2_v])).trans (hkI197.get (1000) 27 rfl)).trans (hkI1.get (1000) 27 rfl))
        have pw266 : ((u2 I197 (1000) 25 (v206)) (1000) 29).toInt = (I1 (1000) 29 : Int32).toInt := congrArg Int32.toInt (((show (u2 I197 (1000) 25 (v206)) (1000) 29 = I197 (1000) 29 from by simp [u2_v])).trans (hkI197.get (1000) 29 rfl))
        have pw267 : ((u2 I197 (1000) 25 (v206)) (1000) 31).toInt = (I197 (1000) 31 : Int32).toInt := congrArg Int32.toInt ((show (u2 I197 (1000) 25 (v206)) (1000) 31 = I197 (1000) 31 from by simp [u2_v]))
        have pw268 : ((u2 I197 (1000) 25 (v206)) (1000) 32).toInt = (I (1000) 32 : Int32).toInt := congrArg Int32.toInt ((((show (u2 I197 (1000) 25 (v206)) (1000) 32 = I197 (1000) 32 from by simp [u2_v])).trans (hkI197.get (1000) 32 rfl)).trans (hkI1.get (1000) 32 rfl))
        refine m_calli (m_runV (1000) (As := []) (rest := []) hx hb hml hown hts hE hM hS hA ce_X10_sign tb_1510 (V_X10_sign l D A ad ns (u2 I197 (1000) 25 (v206)) L198 G hJ hI) rfl rfl ⟨Nat.le_of_ble_eq_true rfl, Nat.le_of_ble_eq_true rfl⟩ hJ.1 rfl rfl (by decide) rfl hl.1 rfl (Nat.le_of_ble_eq_true rfl) dX10_compared_62 ⟨Nat.le_of_ble_eq_true rfl, Nat.le_of_ble_eq_true rfl⟩) hS (fun r269 u H locs hw hM hS => ?_)
        obtain ⟨rfl, xr269⟩ := hw
        have hM : Mem D A ad ns (u2 I197 (1000) 25 (v206)) L198 G H := hM
        have g270 := hI.get 1000 24 (lo := 0) (hi := 400) rfl
        have g271 := hI.get 1000 25 (lo := 0) (hi := 100000) rfl
        refine lv_bipush (v := (61)) hx hb dX10_compared_65 (by decide) ?_
        refine lv_icmp_ne (tgt := 74) hx hb dX10_compared_67 (by decide) (fun c272 => ?_) (fun c272 => ?_)
        · have hc272 := c272
          have q272 := q_ne hc272
          refine lv_iconst (v := (0)) hx hb dX10_compared_74 (by decide) ?_
          refine lv_istore_n (lv' := [(2, .int (0)), (1, .int (r8)), (0, .ref (ad (1000)))]) hx hb dX10_compared_75 rfl hl (by decide) rfl (fun ls hl => ?_)
          refine lv_aload_n hx hb dX10_compared_76 rfl (lv_at hl 2 rfl) ?_
          refine lv_dup hx hb dX10_compared_77 rfl ?_
          refine m_geti (1000) 25 hx hb hts hown hE oc10 hM hJ.1 rfl (by decide) rfl tb_1202 dX10_compared_78 ?_
          have g273 := hI.get (1000) 25 (lo := 0) (hi := 100000) rfl
          have z274 : (u2 I197 (1000) 25 (v206)) (1000) 25 = v206 := (show (u2 I197 (1000) 25 (v206)) (1000) 25 = v206 from by simp [u2_v])
          rw [z274] at g273 ⊢
          refine lv_iload_n hx hb dX10_compared_81 rfl (lv_at hl 0 rfl) ?_
          refine lv_if_eq (tgt := 89) hx hb dX10_compared_82 (by decide) (fun c275 => ?_) (fun c275 => ?_)
          · have hc275 := c275
            have q275 := q_eq hc275
            refine lv_iconst (v := (0)) hx hb dX10_compared_89 (by decide) ?_
            refine lv_iadd hx hb dX10_compared_90 ?_
            refine lv_topi (fun v276 ev276 => ?_)
            have tv276 := a_add ev276 (by omega) (by omega)
            refine m_puti (1000) 25 hx hb hts hown hE oc10 hM hS hJ.1 rfl (by decide) rfl rfl rfl rfl tb_1202 dX10_compared_91 (fun H locs I277 eI277 hM hS => ?_)
            subst eI277
            have hI := hI.put (n := 1000) (k := 25) (v := v276) (lo := 0) (hi := 100000) rfl (by first | omega | decide)
            have hK := hK.put (n := 1000) (k := 25) (v := v276) (by first | rfl | simp [inR])
            refine lv_aload_n hx hb dX10_compared_94 rfl (lv_at hl 2 rfl) ?_
            have pw278 : ((u2 (u2 I197 (1000) 25 (v206)) (1000) 25 (v276)) (1000) 24).toInt = (I (1000) 24 : Int32).toInt := congrArg Int32.toInt ((((show (u2 (u2 I197 (1000) 25 (v206)) (1000) 25 (v276)) (1000) 24 = I197 (1000) 24 from by simp [u2_v])).trans (hkI197.get (1000) 24 rfl)).trans (hkI1.get (1000) 24 rfl))
            have pw279 : ((u2 (u2 I197 (1000) 25 (v206)) (1000) 25 (v276)) (1000) 25).toInt = (v276 : Int32).toInt := congrArg Int32.toInt ((show (u2 (u2 I197 (1000) 25 (v206)) (1000) 25 (v276)) (1000) 25 = v276 from by simp [u2_v]))
            have pw280 : ((u2 (u2 I197 (1000) 25 (v206)) (1000) 25 (v276)) (1000) 26).toInt = (I197 (1000) 26 : Int32).toInt := congrArg Int32.toInt ((show (u2 (u2 I197 (1000) 25 (v206)) (1000) 25 (v276)) (1000) 26 = I197 (1000) 26 from by simp [u2_v]))
            have pw281 : ((u2 (u2 I197 (1000) 25 (v206)) (1000) 25 (v276)) (1000) 27).toInt = (I (1000) 27 : Int32).toInt := congrArg Int32.toInt ((((show (u2 (u2 I197 (1000) 25 (v206)) (1000) 25 (v276)) (1000) 27 = I197 (1000) 27 from by simp [u2_v])).trans (hkI197.get (1000) 27 rfl)).trans (hkI1.get (1000) 27 rfl))
            have pw282 : ((u2 (u2 I197 (1000) 25 (v206)) (1000) 25 (v276)) (1000) 29).toInt = (I1 (1000) 29 : Int32).toInt := congrArg Int32.toInt (((show (u2 (u2 I197 (1000) 25 (v206)) (1000) 25 (v276)) (1000) 29 = I197 (1000) 29 from by simp [u2_v])).trans (hkI197.get (1000) 29 rfl))
            have pw283 : ((u2 (u2 I197 (1000) 25 (v206)) (1000) 25 (v276)) (1000) 31).toInt = (I197 (1000) 31 : Int32).toInt := congrArg Int32.toInt ((show (u2 (u2 I197 (1000) 25 (v206)) (1000) 25 (v276)) (1000) 31 = I197 (1000) 31 from by simp [u2_v]))
            have pw284 : ((u2 (u2 I197 (1000) 25 (v206)) (1000) 25 (v276)) (1000) 32).toInt = (I (1000) 32 : Int32).toInt := congrArg Int32.toInt ((((show (u2 (u2 I197 (1000) 25 (v206)) (1000) 25 (v276)) (1000) 32 = I197 (1000) 32 from by simp [u2_v])).trans (hkI197.get (1000) 32 rfl)).trans (hkI1.get (1000) 32 rfl))
            refine m_callv (m_runV (1000) (As := []) (rest := []) hx hb hml hown hts hE hM hS hA ce_X10_sum tb_1535 (V_X10_sum l D A ad ns (u2 (u2 I197 (1000) 25 (v206)) (1000) 25 (v276)) L198 G hJ hI (by omega)) rfl rfl ⟨Nat.le_of_ble_eq_true rfl, Nat.le_of_ble_eq_true rfl⟩ hJ.1 rfl rfl (by decide) rfl hl.1 rfl (Nat.le_of_ble_eq_true rfl) dX10_compared_95 ⟨Nat.le_of_ble_eq_true rfl, Nat.le_of_ble_eq_true rfl⟩) hS (fun u H locs hw hM hS => ?_)
            obtain ⟨I285, L286, rfl, hI, hkI285, xI285⟩ := hw
            have hM : Mem D A ad ns I285 L286 G H := hM
            have hK := hK.trans hkI285 rfl
            have hC := CT.link (I2 := (u2 (u2 I197 (1000) 25 (v206)) (1000) 25 (v276))) hC (((show (u2 (u2 I197 (1000) 25 (v206)) (1000) 25 (v276)) 1035 = I197 1035 from by funext zz; simp [u2_v])).trans (hkI197.getA 1035 rfl)) (((show (u2 (u2 I197 (1000) 25 (v206)) (1000) 25 (v276)) 1036 = I197 1036 from by funext zz; simp [u2_v])).trans (hkI197.getA 1036 rfl)) (by omega) (by omega)
            have pw287 : (I285 (1000) 24).toInt = (I (1000) 24 : Int32).toInt := congrArg Int32.toInt (((((hkI285.get (1000) 24 rfl)).trans (show (u2 (u2 I197 (1000) 25 (v206)) (1000) 25 (v276)) (1000) 24 = I197 (1000) 24 from by simp [u2_v])).trans (hkI197.get (1000) 24 rfl)).trans (hkI1.get (1000) 24 rfl))
            have pw288 : (I285 (1000) 27).toInt = (I (1000) 27 : Int32).toInt := congrArg Int32.toInt (((((hkI285.get (1000) 27 rfl)).trans (show (u2 (u2 I197 (1000) 25 (v206)) (1000) 25 (v276)) (1000) 27 = I197 (1000) 27 from by simp [u2_v])).trans (hkI197.get (1000) 27 rfl)).trans (hkI1.get (1000) 27 rfl))
            have pw289 : (I285 (1000) 32).toInt = (I (1000) 32 : Int32).toInt := congrArg Int32.toInt (((((hkI285.get (1000) 32 rfl)).trans (show (u2 (u2 I197 (1000) 25 (v206)) (1000) 25 (v276)) (1000) 32 = I197 (1000) 32 from by simp [u2_v])).trans (hkI197.get (1000) 32 rfl)).trans (hkI1.get (1000) 32 rfl))
            have g290 := hI0.get 1000 27 (lo := 0) (hi := 5) rfl
            have g291 := hI0.get 1000 29 (lo := 0) (hi := 300) rfl
            have hC := hC.comp ((xI285.2.2.2.2.2).mono0 (1 + (0))) (by omega) (by omega) (by omega) (by omega) (by omega)
            refine lv_aload_n hx hb dX10_compared_98 rfl (lv_at hl 2 rfl) ?_
            refine lv_iload_n hx hb dX10_compared_99 rfl (lv_at hl 1 rfl) ?_
            refine lv_bipush (v := (61)) hx hb dX10_compared_100 (by decide) ?_
            refine lv_icmp_ne (tgt := 110) hx hb dX10_compared_102 (by decide) (fun c292 => ?_) (fun c292 => ?_)
            · have hc292 := c292
              have q292 := q_ne hc292
              refine lv_iload_n hx hb dX10_compared_110 rfl (lv_at hl 1 rfl) ?_
              refine lv_bipush (v := (60)) hx hb dX10_compared_111 (by decide) ?_
              refine lv_icmp_ne (tgt := 128) hx hb dX10_compared_113 (by decide) (fun c293 => ?_) (fun c293 => ?_)
              · have hc293 := c293
                have q293 := q_ne hc293
                refine lv_iload_n hx hb dX10_compared_128 rfl (lv_at hl 0 rfl) ?_
                refine lv_if_eq (tgt := 137) hx hb dX10_compared_129 (by decide) (fun c294 => ?_) (fun c294 => ?_)
                · have hc294 := c294
                  have q294 := q_eq hc294
                  refine lv_bipush (v := (8)) hx hb dX10_compared_137 (by decide) ?_
                  refine lv_iconst (v := (0)) hx hb dX10_compared_139 (by decide) ?_
                  refine m_callv (m_runV (1000) (As := [.int (8), .int (0)]) (rest := []) hx hb hml hown hts hE hM hS hA ce_X10_entry tb_1552 (V_X10_entry l D A ad ns I285 L286 G (8) (0) hJ hI (by omega)) rfl rfl ⟨Nat.le_of_ble_eq_true rfl, Nat.le_of_ble_eq_true rfl⟩ hJ.1 rfl rfl (by decide) rfl hl.1 rfl (Nat.le_of_ble_eq_true rfl) dX10_compared_140 ⟨Nat.le_of_ble_eq_true rfl, Nat.le_of_ble_eq_true rfl⟩) hS (fun u H locs hw hM hS => ?_)
                  obtain ⟨I295, L296, rfl, hI, hkI295, xI295⟩ := hw
                  have hM : Mem D A ad ns I295 L296 G H := hM
                  have hK := hK.trans hkI295 rfl
                  have pw297 : (I295 (1000) 24).toInt = (I (1000) 24 : Int32).toInt := congrArg Int32.toInt ((((((hkI295.get (1000) 24 rfl)).trans (hkI285.get (1000) 24 rfl)).trans (show (u2 (u2 I197 (1000) 25 (v206)) (1000) 25 (v276)) (1000) 24 = I197 (1000) 24 from by simp [u2_v])).trans (hkI197.get (1000) 24 rfl)).trans (hkI1.get (1000) 24 rfl))
                  have pw298 : (I295 (1000) 25).toInt = (I285 (1000) 25 : Int32).toInt := congrArg Int32.toInt ((hkI295.get (1000) 25 rfl))
                  have pw299 : (I295 (1000) 26).toInt = (I285 (1000) 26 : Int32).toInt := congrArg Int32.toInt ((hkI295.get (1000) 26 rfl))
                  have pw300 : (I295 (1000) 27).toInt = (I (1000) 27 : Int32).toInt := congrArg Int32.toInt ((((((hkI295.get (1000) 27 rfl)).trans (hkI285.get (1000) 27 rfl)).trans (show (u2 (u2 I197 (1000) 25 (v206)) (1000) 25 (v276)) (1000) 27 = I197 (1000) 27 from by simp [u2_v])).trans (hkI197.get (1000) 27 rfl)).trans (hkI1.get (1000) 27 rfl))
                  have pw301 : (I295 (1000) 31).toInt = (I285 (1000) 31 : Int32).toInt := congrArg Int32.toInt ((hkI295.get (1000) 31 rfl))
                  have pw302 : (I295 (1000) 32).toInt = (I (1000) 32 : Int32).toInt := congrArg Int32.toInt ((((((hkI295.get (1000) 32 rfl)).trans (hkI285.get (1000) 32 rfl)).trans (show (u2 (u2 I197 (1000) 25 (v206)) (1000) 25 (v276)) (1000) 32 = I197 (1000) 32 from by simp [u2_v])).trans (hkI197.get (1000) 32 rfl)).trans (hkI1.get (1000) 32 rfl))
                  have g303 := hI0.get 1000 27 (lo := 0) (hi := 5) rfl
                  have g304 := hI0.get 1000 29 (lo := 0) (hi := 300) rfl
                  have hC := hC.comp (n2 := 1) (xI295.2.2.ct (by omega) (by omega) (by omega) (by omega)) (by omega) (by omega) (by omega) (by omega) (by omega)
                  exact m_vret hx hb hr hlocks hM hS (Nat.le_of_ble_eq_true rfl) (Nat.le_of_ble_eq_true rfl) ⟨_, _, rfl, hI, hK, ⟨by omega, by omega, by omega, by omega, by omega, hC⟩⟩ dX10_compared_143
                · exact absurd c294 (by decide)
              · have hc293 := c293
                have q293 := q_eq hc293
                refine lv_iload_n hx hb dX10_compared_116 rfl (lv_at hl 0 rfl) ?_
                refine lv_if_eq (tgt := 124) hx hb dX10_compared_117 (by decide) (fun c305 => ?_) (fun c305 => ?_)
                · have hc305 := c305
                  have q305 := q_eq hc305
                  refine lv_iconst (v := (4)) hx hb dX10_compared_124 (by decide) ?_
                  refine lv_goto (tgt := 139) hx hb dX10_compared_125 (by decide) ?_
                  refine lv_iconst (v := (0)) hx hb dX10_compared_139 (by decide) ?_
                  refine m_callv (m_runV (1000) (As := [.int (4), .int (0)]) (rest := []) hx hb hml hown hts hE hM hS hA ce_X10_entry tb_1552 (V_X10_entry l D A ad ns I285 L286 G (4) (0) hJ hI (by omega)) rfl rfl ⟨Nat.le_of_ble_eq_true rfl, Nat.le_of_ble_eq_true rfl⟩ hJ.1 rfl rfl (by decide) rfl hl.1 rfl (Nat.le_of_ble_eq_true rfl) dX10_compared_140 ⟨Nat.le_of_ble_eq_true rfl, Nat.le_of_ble_eq_true rfl⟩) hS (fun u H locs hw hM hS => ?_)
                  obtain ⟨I306, L307, rfl, hI, hkI306, xI306⟩ := hw
                  have hM : Mem D A ad ns I306 L307 G H := hM
                  have hK := hK.trans hkI306 rfl
                  have pw308 : (I306 (1000) 24).toInt = (I (1000) 24 : Int32).toInt := congrArg Int32.toInt ((((((hkI306.get (1000) 24 rfl)).trans (hkI285.get (1000) 24 rfl)).trans (show (u2 (u2 I197 (1000) 25 (v206)) (1000) 25 (v276)) (1000) 24 = I197 (1000) 24 from by simp [u2_v])).trans (hkI197.get (1000) 24 rfl)).trans (hkI1.get (1000) 24 rfl))
                  have pw309 : (I306 (1000) 25).toInt = (I285 (1000) 25 : Int32).toInt := congrArg Int32.toInt ((hkI306.get (1000) 25 rfl))
                  have pw310 : (I306 (1000) 26).toInt = (I285 (1000) 26 : Int32).toInt := congrArg Int32.toInt ((hkI306.get (1000) 26 rfl))
                  have pw311 : (I306 (1000) 27).toInt = (I (1000) 27 : Int32).toInt := congrArg Int32.toInt ((((((hkI306.get (1000) 27 rfl)).trans (hkI285.get (1000) 27 rfl)).trans (show (u2 (u2 I197 (1000) 25 (v206)) (1000) 25 (v276)) (1000) 27 = I197 (1000) 27 from by simp [u2_v])).trans (hkI197.get (1000) 27 rfl)).trans (hkI1.get (1000) 27 rfl))
                  have pw312 : (I306 (1000) 31).toInt = (I285 (1000) 31 : Int32).toInt := congrArg Int32.toInt ((hkI306.get (1000) 31 rfl))
                  have pw313 : (I306 (1000) 32).toInt = (I (1000) 32 : Int32).toInt := congrArg Int32.toInt ((((((hkI306.get (1000) 32 rfl)).trans (hkI285.get (1000) 32 rfl)).trans (show (u2 (u2 I197 (1000) 25 (v206)) (1000) 25 (v276)) (1000) 32 = I197 (1000) 32 from by simp [u2_v])).trans (hkI197.get (1000) 32 rfl)).trans (hkI1.get (1000) 32 rfl))
                  have g314 := hI0.get 1000 27 (lo := 0) (hi := 5) rfl
                  have g315 := hI0.get 1000 29 (lo := 0) (hi := 300) rfl
                  have hC := hC.comp (n2 := 1) (xI306.2.2.ct (by omega) (by omega) (by omega) (by omega)) (by omega) (by omega) (by omega) (by omega) (by omega)
                  exact m_vret hx hb hr hlocks hM hS (Nat.le_of_ble_eq_true rfl) (Nat.le_of_ble_eq_true rfl) ⟨_, _, rfl, hI, hK, ⟨by omega, by omega, by omega, by omega, by omega, hC⟩⟩ dX10_compared_143
                · exact absurd c305 (by decide)
            · have hc292 := c292
              have q292 := q_eq hc292
              refine lv_bipush (v := (6)) hx hb dX10_compared_105 (by decide) ?_
              refine lv_goto (tgt := 139) hx hb dX10_compared_107 (by decide) ?_
              refine lv_iconst (v := (0)) hx hb dX10_compared_139 (by decide) ?_
              refine m_callv (m_runV (1000) (As := [.int (6), .int (0)]) (rest := []) hx hb hml hown hts hE hM hS hA ce_X10_entry tb_1552 (V_X10_entry l D A ad ns I285 L286 G (6) (0) hJ hI (by omega)) rfl rfl ⟨Nat.le_of_ble_eq_true rfl, Nat.le_of_ble_eq_true rfl⟩ hJ.1 rfl rfl (by decide) rfl hl.1 rfl (Nat.le_of_ble_eq_true rfl) dX10_compared_140 ⟨Nat.le_of_ble_eq_true rfl, Nat.le_of_ble_eq_true rfl⟩) hS (fun u H locs hw hM hS => ?_)
              obtain ⟨I316, L317, rfl, hI, hkI316, xI316⟩ := hw
              have hM : Mem D A ad ns I316 L317 G H := hM
              have hK := hK.trans hkI316 rfl
              have pw318 : (I316 (1000) 24).toInt = (I (1000) 24 : Int32).toInt := congrArg Int32.toInt ((((((hkI316.get (1000) 24 rfl)).trans (hkI285.get (1000) 24 rfl)).trans (show (u2 (u2 I197 (1000) 25 (v206)) (1000) 25 (v276)) (1000) 24 = I197 (1000) 24 from by simp [u2_v])).trans (hkI197.get (1000) 24 rfl)).trans (hkI1.get (1000) 24 rfl))
              have pw319 : (I316 (1000) 25).toInt = (I285 (1000) 25 : Int32).toInt := congrArg Int32.toInt ((hkI316.get (1000) 25 rfl))
              have pw320 : (I316 (1000) 26).toInt = (I285 (1000) 26 : Int32).toInt := congrArg Int32.toInt ((hkI316.get (1000) 26 rfl))
              have pw321 : (I316 (1000) 27).toInt = (I (1000) 27 : Int32).toInt := congrArg Int32.toInt ((((((hkI316.get (1000) 27 rfl)).trans (hkI285.get (1000) 27 rfl)).trans (show (u2 (u2 I197 (1000) 25 (v206)) (1000) 25 (v276)) (1000) 27 = I197 (1000) 27 from by simp [u2_v])).trans (hkI197.get (1000) 27 rfl)).trans (hkI1.get (1000) 27 rfl))
              have pw322 : (I316 (1000) 31).toInt = (I285 (1000) 31 : Int32).toInt := congrArg Int32.toInt ((hkI316.get (1000) 31 rfl))
              have pw323 : (I316 (1000) 32).toInt = (I (1000) 32 : Int32).toInt := congrArg Int32.toInt ((((((hkI316.get (1000) 32 rfl)).trans (hkI285.get (1000) 32 rfl)).trans (show (u2 (u2 I197 (1000) 25 (v206)) (1000) 25 (v276)) (1000) 32 = I197 (1000) 32 from by simp [u2_v])).trans (hkI197.get (1000) 32 rfl)).trans (hkI1.get (1000) 32 rfl))
              have g324 := hI0.get 1000 27 (lo := 0) (hi := 5) rfl
              have g325 := hI0.get 1000 29 (lo := 0) (hi := 300) rfl
              have hC := hC.comp (n2 := 1) (xI316.2.2.ct (by omega) (by omega) (by omega) (by omega)) (by omega) (by omega) (by omega) (by omega) (by omega)
              exact m_vret hx hb hr hlocks hM hS (Nat.le_of_ble_eq_true rfl) (Nat.le_of_ble_eq_true rfl) ⟨_, _, rfl, hI, hK, ⟨by omega, by omega, by omega, by omega, by omega, hC⟩⟩ dX10_compared_143
          · exact absurd c275 (by decide)
        · have hc272 := c272
          have q272 := q_eq hc272
          refine lv_iconst (v := (1)) hx hb dX10_compared_70 (by decide) ?_
          refine lv_goto (tgt := 75) hx hb dX10_compared_71 (by decide) ?_
          refine lv_istore_n (lv' := [(2, .int (1)), (1, .int (r8)), (0, .ref (ad (1000)))]) hx hb dX10_compared_75 rfl hl (by decide) rfl (fun ls hl => ?_)
          refine lv_aload_n hx hb dX10_compared_76 rfl (lv_at hl 2 rfl) ?_
          refine lv_dup hx hb dX10_compared_77 rfl ?_
          refine m_geti (1000) 25 hx hb hts hown hE oc10 hM hJ.1 rfl (by decide) rfl tb_1202 dX10_compared_78 ?_
          have g326 := hI.get (1000) 25 (lo := 0) (hi := 100000) rfl
          have z327 : (u2 I197 (1000) 25 (v206)) (1000) 25 = v206 := (show (u2 I197 (1000) 25 (v206)) (1000) 25 = v206 from by simp [u2_v])
          rw [z327] at g326 ⊢
          refine lv_iload_n hx hb dX10_compared_81 rfl (lv_at hl 0 rfl) ?_
          refine lv_if_eq (tgt := 89) hx hb dX10_compared_82 (by decide) (fun c328 => ?_) (fun c328 => ?_)
          · exact absurd c328 (by decide)
          · have hc328 := c328
            have q328 := q_ne hc328
            refine lv_iconst (v := (1)) hx hb dX10_compared_85 (by decide) ?_
            refine lv_goto (tgt := 90) hx hb dX10_compared_86 (by decide) ?_
            refine lv_iadd hx hb dX10_compared_90 ?_
            refine lv_topi (fun v329 ev329 => ?_)
            have tv329 := a_add ev329 (by omega) (by omega)
            refine m_puti (1000) 25 hx hb hts hown hE oc10 hM hS hJ.1 rfl (by decide) rfl rfl rfl rfl tb_1202 dX10_compared_91 (fun H locs I330 eI330 hM hS => ?_)
            subst eI330
            have hI := hI.put (n := 1000) (k := 25) (v := v329) (lo := 0) (hi := 100000) rfl (by first | omega | decide)
            have hK := hK.put (n := 1000) (k := 25) (v := v329) (by first | rfl | simp [inR])
            refine lv_aload_n hx hb dX10_compared_94 rfl (lv_at hl 2 rfl) ?_
            have pw331 : ((u2 (u2 I197 (1000) 25 (v206)) (1000) 25 (v329)) (1000) 24).toInt = (I (1000) 24 : Int32).toInt := congrArg Int32.toInt ((((show (u2 (u2 I197 (1000) 25 (v206)) (1000) 25 (v329)) (1000) 24 = I197 (1000) 24 from by simp [u2_v])).trans (hkI197.get (1000) 24 rfl)).trans (hkI1.get (1000) 24 rfl))
            have pw332 : ((u2 (u2 I197 (1000) 25 (v206)) (1000) 25 (v329)) (1000) 25).toInt = (v329 : Int32).toInt := congrArg Int32.toInt ((show (u2 (u2 I197 (1000) 25 (v206)) (1000) 25 (v329)) (1000) 25 = v329 from by simp [u2_v]))
            have pw333 : ((u2 (u2 I197 (1000) 25 (v206)) (1000) 25 (v329)) (1000) 26).toInt = (I197 (1000) 26 : Int32).toInt := congrArg Int32.toInt ((show (u2 (u2 I197 (1000) 25 (v206)) (1000) 25 (v329)) (1000) 26 = I197 (1000) 26 from by simp [u2_v]))
            have pw334 : ((u2 (u2 I197 (1000) 25 (v206)) (1000) 25 (v329)) (1000) 27).toInt = (I (1000) 27 : Int32).toInt := congrArg Int32.toInt ((((show (u2 (u2 I197 (1000) 25 (v206)) (1000) 25 (v329)) (1000) 27 = I197 (1000) 27 from by simp [u2_v])).trans (hkI197.get (1000) 27 rfl)).trans (hkI1.get (1000) 27 rfl))
            have pw335 : ((u2 (u2 I197 (1000) 25 (v206)) (1000) 25 (v329)) (1000) 29).toInt = (I1 (1000) 29 : Int32).toInt := congrArg Int32.toInt (((show (u2 (u2 I197 (1000) 25 (v206)) (1000) 25 (v329)) (1000) 29 = I197 (1000) 29 from by simp [u2_v])).trans (hkI197.get (1000) 29 rfl))
            have pw336 : ((u2 (u2 I197 (1000) 25 (v206)) (1000) 25 (v329)) (1000) 31).toInt = (I197 (1000) 31 : Int32).toInt := congrArg Int32.toInt ((show (u2 (u2 I197 (1000) 25 (v206)) (1000) 25 (v329)) (1000) 31 = I197 (1000) 31 from by simp [u2_v]))
            have pw337 : ((u2 (u2 I197 (1000) 25 (v206)) (1000) 25 (v329)) (1000) 32).toInt = (I (1000) 32 : Int32).toInt := congrArg Int32.toInt ((((show (u2 (u2 I197 (1000) 25 (v206)) (1000) 25 (v329)) (1000) 32 = I197 (1000) 32 from by simp [u2_v])).trans (hkI197.get (1000) 32 rfl)).trans (hkI1.get (1000) 32 rfl))
            refine m_callv (m_runV (1000) (As := []) (rest := []) hx hb hml hown hts hE hM hS hA ce_X10_sum tb_1535 (V_X10_sum l D A ad ns (u2 (u2 I197 (1000) 25 (v206)) (1000) 25 (v329)) L198 G hJ hI (by omega)) rfl rfl ⟨Nat.le_of_ble_eq_true rfl, Nat.le_of_ble_eq_true rfl⟩ hJ.1 rfl rfl (by decide) rfl hl.1 rfl (Nat.le_of_ble_eq_true rfl) dX10_compared_95 ⟨Nat.le_of_ble_eq_true rfl, Nat.le_of_ble_eq_true rfl⟩) hS (fun u H locs hw hM hS => ?_)
            obtain ⟨I338, L339, rfl, hI, hkI338, xI338⟩ := hw
            have hM : Mem D A ad ns I338 L339 G H := hM
            have hK := hK.trans hkI338 rfl
            have hC := CT.link (I2 := (u2 (u2 I197 (1000) 25 (v206)) (1000) 25 (v329))) hC (((show (u2 (u2 I197 (1000) 25 (v206)) (1000) 25 (v329)) 1035 = I197 1035 from by funext zz; simp [u2_v])).trans (hkI197.getA 1035 rfl)) (((show (u2 (u2 I197 (1000) 25 (v206)) (1000) 25 (v329)) 1036 = I197 1036 from by funext zz; simp [u2_v])).trans (hkI197.getA 1036 rfl)) (by omega) (by omega)
            have pw340 : (I338 (1000) 24).toInt = (I (1000) 24 : Int32).toInt := congrArg Int32.toInt (((((hkI338.get (1000) 24 rfl)).trans (show (u2 (u2 I197 (1000) 25 (v206)) (1000) 25 (v329)) (1000) 24 = I197 (1000) 24 from by simp [u2_v])).trans (hkI197.get (1000) 24 rfl)).trans (hkI1.get (1000) 24 rfl))
            have pw341 : (I338 (1000) 27).toInt = (I (1000) 27 : Int32).toInt := congrArg Int32.toInt (((((hkI338.get (1000) 27 rfl)).trans (show (u2 (u2 I197 (1000) 25 (v206)) (1000) 25 (v329)) (1000) 27 = I197 (1000) 27 from by simp [u2_v])).trans (hkI197.get (1000) 27 rfl)).trans (hkI1.get (1000) 27 rfl))
            have pw342 : (I338 (1000) 32).toInt = (I (1000) 32 : Int32).toInt := congrArg Int32.toInt (((((hkI338.get (1000) 32 rfl)).trans (show (u2 (u2 I197 (1000) 25 (v206)) (1000) 25 (v329)) (1000) 32 = I197 (1000) 32 from by simp [u2_v])).trans (hkI197.get (1000) 32 rfl)).trans (hkI1.get (1000) 32 rfl))
            have g343 := hI0.get 1000 27 (lo := 0) (hi := 5) rfl
            have g344 := hI0.get 1000 29 (lo := 0) (hi := 300) rfl
            have hC := hC.comp ((xI338.2.2.2.2.2).mono0 (1 + (0))) (by omega) (by omega) (by omega) (by omega) (by omega)
            refine lv_aload_n hx hb dX10_compared_98 rfl (lv_at hl 2 rfl) ?_
            refine lv_iload_n hx hb dX10_compared_99 rfl (lv_at hl 1 rfl) ?_
            refine lv_bipush (v := (61)) hx hb dX10_compared_100 (by decide) ?_
            refine lv_icmp_ne (tgt := 110) hx hb dX10_compared_102 (by decide) (fun c345 => ?_) (fun c345 => ?_)
            · have hc345 := c345
              have q345 := q_ne hc345
              refine lv_iload_n hx hb dX10_compared_110 rfl (lv_at hl 1 rfl) ?_
              refine lv_bipush (v := (60)) hx hb dX10_compared_111 (by decide) ?_
              refine lv_icmp_ne (tgt := 128) hx hb dX10_compared_113 (by decide) (fun c346 => ?_) (fun c346 => ?_)
              · have hc346 := c346
                have q346 := q_ne hc346
                refine lv_iload_n hx hb dX10_compared_128 rfl (lv_at hl 0 rfl) ?_
                refine lv_if_eq (tgt := 137) hx hb dX10_compared_129 (by decide) (fun c347 => ?_) (fun c347 => ?_)
                · exact absurd c347 (by decide)
                · have hc347 := c347
                  have q347 := q_ne hc347
                  refine lv_bipush (v := (7)) hx hb dX10_compared_132 (by decide) ?_
                  refine lv_goto (tgt := 139) hx hb dX10_compared_134 (by decide) ?_
                  refine lv_iconst (v := (0)) hx hb dX10_compared_139 (by decide) ?_
                  refine m_callv (m_runV (1000) (As := [.int (7), .int (0)]) (rest := []) hx hb hml hown hts hE hM hS hA ce_X10_entry tb_1552 (V_X10_entry l D A ad ns I338 L339 G (7) (0) hJ hI (by omega)) rfl rfl ⟨Nat.le_of_ble_eq_true rfl, Nat.le_of_ble_eq_true rfl⟩ hJ.1 rfl rfl (by decide) rfl hl.1 rfl (Nat.le_of_ble_eq_true rfl) dX10_compared_140 ⟨Nat.le_of_ble_eq_true rfl, Nat.le_of_ble_eq_true rfl⟩) hS (fun u H locs hw hM hS => ?_)
                  obtain ⟨I348, L349, rfl, hI, hkI348, xI348⟩ := hw
                  have hM : Mem D A ad ns I348 L349 G H := hM
                  have hK := hK.trans hkI348 rfl
                  have pw350 : (I348 (1000) 24).toInt = (I (1000) 24 : Int32).toInt := congrArg Int32.toInt ((((((hkI348.get (1000) 24 rfl)).trans (hkI338.get (1000) 24 rfl)).trans (show (u2 (u2 I197 (1000) 25 (v206)) (1000) 25 (v329)) (1000) 24 = I197 (1000) 24 from by simp [u2_v])).trans (hkI197.get (1000) 24 rfl)).trans (hkI1.get (1000) 24 rfl))
                  have pw351 : (I348 (1000) 25).toInt = (I338 (1000) 25 : Int32).toInt := congrArg Int32.toInt ((hkI348.get (1000) 25 rfl))
                  have pw352 : (I348 (1000) 26).toInt = (I338 (1000) 26 : Int32).toInt := congrArg Int32.toInt ((hkI348.get (1000) 26 rfl))
                  have pw353 : (I348 (1000) 27).toInt = (I (1000) 27 : Int32).toInt := congrArg Int32.toInt ((((((hkI348.get (1000) 27 rfl)).trans (hkI338.get (1000) 27 rfl)).trans (show (u2 (u2 I197 (1000) 25 (v206)) (1000) 25 (v329)) (1000) 27 = I197 (1000) 27 from by simp [u2_v])).trans (hkI197.get (1000) 27 rfl)).trans (hkI1.get (1000) 27 rfl))
                  have pw354 : (I348 (1000) 31).toInt = (I338 (1000) 31 : Int32).toInt := congrArg Int32.toInt ((hkI348.get (1000) 31 rfl))
                  have pw355 : (I348 (1000) 32).toInt = (I (1000) 32 : Int32).toInt := congrArg Int32.toInt ((((((hkI348.get (1000) 32 rfl)).trans (hkI338.get (1000) 32 rfl)).trans (show (u2 (u2 I197 (1000) 25 (v206)) (1000) 25 (v329)) (1000) 32 = I197 (1000) 32 from by simp [u2_v])).trans (hkI197.get (1000) 32 rfl)).trans (hkI1.get (1000) 32 rfl))
                  have g356 := hI0.get 1000 27 (lo := 0) (hi := 5) rfl
                  have g357 := hI0.get 1000 29 (lo := 0) (hi := 300) rfl
                  have hC := hC.comp (n2 := 1) (xI348.2.2.ct (by omega) (by omega) (by omega) (by omega)) (by omega) (by omega) (by omega) (by omega) (by omega)
                  exact m_vret hx hb hr hlocks hM hS (Nat.le_of_ble_eq_true rfl) (Nat.le_of_ble_eq_true rfl) ⟨_, _, rfl, hI, hK, ⟨by omega, by omega, by omega, by omega, by omega, hC⟩⟩ dX10_compared_143
              · have hc346 := c346
                have q346 := q_eq hc346
                refine lv_iload_n hx hb dX10_compared_116 rfl (lv_at hl 0 rfl) ?_
                refine lv_if_eq (tgt := 124) hx hb dX10_compared_117 (by decide) (fun c358 => ?_) (fun c358 => ?_)
                · exact absurd c358 (by decide)
                · have hc358 := c358
                  have q358 := q_ne hc358
                  refine lv_iconst (v := (5)) hx hb dX10_compared_120 (by decide) ?_
                  refine lv_goto (tgt := 139) hx hb dX10_compared_121 (by decide) ?_
                  refine lv_iconst (v := (0)) hx hb dX10_compared_139 (by decide) ?_
                  refine m_callv (m_runV (1000) (As := [.int (5), .int (0)]) (rest := []) hx hb hml hown hts hE hM hS hA ce_X10_entry tb_1552 (V_X10_entry l D A ad ns I338 L339 G (5) (0) hJ hI (by omega)) rfl rfl ⟨Nat.le_of_ble_eq_true rfl, Nat.le_of_ble_eq_true rfl⟩ hJ.1 rfl rfl (by decide) rfl hl.1 rfl (Nat.le_of_ble_eq_true rfl) dX10_compared_140 ⟨Nat.le_of_ble_eq_true rfl, Nat.le_of_ble_eq_true rfl⟩) hS (fun u H locs hw hM hS => ?_)
                  obtain ⟨I359, L360, rfl, hI, hkI359, xI359⟩ := hw
                  have hM : Mem D A ad ns I359 L360 G H := hM
                  have hK := hK.trans hkI359 rfl
                  have pw361 : (I359 (1000) 24).toInt = (I (1000) 24 : Int32).toInt := congrArg Int32.toInt ((((((hkI359.get (1000) 24 rfl)).trans (hkI338.get (1000) 24 rfl)).trans (show (u2 (u2 I197 (1000) 25 (v206)) (1000) 25 (v329)) (1000) 24 = I197 (1000) 24 from by simp [u2_v])).trans (hkI197.get (1000) 24 rfl)).trans (hkI1.get (1000) 24 rfl))
                  have pw362 : (I359 (1000) 25).toInt = (I338 (1000) 25 : Int32).toInt := congrArg Int32.toInt ((hkI359.get (1000) 25 rfl))
                  have pw363 : (I359 (1000) 26).toInt = (I338 (1000) 26 : Int32).toInt := congrArg Int32.toInt ((hkI359.get (1000) 26 rfl))
                  have pw364 : (I359 (1000) 27).toInt = (I (1000) 27 : Int32).toInt := congrArg Int32.toInt ((((((hkI359.get (1000) 27 rfl)).trans (hkI338.get (1000) 27 rfl)).trans (show (u2 (u2 I197 (1000) 25 (v206)) (1000) 25 (v329)) (1000) 27 = I197 (1000) 27 from by simp [u2_v])).trans (hkI197.get (1000) 27 rfl)).trans (hkI1.get (1000) 27 rfl))
                  have pw365 : (I359 (1000) 31).toInt = (I338 (1000) 31 : Int32).toInt := congrArg Int32.toInt ((hkI359.get (1000) 31 rfl))
                  have pw366 : (I359 (1000) 32).toInt = (I (1000) 32 : Int32).toInt := congrArg Int32.toInt ((((((hkI359.get (1000) 32 rfl)).trans (hkI338.get (1000) 32 rfl)).trans (show (u2 (u2 I197 (1000) 25 (v206)) (1000) 25 (v329)) (1000) 32 = I197 (1000) 32 from by simp [u2_v])).trans (hkI197.get (1000) 32 rfl)).trans (hkI1.get (1000) 32 rfl))
                  have g367 := hI0.get 1000 27 (lo := 0) (hi := 5) rfl
                  have g368 := hI0.get 1000 29 (lo := 0) (hi := 300) rfl
                  have hC := hC.comp (n2 := 1) (xI359.2.2.ct (by omega) (by omega) (by omega) (by omega)) (by omega) (by omega) (by omega) (by omega) (by omega)
                  exact m_vret hx hb hr hlocks hM hS (Nat.le_of_ble_eq_true rfl) (Nat.le_of_ble_eq_true rfl) ⟨_, _, rfl, hI, hK, ⟨by omega, by omega, by omega, by omega, by omega, hC⟩⟩ dX10_compared_143
            · have hc345 := c345
              have q345 := q_eq hc345
              refine lv_bipush (v := (6)) hx hb dX10_compared_105 (by decide) ?_
              refine lv_goto (tgt := 139) hx hb dX10_compared_107 (by decide) ?_
              refine lv_iconst (v := (0)) hx hb dX10_compared_139 (by decide) ?_
              refine m_callv (m_runV (1000) (As := [.int (6), .int (0)]) (rest := []) hx hb hml hown hts hE hM hS hA ce_X10_entry tb_1552 (V_X10_entry l D A ad ns I338 L339 G (6) (0) hJ hI (by omega)) rfl rfl ⟨Nat.le_of_ble_eq_true rfl, Nat.le_of_ble_eq_true rfl⟩ hJ.1 rfl rfl (by decide) rfl hl.1 rfl (Nat.le_of_ble_eq_true rfl) dX10_compared_140 ⟨Nat.le_of_ble_eq_true rfl, Nat.le_of_ble_eq_true rfl⟩) hS (fun u H locs hw hM hS => ?_)
              obtain ⟨I369, L370, rfl, hI, hkI369, xI369⟩ := hw
              have hM : Mem D A ad ns I369 L370 G H := hM
              have hK := hK.trans hkI369 rfl
              have pw371 : (I369 (1000) 24).toInt = (I (1000) 24 : Int32).toInt := congrArg Int32.toInt ((((((hkI369.get (1000) 24 rfl)).trans (hkI338.get (1000) 24 rfl)).trans (show (u2 (u2 I197 (1000) 25 (v206)) (1000) 25 (v329)) (1000) 24 = I197 (1000) 24 from by simp [u2_v])).trans (hkI197.get (1000) 24 rfl)).trans (hkI1.get (1000) 24 rfl))
              have pw372 : (I369 (1000) 25).toInt = (I338 (1000) 25 : Int32).toInt := congrArg Int32.toInt ((hkI369.get (1000) 25 rfl))
              have pw373 : (I369 (1000) 26).toInt = (I338 (1000) 26 : Int32).toInt := congrArg Int32.toInt ((hkI369.get (1000) 26 rfl))
              have pw374 : (I369 (1000) 27).toInt = (I (1000) 27 : Int32).toInt := congrArg Int32.toInt ((((((hkI369.get (1000) 27 rfl)).trans (hkI338.get (1000) 27 rfl)).trans (show (u2 (u2 I197 (1000) 25 (v206)) (1000) 25 (v329)) (1000) 27 = I197 (1000) 27 from by simp [u2_v])).trans (hkI197.get (1000) 27 rfl)).trans (hkI1.get (1000) 27 rfl))
              have pw375 : (I369 (1000) 31).toInt = (I338 (1000) 31 : Int32).toInt := congrArg Int32.toInt ((hkI369.get (1000) 31 rfl))
              have pw376 : (I369 (1000) 32).toInt = (I (1000) 32 : Int32).toInt := congrArg Int32.toInt ((((((hkI369.get (1000) 32 rfl)).trans (hkI338.get (1000) 32 rfl)).trans (show (u2 (u2 I197 (1000) 25 (v206)) (1000) 25 (v329)) (1000) 32 = I197 (1000) 32 from by simp [u2_v])).trans (hkI197.get (1000) 32 rfl)).trans (hkI1.get (1000) 32 rfl))
              have g377 := hI0.get 1000 27 (lo := 0) (hi := 5) rfl
              have g378 := hI0.get 1000 29 (lo := 0) (hi := 300) rfl
              have hC := hC.comp (n2 := 1) (xI369.2.2.ct (by omega) (by omega) (by omega) (by omega)) (by omega) (by omega) (by omega) (by omega) (by omega)
              exact m_vret hx hb hr hlocks hM hS (Nat.le_of_ble_eq_true rfl) (Nat.le_of_ble_eq_true rfl) ⟨_, _, rfl, hI, hK, ⟨by omega, by omega, by omega, by omega, by omega, hC⟩⟩ dX10_compared_143
    · have hc195 := c195
      have q195 := q_ne hc195
      refine lv_iload_n hx hb dX10_compared_21 rfl (lv_at hl 0 rfl) ?_
      refine lv_bipush (v := (62)) hx hb dX10_compared_22 (by decide) ?_
      refine lv_icmp_eq (tgt := 37) hx hb dX10_compared_24 (by decide) (fun c379 => ?_) (fun c379 => ?_)
      · have hc379 := c379
        have q379 := q_eq hc379
        refine lv_aload_n hx hb dX10_compared_37 rfl (lv_at hl 1 rfl) ?_
        refine lv_aload_n hx hb dX10_compared_38 rfl (lv_at hl 1 rfl) ?_
        refine m_geti (1000) 25 hx hb hts hown hE oc10 hM hJ.1 rfl (by decide) rfl tb_1202 dX10_compared_39 ?_
        have g380 := hI.get (1000) 25 (lo := 0) (hi := 100000) rfl
        refine m_callv (m_runV (1000) (As := [.int (I1 (1000) 25)]) (rest := []) hx hb hml hown hts hE hM hS hA ce_X10_isCounted tb_1548 (V_X10_isCounted l D A ad ns I1 L2 G (I1 (1000) 25) hJ hI (by omega) (by first | omega | decide)) rfl rfl ⟨Nat.le_of_ble_eq_true rfl, Nat.le_of_ble_eq_true rfl⟩ hJ.1 rfl rfl (by decide) rfl hl.1 rfl (Nat.le_of_ble_eq_true rfl) dX10_compared_42 ⟨Nat.le_of_ble_eq_true rfl, Nat.le_of_ble_eq_true rfl⟩) hS (fun u H locs hw hM hS => ?_)
        obtain ⟨I381, L382, rfl, hI, hkI381, xI381⟩ := hw
        have hM : Mem D A ad ns I381 L382 G H := hM
        have hK := hK.trans hkI381 rfl
        have pw383 : (I381 (1000) 24).toInt = (I (1000) 24 : Int32).toInt := congrArg Int32.toInt (((hkI381.get (1000) 24 rfl)).trans (hkI1.get (1000) 24 rfl))
        have pw384 : (I381 (1000) 25).toInt = (I1 (1000) 25 : Int32).toInt := congrArg Int32.toInt ((hkI381.get (1000) 25 rfl))
        have pw385 : (I381 (1000) 27).toInt = (I (1000) 27 : Int32).toInt := congrArg Int32.toInt (((hkI381.get (1000) 27 rfl)).trans (hkI1.get (1000) 27 rfl))
        have pw386 : (I381 (1000) 29).toInt = (I1 (1000) 29 : Int32).toInt := congrArg Int32.toInt ((hkI381.get (1000) 29 rfl))
        have pw387 : (I381 (1000) 32).toInt = (I (1000) 32 : Int32).toInt := congrArg Int32.toInt (((hkI381.get (1000) 32 rfl)).trans (hkI1.get (1000) 32 rfl))
        refine lv_aload_n hx hb dX10_compared_45 rfl (lv_at hl 1 rfl) ?_
        refine lv_dup hx hb dX10_compared_46 rfl ?_
        refine m_geti (1000) 25 hx hb hts hown hE oc10 hM hJ.1 rfl (by decide) rfl tb_1202 dX10_compared_47 ?_
        have g388 := hI.get (1000) 25 (lo := 0) (hi := 100000) rfl
        have z389 : I381 (1000) 25 = I1 (1000) 25 := (hkI381.get (1000) 25 rfl)
        rw [z389] at g388 ⊢
        refine lv_iconst (v := (1)) hx hb dX10_compared_50 (by decide) ?_
        refine lv_iadd hx hb dX10_compared_51 ?_
        refine lv_topi (fun v390 ev390 => ?_)
        have tv390 := a_add ev390 (by omega) (by omega)
        refine m_puti (1000) 25 hx hb hts hown hE oc10 hM hS hJ.1 rfl (by decide) rfl rfl rfl rfl tb_1202 dX10_compared_52 (fun H locs I391 eI391 hM hS => ?_)
        subst eI391
        have hI := hI.put (n := 1000) (k := 25) (v := v390) (lo := 0) (hi := 100000) rfl (by first | omega | decide)
        have hK := hK.put (n := 1000) (k := 25) (v := v390) (by first | rfl | simp [inR])
        refine lv_iload_n hx hb dX10_compared_55 rfl (lv_at hl 0 rfl) ?_
        refine lv_bipush (v := (61)) hx hb dX10_compared_56 (by decide) ?_
        refine lv_icmp_eq (tgt := 74) hx hb dX10_compared_58 (by decide) (fun c392 => ?_) (fun c392 => ?_)
        · have hc392 := c392
          have q392 := q_eq hc392
          refine lv_iconst (v := (0)) hx hb dX10_compared_74 (by decide) ?_
          refine lv_istore_n (lv' := [(2, .int (0)), (1, .int (r8)), (0, .ref (ad (1000)))]) hx hb dX10_compared_75 rfl hl (by decide) rfl (fun ls hl => ?_)
          refine lv_aload_n hx hb dX10_compared_76 rfl (lv_at hl 2 rfl) ?_
          refine lv_dup hx hb dX10_compared_77 rfl ?_
          refine m_geti (1000) 25 hx hb hts hown hE oc10 hM hJ.1 rfl (by decide) rfl tb_1202 dX10_compared_78 ?_
          have g393 := hI.get (1000) 25 (lo := 0) (hi := 100000) rfl
          have z394 : (u2 I381 (1000) 25 (v390)) (1000) 25 = v390 := (show (u2 I381 (1000) 25 (v390)) (1000) 25 = v390 from by simp [u2_v])
          rw [z394] at g393 ⊢
          refine lv_iload_n hx hb dX10_compared_81 rfl (lv_at hl 0 rfl) ?_
          refine lv_if_eq (tgt := 89) hx hb dX10_compared_82 (by decide) (fun c395 => ?_) (fun c395 => ?_)
          · have hc395 := c395
            have q395 := q_eq hc395
            refine lv_iconst (v := (0)) hx hb dX10_compared_89 (by decide) ?_
            refine lv_iadd hx hb dX10_compared_90 ?_
            refine lv_topi (fun v396 ev396 => ?_)
            have tv396 := a_add ev396 (by omega) (by omega)
            refine m_puti (1000) 25 hx hb hts hown hE oc10 hM hS hJ.1 rfl (by decide) rfl rfl rfl rfl tb_1202 dX10_compared_91 (fun H locs I397 eI397 hM hS => ?_)
            subst eI397
            have hI := hI.put (n := 1000) (k := 25) (v := v396) (lo := 0) (hi := 100000) rfl (by first | omega | decide)
            have hK := hK.put (n := 1000) (k := 25) (v := v396) (by first | rfl | simp [inR])
            refine lv_aload_n hx hb dX10_compared_94 rfl (lv_at hl 2 rfl) ?_
            have pw398 : ((u2 (u2 I381 (1000) 25 (v390)) (1000) 25 (v396)) (1000) 24).toInt = (I (1000) 24 : Int32).toInt := congrArg Int32.toInt ((((show (u2 (u2 I381 (1000) 25 (v390)) (1000) 25 (v396)) (1000) 24 = I381 (1000) 24 from by simp [u2_v])).trans (hkI381.get (1000) 24 rfl)).trans (hkI1.get (1000) 24 rfl))
            have pw399 : ((u2 (u2 I381 (1000) 25 (v390)) (1000) 25 (v396)) (1000) 25).toInt = (v396 : Int32).toInt := congrArg Int32.toInt ((show (u2 (u2 I381 (1000) 25 (v390)) (1000) 25 (v396)) (1000) 25 = v396 from by simp [u2_v]))
            have pw400 : ((u2 (u2 I381 (1000) 25 (v390)) (1000) 25 (v396)) (1000) 26).toInt = (I381 (1000) 26 : Int32).toInt := congrArg Int32.toInt ((show (u2 (u2 I381 (1000) 25 (v390)) (1000) 25 (v396)) (1000) 26 = I381 (1000) 26 from by simp [u2_v]))
            have pw401 : ((u2 (u2 I381 (1000) 25 (v390)) (1000) 25 (v396)) (1000) 27).toInt = (I (1000) 27 : Int32).toInt := congrArg Int32.toInt ((((show (u2 (u2 I381 (1000) 25 (v390)) (1000) 25 (v396)) (1000) 27 = I381 (1000) 27 from by simp [u2_v])).trans (hkI381.get (1000) 27 rfl)).trans (hkI1.get (1000) 27 rfl))
            have pw402 : ((u2 (u2 I381 (1000) 25 (v390)) (1000) 25 (v396)) (1000) 29).toInt = (I1 (1000) 29 : Int32).toInt := congrArg Int32.toInt (((show (u2 (u2 I381 (1000) 25 (v390)) (1000) 25 (v396)) (1000) 29 = I381 (1000) 29 from by simp [u2_v])).trans (hkI381.get (1000) 29 rfl))
            have pw403 : ((u2 (u2 I381 (1000) 25 (v390)) (1000) 25 (v396)) (1000) 31).toInt = (I381 (1000) 31 : Int32).toInt := congrArg Int32.toInt ((show (u2 (u2 I381 (1000) 25 (v390)) (1000) 25 (v396)) (1000) 31 = I381 (1000) 31 from by simp [u2_v]))
            have pw404 : ((u2 (u2 I381 (1000) 25 (v390)) (1000) 25 (v396)) (1000) 32).toInt = (I (1000) 32 : Int32).toInt := congrArg Int32.toInt ((((show (u2 (u2 I381 (1000) 25 (v390)) (1000) 25 (v396)) (1000) 32 = I381 (1000) 32 from by simp [u2_v])).trans (hkI381.get (1000) 32 rfl)).trans (hkI1.get (1000) 32 rfl))
            refine m_callv (m_runV (1000) (As := []) (rest := []) hx hb hml hown hts hE hM hS hA ce_X10_sum tb_1535 (V_X10_sum l D A ad ns (u2 (u2 I381 (1000) 25 (v390)) (1000) 25 (v396)) L382 G hJ hI (by omega)) rfl rfl ⟨Nat.le_of_ble_eq_true rfl, Nat.le_of_ble_eq_true rfl⟩ hJ.1 rfl rfl (by decide) rfl hl.1 rfl (Nat.le_of_ble_eq_true rfl) dX10_compared_95 ⟨Nat.le_of_ble_eq_true rfl, Nat.le_of_ble_eq_true rfl⟩) hS (fun u H locs hw hM hS => ?_)
            obtain ⟨I405, L406, rfl, hI, hkI405, xI405⟩ := hw
            have hM : Mem D A ad ns I405 L406 G H := hM
            have hK := hK.trans hkI405 rfl
            have hC := CT.link (I2 := (u2 (u2 I381 (1000) 25 (v390)) (1000) 25 (v396))) hC (((show (u2 (u2 I381 (1000) 25 (v390)) (1000) 25 (v396)) 1035 = I381 1035 from by funext zz; simp [u2_v])).trans (hkI381.getA 1035 rfl)) (((show (u2 (u2 I381 (1000) 25 (v390)) (1000) 25 (v396)) 1036 = I381 1036 from by funext zz; simp [u2_v])).trans (hkI381.getA 1036 rfl)) (by omega) (by omega)
            have pw407 : (I405 (1000) 24).toInt = (I (1000) 24 : Int32).toInt := congrArg Int32.toInt (((((hkI405.get (1000) 24 rfl)).trans (show (u2 (u2 I381 (1000) 25 (v390)) (1000) 25 (v396)) (1000) 24 = I381 (1000) 24 from by simp [u2_v])).trans (hkI381.get (1000) 24 rfl)).trans (hkI1.get (1000) 24 rfl))
            have pw408 : (I405 (1000) 27).toInt = (I (1000) 27 : Int32).toInt := congrArg Int32.toInt (((((hkI405.get (1000) 27 rfl)).trans (show (u2 (u2 I381 (1000) 25 (v390)) (1000) 25 (v396)) (1000) 27 = I381 (1000) 27 from by simp [u2_v])).trans (hkI381.get (1000) 27 rfl)).trans (hkI1.get (1000) 27 rfl))
            have pw409 : (I405 (1000) 32).toInt = (I (1000) 32 : Int32).toInt := congrArg Int32.toInt (((((hkI405.get (1000) 32 rfl)).trans (show (u2 (u2 I381 (1000) 25 (v390)) (1000) 25 (v396)) (1000) 32 = I381 (1000) 32 from by simp [u2_v])).trans (hkI381.get (1000) 32 rfl)).trans (hkI1.get (1000) 32 rfl))
            have g410 := hI0.get 1000 27 (lo := 0) (hi := 5) rfl
            have g411 := hI0.get 1000 29 (lo := 0) (hi := 300) rfl
            have hC := hC.comp ((xI405.2.2.2.2.2).mono0 (1 + (0))) (by omega) (by omega) (by omega) (by omega) (by omega)
            refine lv_aload_n hx hb dX10_compared_98 rfl (lv_at hl 2 rfl) ?_
            refine lv_iload_n hx hb dX10_compared_99 rfl (lv_at hl 1 rfl) ?_
            refine lv_bipush (v := (61)) hx hb dX10_compared_100 (by decide) ?_
            refine lv_icmp_ne (tgt := 110) hx hb dX10_compared_102 (by decide) (fun c412 => ?_) (fun c412 => ?_)
            · have hc412 := c412
              have q412 := q_ne hc412
              refine lv_iload_n hx hb dX10_compared_110 rfl (lv_at hl 1 rfl) ?_
              refine lv_bipush (v := (60)) hx hb dX10_compared_111 (by decide) ?_
              refine lv_icmp_ne (tgt := 128) hx hb dX10_compared_113 (by decide) (fun c413 => ?_) (fun c413 => ?_)
              · have hc413 := c413
                have q413 := q_ne hc413
                refine lv_iload_n hx hb dX10_compared_128 rfl (lv_at hl 0 rfl) ?_
                refine lv_if_eq (tgt := 137) hx hb dX10_compared_129 (by decide) (fun c414 => ?_) (fun c414 => ?_)
                · have hc414 := c414
                  have q414 := q_eq hc414
                  refine lv_bipush (v := (8)) hx hb dX10_compared_137 (by decide) ?_
                  refine lv_iconst (v := (0)) hx hb dX10_compared_139 (by decide) ?_
                  refine m_callv (m_runV (1000) (As := [.int (8), .int (0)]) (rest := []) hx hb hml hown hts hE hM hS hA ce_X10_entry tb_1552 (V_X10_entry l D A ad ns I405 L406 G (8) (0) hJ hI (by omega)) rfl rfl ⟨Nat.le_of_ble_eq_true rfl, Nat.le_of_ble_eq_true rfl⟩ hJ.1 rfl rfl (by decide) rfl hl.1 rfl (Nat.le_of_ble_eq_true rfl) dX10_compared_140 ⟨Nat.le_of_ble_eq_true rfl, Nat.le_of_ble_eq_true rfl⟩) hS (fun u H locs hw hM hS => ?_)
                  obtain ⟨I415, L416, rfl, hI, hkI415, xI415⟩ := hw
                  have hM : Mem D A ad ns I415 L416 G H := hM
                  have hK := hK.trans hkI415 rfl
                  have pw417 : (I415 (1000) 24).toInt = (I (1000) 24 : Int32).toInt := congrArg Int32.toInt ((((((hkI415.get (1000) 24 rfl)).trans (hkI405.get (1000) 24 rfl)).trans (show (u2 (u2 I381 (1000) 25 (v390)) (1000) 25 (v396)) (1000) 24 = I381 (1000) 24 from by simp [u2_v])).trans (hkI381.get (1000) 24 rfl)).trans (hkI1.get (1000) 24 rfl))
                  have pw418 : (I415 (1000) 25).toInt = (I405 (1000) 25 : Int32).toInt := congrArg Int32.toInt ((hkI415.get (1000) 25 rfl))
                  have pw419 : (I415 (1000) 26).toInt = (I405 (1000) 26 : Int32).toInt := congrArg Int32.toInt ((hkI415.get (1000) 26 rfl))
                  have pw420 : (I415 (1000) 27).toInt = (I (1000) 27 : Int32).toInt := congrArg Int32.toInt ((((((hkI415.get (1000) 27 rfl)).trans (hkI405.get (1000) 27 rfl)).trans (show (u2 (u2 I381 (1000) 25 (v390)) (1000) 25 (v396)) (1000) 27 = I381 (1000) 27 from by simp [u2_v])).trans (hkI381.get (1000) 27 rfl)).trans (hkI1.get (1000) 27 rfl))
                  have pw421 : (I415 (1000) 31).toInt = (I405 (1000) 31 : Int32).toInt := congrArg Int32.toInt ((hkI415.get (1000) 31 rfl))
                  have pw422 : (I415 (1000) 32).toInt = (I (1000) 32 : Int32).toInt := congrArg Int32.toInt ((((((hkI415.get (1000) 32 rfl)).trans (hkI405.get (1000) 32 rfl)).trans (show (u2 (u2 I381 (1000) 25 (v390)) (1000) 25 (v396)) (1000) 32 = I381 (1000) 32 from by simp [u2_v])).trans (hkI381.get (1000) 32 rfl)).trans (hkI1.get (1000) 32 rfl))
                  have g423 := hI0.get 1000 27 (lo := 0) (hi := 5) rfl
                  have g424 := hI0.get 1000 29 (lo := 0) (hi := 300) rfl
                  have hC := hC.comp (n2 := 1) (xI415.2.2.ct (by omega) (by omega) (by omega) (by omega)) (by omega) (by omega) (by omega) (by omega) (by omega)
                  exact m_vret hx hb hr hlocks hM hS (Nat.le_of_ble_eq_true rfl) (Nat.le_of_ble_eq_true rfl) ⟨_, _, rfl, hI, hK, ⟨by omega, by omega, by omega, by omega, by omega, hC⟩⟩ dX10_compared_143
                · exact absurd c414 (by decide)
              · have hc413 := c413
                have q413 := q_eq hc413
                refine lv_iload_n hx hb dX10_compared_116 rfl (lv_at hl 0 rfl) ?_
                refine lv_if_eq (tgt := 124) hx hb dX10_compared_117 (by decide) (fun c425 => ?_) (fun c425 => ?_)
                · have hc425 := c425
                  have q425 := q_eq hc425
                  refine lv_iconst (v := (4)) hx hb dX10_compared_124 (by decide) ?_
                  refine lv_goto (tgt := 139) hx hb dX10_compared_125 (by decide) ?_
                  refine lv_iconst (v := (0)) hx hb dX10_compared_139 (by decide) ?_
                  refine m_callv (m_runV (1000) (As := [.int (4), .int (0)]) (rest := []) hx hb hml hown hts hE hM hS hA ce_X10_entry tb_1552 (V_X10_entry l D A ad ns I405 L406 G (4) (0) hJ hI (by omega)) rfl rfl ⟨Nat.le_of_ble_eq_true rfl, Nat.le_of_ble_eq_true rfl⟩ hJ.1 rfl rfl (by decide) rfl hl.1 rfl (Nat.le_of_ble_eq_true rfl) dX10_compared_140 ⟨Nat.le_of_ble_eq_true rfl, Nat.le_of_ble_eq_true rfl⟩) hS (fun u H locs hw hM hS => ?_)
                  obtain ⟨I426, L427, rfl, hI, hkI426, xI426⟩ := hw
                  have hM : Mem D A ad ns I426 L427 G H := hM
                  have hK := hK.trans hkI426 rfl
                  have pw428 : (I426 (1000) 24).toInt = (I (1000) 24 : Int32).toInt := congrArg Int32.toInt ((((((hkI426.get (1000) 24 rfl)).trans (hkI405.get (1000) 24 rfl)).trans (show (u2 (u2 I381 (1000) 25 (v390)) (1000) 25 (v396)) (1000) 24 = I381 (1000) 24 from by simp [u2_v])).trans (hkI381.get (1000) 24 rfl)).trans (hkI1.get (1000) 24 rfl))
                  have pw429 : (I426 (1000) 25).toInt = (I405 (1000) 25 : Int32).toInt := congrArg Int32.toInt ((hkI426.get (1000) 25 rfl))
                  have pw430 : (I426 (1000) 26).toInt = (I405 (1000) 26 : Int32).toInt := congrArg Int32.toInt ((hkI426.get (1000) 26 rfl))
                  have pw431 : (I426 (1000) 27).toInt = (I (1000) 27 : Int32).toInt := congrArg Int32.toInt ((((((hkI426.get (1000) 27 rfl)).trans (hkI405.get (1000) 27 rfl)).trans (show (u2 (u2 I381 (1000) 25 (v390)) (1000) 25 (v396)) (1000) 27 = I381 (1000) 27 from by simp [u2_v])).trans (hkI381.get (1000) 27 rfl)).trans (hkI1.get (1000) 27 rfl))
                  have pw432 : (I426 (1000) 31).toInt = (I405 (1000) 31 : Int32).toInt := congrArg Int32.toInt ((hkI426.get (1000) 31 rfl))
                  have pw433 : (I426 (1000) 32).toInt = (I (1000) 32 : Int32).toInt := congrArg Int32.toInt ((((((hkI426.get (1000) 32 rfl)).trans (hkI405.get (1000) 32 rfl)).trans (show (u2 (u2 I381 (1000) 25 (v390)) (1000) 25 (v396)) (1000) 32 = I381 (1000) 32 from by simp [u2_v])).trans (hkI381.get (1000) 32 rfl)).trans (hkI1.get (1000) 32 rfl))
                  have g434 := hI0.get 1000 27 (lo := 0) (hi := 5) rfl
                  have g435 := hI0.get 1000 29 (lo := 0) (hi := 300) rfl
                  have hC := hC.comp (n2 := 1) (xI426.2.2.ct (by omega) (by omega) (by omega) (by omega)) (by omega) (by omega) (by omega) (by omega) (by omega)
                  exact m_vret hx hb hr hlocks hM hS (Nat.le_of_ble_eq_true rfl) (Nat.le_of_ble_eq_true rfl) ⟨_, _, rfl, hI, hK, ⟨by omega, by omega, by omega, by omega, by omega, hC⟩⟩ dX10_compared_143
                · exact absurd c425 (by decide)
            · have hc412 := c412
              have q412 := q_eq hc412
              refine lv_bipush (v := (6)) hx hb dX10_compared_105 (by decide) ?_
              refine lv_goto (tgt := 139) hx hb dX10_compared_107 (by decide) ?_
              refine lv_iconst (v := (0)) hx hb dX10_compared_139 (by decide) ?_
              refine m_callv (m_runV (1000) (As := [.int (6), .int (0)]) (rest := []) hx hb hml hown hts hE hM hS hA ce_X10_entry tb_1552 (V_X10_entry l D A ad ns I405 L406 G (6) (0) hJ hI (by omega)) rfl rfl ⟨Nat.le_of_ble_eq_true rfl, Nat.le_of_ble_eq_true rfl⟩ hJ.1 rfl rfl (by decide) rfl hl.1 rfl (Nat.le_of_ble_eq_true rfl) dX10_compared_140 ⟨Nat.le_of_ble_eq_true rfl, Nat.le_of_ble_eq_true rfl⟩) hS (fun u H locs hw hM hS => ?_)
              obtain ⟨I436, L437, rfl, hI, hkI436, xI436⟩ := hw
              have hM : Mem D A ad ns I436 L437 G H := hM
              have hK := hK.trans hkI436 rfl
              have pw438 : (I436 (1000) 24).toInt = (I (1000) 24 : Int32).toInt := congrArg Int32.toInt ((((((hkI436.get (1000) 24 rfl)).trans (hkI405.get (1000) 24 rfl)).trans (show (u2 (u2 I381 (1000) 25 (v390)) (1000) 25 (v396)) (1000) 24 = I381 (1000) 24 from by simp [u2_v])).trans (hkI381.get (1000) 24 rfl)).trans (hkI1.get (1000) 24 rfl))
              have pw439 : (I436 (1000) 25).toInt = (I405 (1000) 25 : Int32).toInt := congrArg Int32.toInt ((hkI436.get (1000) 25 rfl))
              have pw440 : (I436 (1000) 26).toInt = (I405 (1000) 26 : Int32).toInt := congrArg Int32.toInt ((hkI436.get (1000) 26 rfl))
              have pw441 : (I436 (1000) 27).toInt = (I (1000) 27 : Int32).toInt := congrArg Int32.toInt ((((((hkI436.get (1000) 27 rfl)).trans (hkI405.get (1000) 27 rfl)).trans (show (u2 (u2 I381 (1000) 25 (v390)) (1000) 25 (v396)) (1000) 27 = I381 (1000) 27 from by simp [u2_v])).trans (hkI381.get (1000) 27 rfl)).trans (hkI1.get (1000) 27 rfl))
              have pw442 : (I436 (1000) 31).toInt = (I405 (1000) 31 : Int32).toInt := congrArg Int32.toInt ((hkI436.get (1000) 31 rfl))
              have pw443 : (I436 (1000) 32).toInt = (I (1000) 32 : Int32).toInt := congrArg Int32.toInt ((((((hkI436.get (1000) 32 rfl)).trans (hkI405.get (1000) 32 rfl)).trans (show (u2 (u2 I381 (1000) 25 (v390)) (1000) 25 (v396)) (1000) 32 = I381 (1000) 32 from by simp [u2_v])).trans (hkI381.get (1000) 32 rfl)).trans (hkI1.get (1000) 32 rfl))
              have g444 := hI0.get 1000 27 (lo := 0) (hi := 5) rfl
              have g445 := hI0.get 1000 29 (lo := 0) (hi := 300) rfl
              have hC := hC.comp (n2 := 1) (xI436.2.2.ct (by omega) (by omega) (by omega) (by omega)) (by omega) (by omega) (by omega) (by omega) (by omega)
              exact m_vret hx hb hr hlocks hM hS (Nat.le_of_ble_eq_true rfl) (Nat.le_of_ble_eq_true rfl) ⟨_, _, rfl, hI, hK, ⟨by omega, by omega, by omega, by omega, by omega, hC⟩⟩ dX10_compared_143
          · exact absurd c395 (by decide)
        · have hc392 := c392
          have q392 := q_ne hc392
          refine lv_aload_n hx hb dX10_compared_61 rfl (lv_at hl 1 rfl) ?_
          have pw446 : ((u2 I381 (1000) 25 (v390)) (1000) 24).toInt = (I (1000) 24 : Int32).toInt := congrArg Int32.toInt ((((show (u2 I381 (1000) 25 (v390)) (1000) 24 = I381 (1000) 24 from by simp [u2_v])).trans (hkI381.get (1000) 24 rfl)).trans (hkI1.get (1000) 24 rfl))
          have pw447 : ((u2 I381 (1000) 25 (v390)) (1000) 25).toInt = (v390 : Int32).toInt := congrArg Int32.toInt ((show (u2 I381 (1000) 25 (v390)) (1000) 25 = v390 from by simp [u2_v]))
          have pw448 : ((u2 I381 (1000) 25 (v390)) (1000) 26).toInt = (I381 (1000) 26 : Int32).toInt := congrArg Int32.toInt ((show (u2 I381 (1000) 25 (v390)) (1000) 26 = I381 (1000) 26 from by simp [u2_v]))
          have pw449 : ((u2 I381 (1000) 25 (v390)) (1000) 27).toInt = (I (1000) 27 : Int32).toInt := congrArg Int32.toInt ((((show (u2 I381 (1000) 25 (v390)) (1000) 27 = I381 (1000) 27 from by simp [u2_v])).trans (hkI381.get (1000) 27 rfl)).trans (hkI1.get (1000) 27 rfl))
          have pw450 : ((u2 I381 (1000) 25 (v390)) (1000) 29).toInt = (I1 (1000) 29 : Int32).toInt := congrArg Int32.toInt (((show (u2 I381 (1000) 25 (v390)) (1000) 29 = I381 (1000) 29 from by simp [u2_v])).trans (hkI381.get (1000) 29 rfl))
          have pw451 : ((u2 I381 (1000) 25 (v390)) (1000) 31).toInt = (I381 (1000) 31 : Int32).toInt := congrArg Int32.toInt ((show (u2 I381 (1000) 25 (v390)) (1000) 31 = I381 (1000) 31 from by simp [u2_v]))
          have pw452 : ((u2 I381 (1000) 25 (v390)) (1000) 32).toInt = (I (1000) 32 : Int32).toInt := congrArg Int32.toInt ((((show (u2 I381 (1000) 25 (v390)) (1000) 32 = I381 (1000) 32 from by simp [u2_v])).trans (hkI381.get (1000) 32 rfl)).trans (hkI1.get (1000) 32 rfl))
          refine m_calli (m_runV (1000) (As := []) (rest := []) hx hb hml hown hts hE hM hS hA ce_X10_sign tb_1510 (V_X10_sign l D A ad ns (u2 I381 (1000) 25 (v390)) L382 G hJ hI) rfl rfl ⟨Nat.le_of_ble_eq_true rfl, Nat.le_of_ble_eq_true rfl⟩ hJ.1 rfl rfl (by decide) rfl hl.1 rfl (Nat.le_of_ble_eq_true rfl) dX10_compared_62 ⟨Nat.le_of_ble_eq_true rfl, Nat.le_of_ble_eq_true rfl⟩) hS (fun r453 u H locs hw hM hS => ?_)
          obtain ⟨rfl, xr453⟩ := hw
          have hM : Mem D A ad ns (u2 I381 (1000) 25 (v390)) L382 G H := hM
          have g454 := hI.get 1000 24 (lo := 0) (hi := 400) rfl
          have g455 := hI.get 1000 25 (lo := 0) (hi := 100000) rfl
          refine lv_bipush (v := (61)) hx hb dX10_compared_65 (by decide) ?_
          refine lv_icmp_ne (tgt := 74) hx hb dX10_compared_67 (by decide) (fun c456 => ?_) (fun c456 => ?_)
          · have hc456 := c456
            have q456 := q_ne hc456
            refine lv_iconst (v := (0)) hx hb dX10_compared_74 (by decide) ?_
            refine lv_istore_n (lv' := [(2, .int (0)), (1, .int (r8)), (0, .ref (ad (1000)))]) hx hb dX10_compared_75 rfl hl (by decide) rfl (fun ls hl => ?_)
            refine lv_aload_n hx hb dX10_compared_76 rfl (lv_at hl 2 rfl) ?_
            refine lv_dup hx hb dX10_compared_77 rfl ?_
            refine m_geti (1000) 25 hx hb hts hown hE oc10 hM hJ.1 rfl (by decide) rfl tb_1202 dX10_compared_78 ?_
            have g457 := hI.get (1000) 25 (lo := 0) (hi := 100000) rfl
            have z458 : (u2 I381 (1000) 25 (v390)) (1000) 25 = v390 := (show (u2 I381 (1000) 25 (v390)) (1000) 25 = v390 from by simp [u2_v])
            rw [z458] at g457 ⊢
            refine lv_iload_n hx hb dX10_compared_81 rfl (lv_at hl 0 rfl) ?_
            refine lv_if_eq (tgt := 89) hx hb dX10_compared_82 (by decide) (fun c459 => ?_) (fun c459 => ?_)
            · have hc459 := c459
              have q459 := q_eq hc459
              refine lv_iconst (v := (0)) hx hb dX10_compared_89 (by decide) ?_
              refine lv_iadd hx hb dX10_compared_90 ?_
              refine lv_topi (fun v460 ev460 => ?_)
              have tv460 := a_add ev460 (by omega) (by omega)
              refine m_puti (1000) 25 hx hb hts hown hE oc10 hM hS hJ.1 rfl (by decide) rfl rfl rfl rfl tb_1202 dX10_compared_91 (fun H locs I461 eI461 hM hS => ?_)
              subst eI461
              have hI := hI.put (n := 1000) (k := 25) (v := v460) (lo := 0) (hi := 100000) rfl (by first | omega | decide)
              have hK := hK.put (n := 1000) (k := 25) (v := v460) (by first | rfl | simp [inR])
              refine lv_aload_n hx hb dX10_compared_94 rfl (lv_at hl 2 rfl) ?_
              have pw462 : ((u2 (u2 I381 (1000) 25 (v390)) (1000) 25 (v460)) (1000) 24).toInt = (I (1000) 24 : Int32).toInt := congrArg Int32.toInt ((((show (u2 (u2 I381 (1000) 25 (v390)) (1000) 25 (v460)) (1000) 24 = I381 (1000) 24 from by simp [u2_v])).trans (hkI381.get (1000) 24 rfl)).trans (hkI1.get (1000) 24 rfl))
              have pw463 : ((u2 (u2 I381 (1000) 25 (v390)) (1000) 25 (v460)) (1000) 25).toInt = (v460 : Int32).toInt := congrArg Int32.toInt ((show (u2 (u2 I381 (1000) 25 (v390)) (1000) 25 (v460)) (1000) 25 = v460 from by simp [u2_v]))
              have pw464 : ((u2 (u2 I381 (1000) 25 (v390)) (1000) 25 (v460)) (1000) 26).toInt = (I381 (1000) 26 : Int32).toInt := congrArg Int32.toInt ((show (u2 (u2 I381 (1000) 25 (v390)) (1000) 25 (v460)) (1000) 26 = I381 (1000) 26 from by simp [u2_v]))
              have pw465 : ((u2 (u2 I381 (1000) 25 (v390)) (1000) 25 (v460)) (1000) 27).toInt = (I (1000) 27 : Int32).toInt := congrArg Int32.toInt ((((show (u2 (u2 I381 (1000) 25 (v390)) (1000) 25 (v460)) (1000) 27 = I381 (1000) 27 from by simp [u2_v])).trans (hkI381.get (1000) 27 rfl)).trans (hkI1.get (1000) 27 rfl))
              have pw466 : ((u2 (u2 I381 (1000) 25 (v390)) (1000) 25 (v460)) (1000) 29).toInt = (I1 (1000) 29 : Int32).toInt := congrArg Int32.toInt (((show (u2 (u2 I381 (1000) 25 (v390)) (1000) 25 (v460)) (1000) 29 = I381 (1000) 29 from by simp [u2_v])).trans (hkI381.get (1000) 29 rfl))
              have pw467 : ((u2 (u2 I381 (1000) 25 (v390)) (1000) 25 (v460)) (1000) 31).toInt = (I381 (1000) 31 : Int32).toInt := congrArg Int32.toInt ((show (u2 (u2 I381 (1000) 25 (v390)) (1000) 25 (v460)) (1000) 31 = I381 (1000) 31 from by simp [u2_v]))
              have pw468 : ((u2 (u2 I381 (1000) 25 (v390)) (1000) 25 (v460)) (1000) 32).toInt = (I (1000) 32 : Int32).toInt := congrArg Int32.toInt ((((show (u2 (u2 I381 (1000) 25 (v390)) (1000) 25 (v460)) (1000) 32 = I381 (1000) 32 from by simp [u2_v])).trans (hkI381.get (1000) 32 rfl)).trans (hkI1.get (1000) 32 rfl))
              refine m_callv (m_runV (1000) (As := []) (rest := []) hx hb hml hown hts hE hM hS hA ce_X10_sum tb_1535 (V_X10_sum l D A ad ns (u2 (u2 I381 (1000) 25 (v390)) (1000) 25 (v460)) L382 G hJ hI (by omega)) rfl rfl ⟨Nat.le_of_ble_eq_true rfl, Nat.le_of_ble_eq_true rfl⟩ hJ.1 rfl rfl (by decide) rfl hl.1 rfl (Nat.le_of_ble_eq_true rfl) dX10_compared_95 ⟨Nat.le_of_ble_eq_true rfl, Nat.le_of_ble_eq_true rfl⟩) hS (fun u H locs hw hM hS => ?_)
              obtain ⟨I469, L470, rfl, hI, hkI469, xI469⟩ := hw
              have hM : Mem D A ad ns I469 L470 G H := hM
              have hK := hK.trans hkI469 rfl
              have hC := CT.link (I2 := (u2 (u2 I381 (1000) 25 (v390)) (1000) 25 (v460))) hC (((show (u2 (u2 I381 (1000) 25 (v390)) (1000) 25 (v460)) 1035 = I381 1035 from by funext zz; simp [u2_v])).trans (hkI381.getA 1035 rfl)) (((show (u2 (u2 I381 (1000) 25 (v390)) (1000) 25 (v460)) 1036 = I381 1036 from by funext zz; simp [u2_v])).trans (hkI381.getA 1036 rfl)) (by omega) (by omega)
              have pw471 : (I469 (1000) 24).toInt = (I (1000) 24 : Int32).toInt := congrArg Int32.toInt (((((hkI469.get (1000) 24 rfl)).trans (show (u2 (u2 I381 (1000) 25 (v390)) (1000) 25 (v460)) (1000) 24 = I381 (1000) 24 from by simp [u2_v])).trans (hkI381.get (1000) 24 rfl)).trans (hkI1.get (1000) 24 rfl))
              have pw472 : (I469 (1000) 27).toInt = (I (1000) 27 : Int32).toInt := congrArg Int32.toInt (((((hkI469.get (1000) 27 rfl)).trans (show (u2 (u2 I381 (1000) 25 (v390)) (1000) 25 (v460)) (1000) 27 = I381 (1000) 27 from by simp [u2_v])).trans (hkI381.get (1000) 27 rfl)).trans (hkI1.get (1000) 27 rfl))
              have pw473 : (I469 (1000) 32).toInt = (I (1000) 32 : Int32).toInt := congrArg Int32.toInt (((((hkI469.get (1000) 32 rfl)).trans (show (u2 (u2 I381 (1000) 25 (v390)) (1000) 25 (v460)) (1000) 32 = I381 (1000) 32 from by simp [u2_v])).trans (hkI381.get (1000) 32 rfl)).trans (hkI1.get (1000) 32 rfl))
              have g474 := hI0.get 1000 27 (lo := 0) (hi := 5) rfl
              have g475 := hI0.get 1000 29 (lo := 0) (hi := 300) rfl
              have hC := hC.comp ((xI469.2.2.2.2.2).mono0 (1 + (0))) (by omega) (by omega) (by omega) (by omega) (by omega)
              refine lv_aload_n hx hb dX10_compared_98 rfl (lv_at hl 2 rfl) ?_
              refine lv_iload_n hx hb dX10_compared_99 rfl (lv_at hl 1 rfl) ?_
              refine lv_bipush (v := (61)) hx hb dX10_compared_100 (by decide) ?_
              refine lv_icmp_ne (tgt := 110) hx hb dX10_compared_102 (by decide) (fun c476 => ?_) (fun c476 => ?_)
              · have hc476 := c476
                have q476 := q_ne hc476
                refine lv_iload_n hx hb dX10_compared_110 rfl (lv_at hl 1 rfl) ?_
                refine lv_bipush (v := (60)) hx hb dX10_compared_111 (by decide) ?_
                refine lv_icmp_ne (tgt := 128) hx hb dX10_compared_113 (by decide) (fun c477 => ?_) (fun c477 => ?_)
                · have hc477 := c477
                  have q477 := q_ne hc477
                  refine lv_iload_n hx hb dX10_compared_128 rfl (lv_at hl 0 rfl) ?_
                  refine lv_if_eq (tgt := 137) hx hb dX10_compared_129 (by decide) (fun c478 => ?_) (fun c478 => ?_)
                  · have hc478 := c478
                    have q478 := q_eq hc478
                    refine lv_bipush (v := (8)) hx hb dX10_compared_137 (by decide) ?_
                    refine lv_iconst (v := (0)) hx hb dX10_compared_139 (by decide) ?_
                    refine m_callv (m_runV (1000) (As := [.int (8), .int (0)]) (rest := []) hx hb hml hown hts hE hM hS hA ce_X10_entry tb_1552 (V_X10_entry l D A ad ns I469 L470 G (8) (0) hJ hI (by omega)) rfl rfl ⟨Nat.le_of_ble_eq_true rfl, Nat.le_of_ble_eq_true rfl⟩ hJ.1 rfl rfl (by decide) rfl hl.1 rfl (Nat.le_of_ble_eq_true rfl) dX10_compared_140 ⟨Nat.le_of_ble_eq_true rfl, Nat.le_of_ble_eq_true rfl⟩) hS (fun u H locs hw hM hS => ?_)
                    obtain ⟨I479, L480, rfl, hI, hkI479, xI479⟩ := hw
                    have hM : Mem D A ad ns I479 L480 G H := hM
                    have hK := hK.trans hkI479 rfl
                    have pw481 : (I479 (1000) 24).toInt = (I (1000) 24 : Int32).toInt := congrArg Int32.toInt ((((((hkI479.get (1000) 24 rfl)).trans (hkI469.get (1000) 24 rfl)).trans (show (u2 (u2 I381 (1000) 25 (v390)) (1000) 25 (v460)) (1000) 24 = I381 (1000) 24 from by simp [u2_v])).trans (hkI381.get (1000) 24 rfl)).trans (hkI1.get (1000) 24 rfl))
                    have pw482 : (I479 (1000) 25).toInt = (I469 (1000) 25 : Int32).toInt := congrArg Int32.toInt ((hkI479.get (1000) 25 rfl))
                    have pw483 : (I479 (1000) 26).toInt = (I469 (1000) 26 : Int32).toInt := congrArg Int32.toInt ((hkI479.get (1000) 26 rfl))
                    have pw484 : (I479 (1000) 27).toInt = (I (1000) 27 : Int32).toInt := congrArg Int32.toInt ((((((hkI479.get (1000) 27 rfl)).trans (hkI469.get (1000) 27 rfl)).trans (show (u2 (u2 I381 (1000) 25 (v390)) (1000) 25 (v460)) (1000) 27 = I381 (1000) 27 from by simp [u2_v])).trans (hkI381.get (1000) 27 rfl)).trans (hkI1.get (1000) 27 rfl))
                    have pw485 : (I479 (1000) 31).toInt = (I469 (1000) 31 : Int32).toInt := congrArg Int32.toInt ((hkI479.get (1000) 31 rfl))
                    have pw486 : (I479 (1000) 32).toInt = (I (1000) 32 : Int32).toInt := congrArg Int32.toInt ((((((hkI479.get (1000) 32 rfl)).trans (hkI469.get (1000) 32 rfl)).trans (show (u2 (u2 I381 (1000) 25 (v390)) (1000) 25 (v460)) (1000) 32 = I381 (1000) 32 from by simp [u2_v])).trans (hkI381.get (1000) 32 rfl)).trans (hkI1.get (1000) 32 rfl))
                    have g487 := hI0.get 1000 27 (lo := 0) (hi := 5) rfl
                    have g488 := hI0.get 1000 29 (lo := 0) (hi := 300) rfl
                    have hC := hC.comp (n2 := 1) (xI479.2.2.ct (by omega) (by omega) (by omega) (by omega)) (by omega) (by omega) (by omega) (by omega) (by omega)
                    exact m_vret hx hb hr hlocks hM hS (Nat.le_of_ble_eq_true rfl) (Nat.le_of_ble_eq_true rfl) ⟨_, _, rfl, hI, hK, ⟨by omega, by omega, by omega, by omega, by omega, hC⟩⟩ dX10_compared_143
                  · exact absurd c478 (by decide)
                · have hc477 := c477
                  have q477 := q_eq hc477
                  refine lv_iload_n hx hb dX10_compared_116 rfl (lv_at hl 0 rfl) ?_
                  refine lv_if_eq (tgt := 124) hx hb dX10_compared_117 (by decide) (fun c489 => ?_) (fun c489 => ?_)
                  · have hc489 := c489
                    have q489 := q_eq hc489
                    refine lv_iconst (v := (4)) hx hb dX10_compared_124 (by decide) ?_
                    refine lv_goto (tgt := 139) hx hb dX10_compared_125 (by decide) ?_
                    refine lv_iconst (v := (0)) hx hb dX10_compared_139 (by decide) ?_
                    refine m_callv (m_runV (1000) (As := [.int (4), .int (0)]) (rest := []) hx hb hml hown hts hE hM hS hA ce_X10_entry tb_1552 (V_X10_entry l D A ad ns I469 L470 G (4) (0) hJ hI (by omega)) rfl rfl ⟨Nat.le_of_ble_eq_true rfl, Nat.le_of_ble_eq_true rfl⟩ hJ.1 rfl rfl (by decide) rfl hl.1 rfl (Nat.le_of_ble_eq_true rfl) dX10_compared_140 ⟨Nat.le_of_ble_eq_true rfl, Nat.le_of_ble_eq_true rfl⟩) hS (fun u H locs hw hM hS => ?_)
                    obtain ⟨I490, L491, rfl, hI, hkI490, xI490⟩ := hw
                    have hM : Mem D A ad ns I490 L491 G H := hM
                    have hK := hK.trans hkI490 rfl
                    have pw492 : (I490 (1000) 24).toInt = (I (1000) 24 : Int32).toInt := congrArg Int32.toInt ((((((hkI490.get (1000) 24 rfl)).trans (hkI469.get (1000) 24 rfl)).trans (show (u2 (u2 I381 (1000) 25 (v390)) (1000) 25 (v460)) (1000) 24 = I381 (1000) 24 from by simp [u2_v])).trans (hkI381.get (1000) 24 rfl)).trans (hkI1.get (1000) 24 rfl))
                    have pw493 : (I490 (1000) 25).toInt = (I469 (1000) 25 : Int32).toInt := congrArg Int32.toInt ((hkI490.get (1000) 25 rfl))
                    have pw494 : (I490 (1000) 26).toInt = (I469 (1000) 26 : Int32).toInt := congrArg Int32.toInt ((hkI490.get (1000) 26 rfl))
                    have pw495 : (I490 (1000) 27).toInt = (I (1000) 27 : Int32).toInt := congrArg Int32.toInt ((((((hkI490.get (1000) 27 rfl)).trans (hkI469.get (1000) 27 rfl)).trans (show (u2 (u2 I381 (1000) 25 (v390)) (1000) 25 (v460)) (1000) 27 = I381 (1000) 27 from by simp [u2_v])).trans (hkI381.get (1000) 27 rfl)).trans (hkI1.get (1000) 27 rfl))
                    have pw496 : (I490 (1000) 31).toInt = (I469 (1000) 31 : Int32).toInt := congrArg Int32.toInt ((hkI490.get (1000) 31 rfl))
                    have pw497 : (I490 (1000) 32).toInt = (I (1000) 32 : Int32).toInt := congrArg Int32.toInt ((((((hkI490.get (1000) 32 rfl)).trans (hkI469.get (1000) 32 rfl)).trans (show (u2 (u2 I381 (1000) 25 (v390)) (1000) 25 (v460)) (1000) 32 = I381 (1000) 32 from by simp [u2_v])).trans (hkI381.get (1000) 32 rfl)).trans (hkI1.get (1000) 32 rfl))
                    have g498 := hI0.get 1000 27 (lo := 0) (hi := 5) rfl
                    have g499 := hI0.get 1000 29 (lo := 0) (hi := 300) rfl
                    have hC := hC.comp (n2 := 1) (xI490.2.2.ct (by omega) (by omega) (by omega) (by omega)) (by omega) (by omega) (by omega) (by omega) (by omega)
                    exact m_vret hx hb hr hlocks hM hS (Nat.le_of_ble_eq_true rfl) (Nat.le_of_ble_eq_true rfl) ⟨_, _, rfl, hI, hK, ⟨by omega, by omega, by omega, by omega, by omega, hC⟩⟩ dX10_compared_143
                  · exact absurd c489 (by decide)
              · have hc476 := c476
                have q476 := q_eq hc476
                refine lv_bipush (v := (6)) hx hb dX10_compared_105 (by decide) ?_
                refine lv_goto (tgt := 139) hx hb dX10_compared_107 (by decide) ?_
                refine lv_iconst (v := (0)) hx hb dX10_compared_139 (by decide) ?_
                refine m_callv (m_runV (1000) (As := [.int (6), .int (0)]) (rest := []) hx hb hml hown hts hE hM hS hA ce_X10_entry tb_1552 (V_X10_entry l D A ad ns I469 L470 G (6) (0) hJ hI (by omega)) rfl rfl ⟨Nat.le_of_ble_eq_true rfl, Nat.le_of_ble_eq_true rfl⟩ hJ.1 rfl rfl (by decide) rfl hl.1 rfl (Nat.le_of_ble_eq_true rfl) dX10_compared_140 ⟨Nat.le_of_ble_eq_true rfl, Nat.le_of_ble_eq_true rfl⟩) hS (fun u H locs hw hM hS => ?_)
                obtain ⟨I500, L501, rfl, hI, hkI500, xI500⟩ := hw
                have hM : Mem D A ad ns I500 L501 G H := hM
                have hK := hK.trans hkI500 rfl
                have pw502 : (I500 (1000) 24).toInt = (I (1000) 24 : Int32).toInt := congrArg Int32.toInt ((((((hkI500.get (1000) 24 rfl)).trans (hkI469.get (1000) 24 rfl)).trans (show (u2 (u2 I381 (1000) 25 (v390)) (1000) 25 (v460)) (1000) 24 = I381 (1000) 24 from by simp [u2_v])).trans (hkI381.get (1000) 24 rfl)).trans (hkI1.get (1000) 24 rfl))
                have pw503 : (I500 (1000) 25).toInt = (I469 (1000) 25 : Int32).toInt := congrArg Int32.toInt ((hkI500.get (1000) 25 rfl))
                have pw504 : (I500 (1000) 26).toInt = (I469 (1000) 26 : Int32).toInt := congrArg Int32.toInt ((hkI500.get (1000) 26 rfl))
                have pw505 : (I500 (1000) 27).toInt = (I (1000) 27 : Int32).toInt := congrArg Int32.toInt ((((((hkI500.get (1000) 27 rfl)).trans (hkI469.get (1000) 27 rfl)).trans (show (u2 (u2 I381 (1000) 25 (v390)) (1000) 25 (v460)) (1000) 27 = I381 (1000) 27 from by simp [u2_v])).trans (hkI381.get (1000) 27 rfl)).trans (hkI1.get (1000) 27 rfl))
                have pw506 : (I500 (1000) 31).toInt = (I469 (1000) 31 : Int32).toInt := congrArg Int32.toInt ((hkI500.get (1000) 31 rfl))
                have pw507 : (I500 (1000) 32).toInt = (I (1000) 32 : Int32).toInt := congrArg Int32.toInt ((((((hkI500.get (1000) 32 rfl)).trans (hkI469.get (1000) 32 rfl)).trans (show (u2 (u2 I381 (1000) 25 (v390)) (1000) 25 (v460)) (1000) 32 = I381 (1000) 32 from by simp [u2_v])).trans (hkI381.get (1000) 32 rfl)).trans (hkI1.get (1000) 32 rfl))
                have g508 := hI0.get 1000 27 (lo := 0) (hi := 5) rfl
                have g509 := hI0.get 1000 29 (lo := 0) (hi := 300) rfl
                have hC := hC.comp (n2 := 1) (xI500.2.2.ct (by omega) (by omega) (by omega) (by omega)) (by omega) (by omega) (by omega) (by omega) (by omega)
                exact m_vret hx hb hr hlocks hM hS (Nat.le_of_ble_eq_true rfl) (Nat.le_of_ble_eq_true rfl) ⟨_, _, rfl, hI, hK, ⟨by omega, by omega, by omega, by omega, by omega, hC⟩⟩ dX10_compared_143
            · exact absurd c459 (by decide)
          · have hc456 := c456
            have q456 := q_eq hc456
            refine lv_iconst (v := (1)) hx hb dX10_compared_70 (by decide) ?_
            refine lv_goto (tgt := 75) hx hb dX10_compared_71 (by decide) ?_
            refine lv_istore_n (lv' := [(2, .int (1)), (1, .int (r8)), (0, .ref (ad (1000)))]) hx hb dX10_compared_75 rfl hl (by decide) rfl (fun ls hl => ?_)
            refine lv_aload_n hx hb dX10_compared_76 rfl (lv_at hl 2 rfl) ?_
            refine lv_dup hx hb dX10_compared_77 rfl ?_
            refine m_geti (1000) 25 hx hb hts hown hE oc10 hM hJ.1 rfl (by decide) rfl tb_1202 dX10_compared_78 ?_
            have g510 := hI.get (1000) 25 (lo := 0) (hi := 100000) rfl
            have z511 : (u2 I381 (1000) 25 (v390)) (1000) 25 = v390 := (show (u2 I381 (1000) 25 (v390)) (1000) 25 = v390 from by simp [u2_v])
            rw [z511] at g510 ⊢
            refine lv_iload_n hx hb dX10_compared_81 rfl (lv_at hl 0 rfl) ?_
            refine lv_if_eq (tgt := 89) hx hb dX10_compared_82 (by decide) (fun c512 => ?_) (fun c512 => ?_)
            · exact absurd c512 (by decide)
            · have hc512 := c512
              have q512 := q_ne hc512
              refine lv_iconst (v := (1)) hx hb dX10_compared_85 (by decide) ?_
              refine lv_goto (tgt := 90) hx hb dX10_compared_86 (by decide) ?_
              refine lv_iadd hx hb dX10_compared_90 ?_
              refine lv_topi (fun v513 ev513 => ?_)
              have tv513 := a_add ev513 (by omega) (by omega)
              refine m_puti (1000) 25 hx hb hts hown hE oc10 hM hS hJ.1 rfl (by decide) rfl rfl rfl rfl tb_1202 dX10_compared_91 (fun H locs I514 eI514 hM hS => ?_)
              subst eI514
              have hI := hI.put (n := 1000) (k := 25) (v := v513) (lo := 0) (hi := 100000) rfl (by first | omega | decide)
              have hK := hK.put (n := 1000) (k := 25) (v := v513) (by first | rfl | simp [inR])
              refine lv_aload_n hx hb dX10_compared_94 rfl (lv_at hl 2 rfl) ?_
              have pw515 : ((u2 (u2 I381 (1000) 25 (v390)) (1000) 25 (v513)) (1000) 24).toInt = (I (1000) 24 : Int32).toInt := congrArg Int32.toInt ((((show (u2 (u2 I381 (1000) 25 (v390)) (1000) 25 (v513)) (1000) 24 = I381 (1000) 24 from by simp [u2_v])).trans (hkI381.get (1000) 24 rfl)).trans (hkI1.get (1000) 24 rfl))
              have pw516 : ((u2 (u2 I381 (1000) 25 (v390)) (1000) 25 (v513)) (1000) 25).toInt = (v513 : Int32).toInt := congrArg Int32.toInt ((show (u2 (u2 I381 (1000) 25 (v390)) (1000) 25 (v513)) (1000) 25 = v513 from by simp [u2_v]))
              have pw517 : ((u2 (u2 I381 (1000) 25 (v390)) (1000) 25 (v513)) (1000) 26).toInt = (I381 (1000) 26 : Int32).toInt := congrArg Int32.toInt ((show (u2 (u2 I381 (1000) 25 (v390)) (1000) 25 (v513)) (1000) 26 = I381 (1000) 26 from by simp [u2_v]))
              have pw518 : ((u2 (u2 I381 (1000) 25 (v390)) (1000) 25 (v513)) (1000) 27).toInt = (I (1000) 27 : Int32).toInt := congrArg Int32.toInt ((((show (u2 (u2 I381 (1000) 25 (v390)) (1000) 25 (v513)) (1000) 27 = I381 (1000) 27 from by simp [u2_v])).trans (hkI381.get (1000) 27 rfl)).trans (hkI1.get (1000) 27 rfl))
              have pw519 : ((u2 (u2 I381 (1000) 25 (v390)) (1000) 25 (v513)) (1000) 29).toInt = (I1 (1000) 29 : Int32).toInt := congrArg Int32.toInt (((show (u2 (u2 I381 (1000) 25 (v390)) (1000) 25 (v513)) (1000) 29 = I381 (1000) 29 from by simp [u2_v])).trans (hkI381.get (1000) 29 rfl))
              have pw520 : ((u2 (u2 I381 (1000) 25 (v390)) (1000) 25 (v513)) (1000) 31).toInt = (I381 (1000) 31 : Int32).toInt := congrArg Int32.toInt ((show (u2 (u2 I381 (1000) 25 (v390)) (1000) 25 (v513)) (1000) 31 = I381 (1000) 31 from by simp [u2_v]))
              have pw521 : ((u2 (u2 I381 (1000) 25 (v390)) (1000) 25 (v513)) (1000) 32).toInt = (I (1000) 32 : Int32).toInt := congrArg Int32.toInt ((((show (u2 (u2 I381 (1000) 25 (v390)) (1000) 25 (v513)) (1000) 32 = I381 (1000) 32 from by simp [u2_v])).trans (hkI381.get (1000) 32 rfl)).trans (hkI1.get (1000) 32 rfl))
              refine m_callv (m_runV (1000) (As := []) (rest := []) hx hb hml hown hts hE hM hS hA ce_X10_sum tb_1535 (V_X10_sum l D A ad ns (u2 (u2 I381 (1000) 25 (v390)) (1000) 25 (v513)) L382 G hJ hI (by omega)) rfl rfl ⟨Nat.le_of_ble_eq_true rfl, Nat.le_of_ble_eq_true rfl⟩ hJ.1 rfl rfl (by decide) rfl hl.1 rfl (Nat.le_of_ble_eq_true rfl) dX10_compared_95 ⟨Nat.le_of_ble_eq_true rfl, Nat.le_of_ble_eq_true rfl⟩) hS (fun u H locs hw hM hS => ?_)
              obtain ⟨I522, L523, rfl, hI, hkI522, xI522⟩ := hw
              have hM : Mem D A ad ns I522 L523 G H := hM
              have hK := hK.trans hkI522 rfl
              have hC := CT.link (I2 := (u2 (u2 I381 (1000) 25 (v390)) (1000) 25 (v513))) hC (((show (u2 (u2 I381 (1000) 25 (v390)) (1000) 25 (v513)) 1035 = I381 1035 from by funext zz; simp [u2_v])).trans (hkI381.getA 1035 rfl)) (((show (u2 (u2 I381 (1000) 25 (v390)) (1000) 25 (v513)) 1036 = I381 1036 from by funext zz; simp [u2_v])).trans (hkI381.getA 1036 rfl)) (by omega) (by omega)
              have pw524 : (I522 (1000) 24).toInt = (I (1000) 24 : Int32).toInt := congrArg Int32.toInt (((((hkI522.get (1000) 24 rfl)).trans (show (u2 (u2 I381 (1000) 25 (v390)) (1000) 25 (v513)) (1000) 24 = I381 (1000) 24 from by simp [u2_v])).trans (hkI381.get (1000) 24 rfl)).trans (hkI1.get (1000) 24 rfl))
              have pw525 : (I522 (1000) 27).toInt = (I (1000) 27 : Int32).toInt := congrArg Int32.toInt (((((hkI522.get (1000) 27 rfl)).trans (show (u2 (u2 I381 (1000) 25 (v390)) (1000) 25 (v513)) (1000) 27 = I381 (1000) 27 from by simp [u2_v])).trans (hkI381.get (1000) 27 rfl)).trans (hkI1.get (1000) 27 rfl))
              have pw526 : (I522 (1000) 32).toInt = (I (1000) 32 : Int32).toInt := congrArg Int32.toInt (((((hkI522.get (1000) 32 rfl)).trans (show (u2 (u2 I381 (1000) 25 (v390)) (1000) 25 (v513)) (1000) 32 = I381 (1000) 32 from by simp [u2_v])).trans (hkI381.get (1000) 32 rfl)).trans (hkI1.get (1000) 32 rfl))
              have g527 := hI0.get 1000 27 (lo := 0) (hi := 5) rfl
              have g528 := hI0.get 1000 29 (lo := 0) (hi := 300) rfl
              have hC := hC.comp ((xI522.2.2.2.2.2).mono0 (1 + (0))) (by omega) (by omega) (by omega) (by omega) (by omega)
              refine lv_aload_n hx hb dX10_compared_98 rfl (lv_at hl 2 rfl) ?_
              refine lv_iload_n hx hb dX10_compared_99 rfl (lv_at hl 1 rfl) ?_
              refine lv_bipush (v := (61)) hx hb dX10_compared_100 (by decide) ?_
              refine lv_icmp_ne (tgt := 110) hx hb dX10_compared_102 (by decide) (fun c529 => ?_) (fun c529 => ?_)
              · have hc529 := c529
                have q529 := q_ne hc529
                refine lv_iload_n hx hb dX10_compared_110 rfl (lv_at hl 1 rfl) ?_
                refine lv_bipush (v := (60)) hx hb dX10_compared_111 (by decide) ?_
                refine lv_icmp_ne (tgt := 128) hx hb dX10_compared_113 (by decide) (fun c530 => ?_) (fun c530 => ?_)
                · have hc530 := c530
                  have q530 := q_ne hc530
                  refine lv_iload_n hx hb dX10_compared_128 rfl (lv_at hl 0 rfl) ?_
                  refine lv_if_eq (tgt := 137) hx hb dX10_compared_129 (by decide) (fun c531 => ?_) (fun c531 => ?_)
                  · exact absurd c531 (by decide)
                  · have hc531 := c531
                    have q531 := q_ne hc531
                    refine lv_bipush (v := (7)) hx hb dX10_compared_132 (by decide) ?_
                    refine lv_goto (tgt := 139) hx hb dX10_compared_134 (by decide) ?_
                    refine lv_iconst (v := (0)) hx hb dX10_compared_139 (by decide) ?_
                    refine m_callv (m_runV (1000) (As := [.int (7), .int (0)]) (rest := []) hx hb hml hown hts hE hM hS hA ce_X10_entry tb_1552 (V_X10_entry l D A ad ns I522 L523 G (7) (0) hJ hI (by omega)) rfl rfl ⟨Nat.le_of_ble_eq_true rfl, Nat.le_of_ble_eq_true rfl⟩ hJ.1 rfl rfl (by decide) rfl hl.1 rfl (Nat.le_of_ble_eq_true rfl) dX10_compared_140 ⟨Nat.le_of_ble_eq_true rfl, Nat.le_of_ble_eq_true rfl⟩) hS (fun u H locs hw hM hS => ?_)
                    obtain ⟨I532, L533, rfl, hI, hkI532, xI532⟩ := hw
                    have hM : Mem D A ad ns I532 L533 G H := hM
                    have hK := hK.trans hkI532 rfl
                    have pw534 : (I532 (1000) 24).toInt = (I (1000) 24 : Int32).toInt := congrArg Int32.toInt ((((((hkI532.get (1000) 24 rfl)).trans (hkI522.get (1000) 24 rfl)).trans (show (u2 (u2 I381 (1000) 25 (v390)) (1000) 25 (v513)) (1000) 24 = I381 (1000) 24 from by simp [u2_v])).trans (hkI381.get (1000) 24 rfl)).trans (hkI1.get (1000) 24 rfl))
                    have pw535 : (I532 (1000) 25).toInt = (I522 (1000) 25 : Int32).toInt := congrArg Int32.toInt ((hkI532.get (1000) 25 rfl))
                    have pw536 : (I532 (1000) 26).toInt = (I522 (1000) 26 : Int32).toInt := congrArg Int32.toInt ((hkI532.get (1000) 26 rfl))
                    have pw537 : (I532 (1000) 27).toInt = (I (1000) 27 : Int32).toInt := congrArg Int32.toInt ((((((hkI532.get (1000) 27 rfl)).trans (hkI522.get (1000) 27 rfl)).trans (show (u2 (u2 I381 (1000) 25 (v390)) (1000) 25 (v513)) (1000) 27 = I381 (1000) 27 from by simp [u2_v])).trans (hkI381.get (1000) 27 rfl)).trans (hkI1.get (1000) 27 rfl))
                    have pw538 : (I532 (1000) 31).toInt = (I522 (1000) 31 : Int32).toInt := congrArg Int32.toInt ((hkI532.get (1000) 31 rfl))
                    have pw539 : (I532 (1000) 32).toInt = (I (1000) 32 : Int32).toInt := congrArg Int32.toInt ((((((hkI532.get (1000) 32 rfl)).trans (hkI522.get (1000) 32 rfl)).trans (show (u2 (u2 I381 (1000) 25 (v390)) (1000) 25 (v513)) (1000) 32 = I381 (1000) 32 from by simp [u2_v])).trans (hkI381.get (1000) 32 rfl)).trans (hkI1.get (1000) 32 rfl))
                    have g540 := hI0.get 1000 27 (lo := 0) (hi := 5) rfl
                    have g541 := hI0.get 1000 29 (lo := 0) (hi := 300) rfl
                    have hC := hC.comp (n2 := 1) (xI532.2.2.ct (by omega) (by omega) (by omega) (by omega)) (by omega) (by omega) (by omega) (by omega) (by omega)
                    exact m_vret hx hb hr hlocks hM hS (Nat.le_of_ble_eq_true rfl) (Nat.le_of_ble_eq_true rfl) ⟨_, _, rfl, hI, hK, ⟨by omega, by omega, by omega, by omega, by omega, hC⟩⟩ dX10_compared_143
                · have hc530 := c530
                  have q530 := q_eq hc530
                  refine lv_iload_n hx hb dX10_compared_116 rfl (lv_at hl 0 rfl) ?_
                  refine lv_if_eq (tgt := 124) hx hb dX10_compared_117 (by decide) (fun c542 => ?_) (fun c542 => ?_)
                  · exact absurd c542 (by decide)
                  · have hc542 := c542
                    have q542 := q_ne hc542
                    refine lv_iconst (v := (5)) hx hb dX10_compared_120 (by decide) ?_
                    refine lv_goto (tgt := 139) hx hb dX10_compared_121 (by decide) ?_
                    refine lv_iconst (v := (0)) hx hb dX10_compared_139 (by decide) ?_
                    refine m_callv (m_runV (1000) (As := [.int (5), .int (0)]) (rest := []) hx hb hml hown hts hE hM hS hA ce_X10_entry tb_1552 (V_X10_entry l D A ad ns I522 L523 G (5) (0) hJ hI (by omega)) rfl rfl ⟨Nat.le_of_ble_eq_true rfl, Nat.le_of_ble_eq_true rfl⟩ hJ.1 rfl rfl (by decide) rfl hl.1 rfl (Nat.le_of_ble_eq_true rfl) dX10_compared_140 ⟨Nat.le_of_ble_eq_true rfl, Nat.le_of_ble_eq_true rfl⟩) hS (fun u H locs hw hM hS => ?_)
                    obtain ⟨I543, L544, rfl, hI, hkI543, xI543⟩ := hw
                    have hM : Mem D A ad ns I543 L544 G H := hM
                    have hK := hK.trans hkI543 rfl
                    have pw545 : (I543 (1000) 24).toInt = (I (1000) 24 : Int32).toInt := congrArg Int32.toInt ((((((hkI543.get (1000) 24 rfl)).trans (hkI522.get (1000) 24 rfl)).trans (show (u2 (u2 I381 (1000) 25 (v390)) (1000) 25 (v513)) (1000) 24 = I381 (1000) 24 from by simp [u2_v])).trans (hkI381.get (1000) 24 rfl)).trans (hkI1.get (1000) 24 rfl))
                    have pw546 : (I543 (1000) 25).toInt = (I522 (1000) 25 : Int32).toInt := congrArg Int32.toInt ((hkI543.get (1000) 25 rfl))
                    have pw547 : (I543 (1000) 26).toInt = (I522 (1000) 26 : Int32).toInt := congrArg Int32.toInt ((hkI543.get (1000) 26 rfl))
                    have pw548 : (I543 (1000) 27).toInt = (I (1000) 27 : Int32).toInt := congrArg Int32.toInt ((((((hkI543.get (1000) 27 rfl)).trans (hkI522.get (1000) 27 rfl)).trans (show (u2 (u2 I381 (1000) 25 (v390)) (1000) 25 (v513)) (1000) 27 = I381 (1000) 27 from by simp [u2_v])).trans (hkI381.get (1000) 27 rfl)).trans (hkI1.get (1000) 27 rfl))
                    have pw549 : (I543 (1000) 31).toInt = (I522 (1000) 31 : Int32).toInt := congrArg Int32.toInt ((hkI543.get (1000) 31 rfl))
                    have pw550 : (I543 (1000) 32).toInt = (I (1000) 32 : Int32).toInt := congrArg Int32.toInt ((((((hkI543.get (1000) 32 rfl)).trans (hkI522.get (1000) 32 rfl)).trans (show (u2 (u2 I381 (1000) 25 (v390)) (1000) 25 (v513)) (1000) 32 = I381 (1000) 32 from by simp [u2_v])).trans (hkI381.get (1000) 32 rfl)).trans (hkI1.get (1000) 32 rfl))
                    have g551 := hI0.get 1000 27 (lo := 0) (hi := 5) rfl
                    have g552 := hI0.get 1000 29 (lo := 0) (hi := 300) rfl
                    have hC := hC.comp (n2 := 1) (xI543.2.2.ct (by omega) (by omega) (by omega) (by omega)) (by omega) (by omega) (by omega) (by omega) (by omega)
                    exact m_vret hx hb hr hlocks hM hS (Nat.le_of_ble_eq_true rfl) (Nat.le_of_ble_eq_true rfl) ⟨_, _, rfl, hI, hK, ⟨by omega, by omega, by omega, by omega, by omega, hC⟩⟩ dX10_compared_143
              · have hc529 := c529
                have q529 := q_eq hc529
                refine lv_bipush (v := (6)) hx hb dX10_compared_105 (by decide) ?_
                refine lv_goto (tgt := 139) hx hb dX10_compared_107 (by decide) ?_
                refine lv_iconst (v := (0)) hx hb dX10_compared_139 (by decide) ?_
                refine m_callv (m_runV (1000) (As := [.int (6), .int (0)]) (rest := []) hx hb hml hown hts hE hM hS hA ce_X10_entry tb_1552 (V_X10_entry l D A ad ns I522 L523 G (6) (0) hJ hI (by omega)) rfl rfl ⟨Nat.le_of_ble_eq_true rfl, Nat.le_of_ble_eq_true rfl⟩ hJ.1 rfl rfl (by decide) rfl hl.1 rfl (Nat.le_of_ble_eq_true rfl) dX10_compared_140 ⟨Nat.le_of_ble_eq_true rfl, Nat.le_of_ble_eq_true rfl⟩) hS (fun u H locs hw hM hS => ?_)
                obtain ⟨I553, L554, rfl, hI, hkI553, xI553⟩ := hw
                have hM : Mem D A ad ns I553 L554 G H := hM
                have hK := hK.trans hkI553 rfl
                have pw555 : (I553 (1000) 24).toInt = (I (1000) 24 : Int32).toInt := congrArg Int32.toInt ((((((hkI553.get (1000) 24 rfl)).trans (hkI522.get (1000) 24 rfl)).trans (show (u2 (u2 I381 (1000) 25 (v390)) (1000) 25 (v513)) (1000) 24 = I381 (1000) 24 from by simp [u2_v])).trans (hkI381.get (1000) 24 rfl)).trans (hkI1.get (1000) 24 rfl))
                have pw556 : (I553 (1000) 25).toInt = (I522 (1000) 25 : Int32).toInt := congrArg Int32.toInt ((hkI553.get (1000) 25 rfl))
                have pw557 : (I553 (1000) 26).toInt = (I522 (1000) 26 : Int32).toInt := congrArg Int32.toInt ((hkI553.get (1000) 26 rfl))
                have pw558 : (I553 (1000) 27).toInt = (I (1000) 27 : Int32).toInt := congrArg Int32.toInt ((((((hkI553.get (1000) 27 rfl)).trans (hkI522.get (1000) 27 rfl)).trans (show (u2 (u2 I381 (1000) 25 (v390)) (1000) 25 (v513)) (1000) 27 = I381 (1000) 27 from by simp [u2_v])).trans (hkI381.get (1000) 27 rfl)).trans (hkI1.get (1000) 27 rfl))
                have pw559 : (I553 (1000) 31).toInt = (I522 (1000) 31 : Int32).toInt := congrArg Int32.toInt ((hkI553.get (1000) 31 rfl))
                have pw560 : (I553 (1000) 32).toInt = (I (1000) 32 : Int32).toInt := congrArg Int32.toInt ((((((hkI553.get (1000) 32 rfl)).trans (hkI522.get (1000) 32 rfl)).trans (show (u2 (u2 I381 (1000) 25 (v390)) (1000) 25 (v513)) (1000) 32 = I381 (1000) 32 from by simp [u2_v])).trans (hkI381.get (1000) 32 rfl)).trans (hkI1.get (1000) 32 rfl))
                have g561 := hI0.get 1000 27 (lo := 0) (hi := 5) rfl
                have g562 := hI0.get 1000 29 (lo := 0) (hi := 300) rfl
                have hC := hC.comp (n2 := 1) (xI553.2.2.ct (by omega) (by omega) (by omega) (by omega)) (by omega) (by omega) (by omega) (by omega) (by omega)
                exact m_vret hx hb hr hlocks hM hS (Nat.le_of_ble_eq_true rfl) (Nat.le_of_ble_eq_true rfl) ⟨_, _, rfl, hI, hK, ⟨by omega, by omega, by omega, by omega, by omega, hC⟩⟩ dX10_compared_143
      · have hc379 := c379
        have q379 := q_ne hc379
        refine lv_aload_n hx hb dX10_compared_27 rfl (lv_at hl 1 rfl) ?_
        refine lv_iconst (v := (0)) hx hb dX10_compared_28 (by decide) ?_
        refine lv_aload_n hx hb dX10_compared_29 rfl (lv_at hl 1 rfl) ?_
        refine m_geti (1000) 25 hx hb hts hown hE oc10 hM hJ.1 rfl (by decide) rfl tb_1202 dX10_compared_30 ?_
        have g563 := hI.get (1000) 25 (lo := 0) (hi := 100000) rfl
        refine m_callv (m_runV (1000) (As := [.int (0), .int (I1 (1000) 25)]) (rest := []) hx hb hml hown hts hE hM hS hA ce_X10_fails tb_1521 (V_X10_fails l D A ad ns I1 L2 G (0) (I1 (1000) 25) hJ hI (by first | omega | decide) (by first | omega | decide)) rfl rfl ⟨Nat.le_of_ble_eq_true rfl, Nat.le_of_ble_eq_true rfl⟩ hJ.1 rfl rfl (by decide) rfl hl.1 rfl (Nat.le_of_ble_eq_true rfl) dX10_compared_33 ⟨Nat.le_of_ble_eq_true rfl, Nat.le_of_ble_eq_true rfl⟩) hS (fun u H locs hw hM hS => ?_)
        obtain ⟨I564, L565, rfl, hI, hkI564, xI564⟩ := hw
        have hM : Mem D A ad ns I564 L565 G H := hM
        have hK := hK.trans hkI564 rfl
        have pw566 : (I564 (1000) 24).toInt = (I (1000) 24 : Int32).toInt := congrArg Int32.toInt (((hkI564.get (1000) 24 rfl)).trans (hkI1.get (1000) 24 rfl))
        have pw567 : (I564 (1000) 25).toInt = (I1 (1000) 25 : Int32).toInt := congrArg Int32.toInt ((hkI564.get (1000) 25 rfl))
        have pw568 : (I564 (1000) 27).toInt = (I (1000) 27 : Int32).toInt := congrArg Int32.toInt (((hkI564.get (1000) 27 rfl)).trans (hkI1.get (1000) 27 rfl))
        have pw569 : (I564 (1000) 29).toInt = (I1 (1000) 29 : Int32).toInt := congrArg Int32.toInt ((hkI564.get (1000) 29 rfl))
        have pw570 : (I564 (1000) 31).toInt = (I1 (1000) 31 : Int32).toInt := congrArg Int32.toInt ((hkI564.get (1000) 31 rfl))
        have pw571 : (I564 (1000) 32).toInt = (I (1000) 32 : Int32).toInt := congrArg Int32.toInt (((hkI564.get (1000) 32 rfl)).trans (hkI1.get (1000) 32 rfl))
        have hC := CT.link (I2 := I564) hC ((hkI564.getA 1035 rfl)) ((hkI564.getA 1036 rfl)) (by omega) (by omega)
        exact m_vret hx hb hr hlocks hM hS (Nat.le_of_ble_eq_true rfl) (Nat.le_of_ble_eq_true rfl) ⟨_, _, rfl, hI, hK, ⟨by omega, by omega, by omega, by omega, by omega, hC⟩⟩ dX10_compared_36
