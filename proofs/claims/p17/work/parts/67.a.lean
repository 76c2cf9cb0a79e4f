-- code of laws in the reference: how many values stand on the stack
def Imp (p q : Prop) : Prop := p → q
def net (f g : Nat → Int32) : Nat → Nat → Nat → Nat → Prop
  | 0, _, n, n2 => n = n2
  | m + 1, j, n, n2 => ((f j).toInt = 0 → net f g m (j + 1) (n + 1) n2) ∧ ((f j).toInt = 1 → (0 ≤ (g j).toInt ∧ (g j).toInt ≤ 12) ∧ net f g m (j + 1) (n + 1) n2) ∧ ((f j).toInt = 9 → 1 ≤ n ∧ net f g m (j + 1) n n2) ∧ ((f j).toInt ≠ 0 ∧ (f j).toInt ≠ 1 ∧ (f j).toInt ≠ 9 → 2 ≤ n ∧ net f g m (j + 1) (n - 1) n2)
theorem net_add {f g : Nat → Int32} {m2 n1 n2 : Nat} : ∀ {m j n : Nat}, net f g m j n n1 → net f g m2 (j + m) n1 n2 → net f g (m + m2) j n n2 := by
  intro m
  induction m with
  | zero =>
    intro j n h1 h2
    simp only [net] at h1
    subst h1
    simpa using h2
  | succ m ih =>
    intro j n h1 h2
    rw [show m + 1 + m2 = (m + m2) + 1 from by omega]
    rw [show j + (m + 1) = j + 1 + m from by omega] at h2
    simp only [net] at h1 ⊢
    exact ⟨fun q => ih (h1.1 q) h2, fun q => ⟨(h1.2.1 q).1, ih (h1.2.1 q).2 h2⟩, fun q => ⟨(h1.2.2.1 q).1, ih (h1.2.2.1 q).2 h2⟩, fun q => ⟨(h1.2.2.2 q).1, ih (h1.2.2.2 q).2 h2⟩⟩
theorem net_mono {f g : Nat → Int32} {d : Nat} : ∀ {m j n n2 : Nat}, net f g m j n n2 → net f g m j (n + d) (n2 + d) := by
  intro m
  induction m with
  | zero =>
    intro j n n2 h
    simp only [net] at h ⊢
    omega
  | succ m ih =>
    intro j n n2 h
    simp only [net] at h ⊢
    refine ⟨fun q => ?_, fun q => ⟨(h.2.1 q).1, ?_⟩, fun q => ⟨by have := (h.2.2.1 q).1; omega, ih (h.2.2.1 q).2⟩, fun q => ?_⟩
    · have := ih (h.1 q)
      rwa [show n + 1 + d = n + d + 1 from by omega] at this
    · have := ih (h.2.1 q).2
      rwa [show n + 1 + d = n + d + 1 from by omega] at this
    · have h1 := (h.2.2.2 q).1
      have := ih (h.2.2.2 q).2
      rw [show n - 1 + d = n + d - 1 from by omega] at this
      exact ⟨by omega, this⟩
theorem net_ext {f g f2 g2 : Nat → Int32} : ∀ {m j n n2 : Nat}, (∀ i, j ≤ i → i < j + m → f2 i = f i ∧ g2 i = g i) → net f g m j n n2 → net f2 g2 m j n n2 := by
  intro m
  induction m with
  | zero => intro j n n2 _ h; exact h
  | succ m ih =>
    intro j n n2 he h
    have e0 := he j (by omega) (by omega)
    have e1 : ∀ i, j + 1 ≤ i → i < j + 1 + m → f2 i = f i ∧ g2 i = g i := fun i h1 h2 => he i (by omega) (by omega)
    simp only [net] at h ⊢
    rw [e0.1, e0.2]
    exact ⟨fun q => ih e1 (h.1 q), fun q => ⟨(h.2.1 q).1, ih e1 (h.2.1 q).2⟩, fun q => ⟨(h.2.2.1 q).1, ih e1 (h.2.2.1 q).2⟩, fun q => ⟨(h.2.2.2 q).1, ih e1 (h.2.2.2 q).2⟩⟩
theorem net_st {f g : Nat → Int32} {m j n n2 : Nat} (h : net f g m j n n2) (hm : 0 < m) : ((f j).toInt = 0 → net f g (m - 1) (j + 1) (n + 1) n2) ∧ ((f j).toInt = 1 → (0 ≤ (g j).toInt ∧ (g j).toInt ≤ 12) ∧ net f g (m - 1) (j + 1) (n + 1) n2) ∧ ((f j).toInt = 9 → 1 ≤ n ∧ net f g (m - 1) (j + 1) n n2) ∧ ((f j).toInt ≠ 0 ∧ (f j).toInt ≠ 1 ∧ (f j).toInt ≠ 9 → 2 ≤ n ∧ net f g (m - 1) (j + 1) (n - 1) n2) := by
  obtain ⟨k, rfl⟩ : ∃ k, m = k + 1 := ⟨m - 1, by omega⟩
  exact h
-- from store to store: the code before stays, what comes is well made
def CT (I I2 : MI) (n n2 : Nat) : Prop := (∀ j : Nat, (j : Int) < 300 * (I 1000 27).toInt + (I 1000 29).toInt → I2 1035 j = I 1035 j ∧ I2 1036 j = I 1036 j) ∧ ((I2 1000 26).toInt = 0 → net (I2 1035) (I2 1036) ((I2 1000 29).toInt - (I 1000 29).toInt).toNat (300 * (I 1000 27).toInt + (I 1000 29).toInt).toNat n n2)
theorem CT.rf (I : MI) (n : Nat) : CT I I n n := ⟨fun _ _ => ⟨rfl, rfl⟩, fun _ => by rw [show ((I 1000 29).toInt - (I 1000 29).toInt).toNat = 0 from by omega]; rfl⟩
theorem CT.mono {I I2 : MI} {n n2 : Nat} (h : CT I I2 n n2) (d : Nat) : CT I I2 (n + d) (n2 + d) := ⟨h.1, fun q => net_mono (h.2 q)⟩
theorem CT.link {I J I2 : MI} {n n2 : Nat} (h : CT I J n n2) (h35 : I2 1035 = J 1035) (h36 : I2 1036 = J 1036) (h29 : (I2 1000 29).toInt = (J 1000 29).toInt) (hf : (I2 1000 26).toInt = 0 → (J 1000 26).toInt = 0) : CT I I2 n n2 := ⟨fun j hj => by rw [h35, h36]; exact h.1 j hj, fun q => by rw [h35, h36, h29]; exact h.2 (hf q)⟩
theorem CT.comp {I J I2 : MI} {n n1 n2 : Nat} (h : CT I J n n1) (h2 : CT J I2 n1 n2) (hs : (J 1000 27).toInt = (I 1000 27).toInt) (h0 : 0 ≤ (I 1000 27).toInt ∧ 0 ≤ (I 1000 29).toInt) (he : (I 1000 29).toInt ≤ (J 1000 29).toInt) (he2 : (J 1000 29).toInt ≤ (I2 1000 29).toInt) (hf : (I2 1000 26).toInt = 0 → (J 1000 26).toInt = 0) : CT I I2 n n2 := by
  refine ⟨fun j hj => ?_, fun q => ?_⟩
  · have h3 := h2.1 j (by omega)
    have h4 := h.1 j hj
    rw [h3.1, h3.2]
    exact h4
  · have h3 := h2.2 q
    have h4 := h.2 (hf q)
    have h5 : net (I2 1035) (I2 1036) ((J 1000 29).toInt - (I 1000 29).toInt).toNat (300 * (I 1000 27).toInt + (I 1000 29).toInt).toNat n n1 := net_ext (fun i h6 h7 => h2.1 i (by omega)) h4
    have h6 := net_add (m2 := ((I2 1000 29).toInt - (J 1000 29).toInt).toNat) (n2 := n2) h5 (by rw [show (300 * (I 1000 27).toInt + (I 1000 29).toInt).toNat + ((J 1000 29).toInt - (I 1000 29).toInt).toNat = (300 * (J 1000 27).toInt + (J 1000 29).toInt).toNat from by omega]; exact h3)
    rw [show ((J 1000 29).toInt - (I 1000 29).toInt).toNat + ((I2 1000 29).toInt - (J 1000 29).toInt).toNat = ((I2 1000 29).toInt - (I 1000 29).toInt).toNat from by omega] at h6
    exact h6
-- one entry more
def ENT (I I2 : MI) (a b : Int32) : Prop := ∀ j : Nat, (I2 1035 j = if (I 1000 26).toInt = 0 ∧ (j : Int) = 300 * (I 1000 27).toInt + (I 1000 29).toInt then a else I 1035 j) ∧ (I2 1036 j = if (I 1000 26).toInt = 0 ∧ (j : Int) = 300 * (I 1000 27).toInt + (I 1000 29).toInt then b else I 1036 j)
theorem ENT.ct {I I2 : MI} {a b : Int32} {n n2 : Nat} (h : ENT I I2 a b) (h0 : 0 ≤ (I 1000 27).toInt ∧ 0 ≤ (I 1000 29).toInt) (hf : (I2 1000 26).toInt = (I 1000 26).toInt) (he : (I 1000 26).toInt = 0 → (I2 1000 29).toInt = (I 1000 29).toInt + 1) (hq : (a.toInt = 0 → n2 = n + 1) ∧ (a.toInt = 1 → (0 ≤ b.toInt ∧ b.toInt ≤ 12) ∧ n2 = n + 1) ∧ (a.toInt = 9 → 1 ≤ n ∧ n2 = n) ∧ (a.toInt ≠ 0 ∧ a.toInt ≠ 1 ∧ a.toInt ≠ 9 → 2 ≤ n ∧ n2 = n - 1)) : CT I I2 n n2 := by
  refine ⟨fun j hj => ?_, fun q => ?_⟩
  · have := h j
    rw [if_neg (by omega), if_neg (by omega)] at this
    exact this
  · have q0 : (I 1000 26).toInt = 0 := by omega
    have h1 := h (300 * (I 1000 27).toInt + (I 1000 29).toInt).toNat
    rw [if_pos ⟨q0, by omega⟩, if_pos ⟨q0, by omega⟩] at h1
    rw [show ((I2 1000 29).toInt - (I 1000 29).toInt).toNat = 0 + 1 from by have := he q0; omega]
    simp only [net]
    rw [h1.1, h1.2]
    exact ⟨fun z => (hq.1 z).symm, fun z => ⟨(hq.2.1 z).1, (hq.2.1 z).2.symm⟩, fun z => ⟨(hq.2.2.1 z).1, (hq.2.2.1 z).2.symm⟩, fun z => ⟨(hq.2.2.2 z).1, (hq.2.2.2 z).2.symm⟩⟩
-- what waits on the stack of signs
def skk (P : Int32 → Nat) (f : Nat → Int32) : Nat → Nat
  | 0 => 0
  | k + 1 => skk P f k + P (f k)
theorem sk_ext {P : Int32 → Nat} {f f2 : Nat → Int32} : ∀ {k : Nat}, (∀ i, i < k → f2 i = f i) → skk P f2 k = skk P f k := by
  intro k
  induction k with
  | zero => intro _; rfl
  | succ k ih =>
    intro h
    rw [skk, skk, h k (by omega), ih (fun i hi => h i (by omega))]
def pN (v : Int32) : Nat := if v.toInt = 9 ∨ v.toInt = 10 ∨ v.toInt = 11 then 1 else 0
def pB (v : Int32) : Nat := if v.toInt = 10 ∨ v.toInt = 11 then 1 else 0
def NS (I : MI) : Nat := skk pN (I 1042) (I 1000 32).toNatClampNeg
def NB (I : MI) : Nat := skk pB (I 1042) (I 1000 32).toNatClampNeg
theorem NS_of {I I2 : MI} (h : I2 1042 = I 1042) (h2 : (I2 1000 32).toInt = (I 1000 32).toInt) : NS I2 = NS I ∧ NB I2 = NB I := by
  have := Int32.toInt_inj.mp h2
  simp only [NS, NB, h, this]
  exact ⟨trivial, trivial⟩
theorem NS_0 {I : MI} (h : (I 1000 32).toInt = 0) : NS I = 0 ∧ NB I = 0 := by
  have : (I 1000 32).toNatClampNeg = 0 := by
    have := tn (i := I 1000 32) (by omega)
    omega
  simp only [NS, NB, this, skk]
  exact ⟨trivial, trivial⟩
theorem NS_push {I I2 : MI} {k : Int32} (h : ∀ j, I2 1042 j = if j = (I 1000 32).toNatClampNeg then k else I 1042 j) (h0 : 0 ≤ (I 1000 32).toInt) (h2 : (I2 1000 32).toInt = (I 1000 32).toInt + 1) : NS I2 = NS I + pN k ∧ NB I2 = NB I + pB k := by
  have t1 := tn h0
  have t2 := tn (i := I2 1000 32) (by omega)
  have e : (I2 1000 32).toNatClampNeg = (I 1000 32).toNatClampNeg + 1 := by omega
  have hk := h (I 1000 32).toNatClampNeg
  rw [if_pos rfl] at hk
  have hr : ∀ i, i < (I 1000 32).toNatClampNeg → I2 1042 i = I 1042 i := fun i hi => by rw [h i, if_neg (by omega)]
  simp only [NS, NB, e, skk, hk, sk_ext hr]
  exact ⟨trivial, trivial⟩
theorem NS_pop {I I2 : MI} (h : I2 1042 = I 1042) (h0 : 0 < (I 1000 32).toInt) (h2 : (I2 1000 32).toInt = (I 1000 32).toInt - 1) : NS I = NS I2 + pN (I 1042 (I2 1000 32).toNatClampNeg) ∧ NB I = NB I2 + pB (I 1042 (I2 1000 32).toNatClampNeg) := by
  have t1 := tn (i := I 1000 32) (by omega)
  have t2 := tn (i := I2 1000 32) (by omega)
  have e : (I 1000 32).toNatClampNeg = (I2 1000 32).toNatClampNeg + 1 := by omega
  simp only [NS, NB, e, skk, h]
  exact ⟨trivial, trivial⟩
-- clauses and laws
def CLr (I : MI) (r c : Nat) (t : Int) : Prop := (I 1040 c).toInt ≤ t ∧ (I 1041 c).toInt ≤ t ∧ (∃ d, net (I 1035) (I 1036) ((I 1040 c).toInt - (I 1039 c).toInt).toNat (300 * (r : Int) + (I 1039 c).toInt).toNat 0 d) ∧ ∃ d, net (I 1035) (I 1036) ((I 1041 c).toInt - (I 1040 c).toInt).toNat (300 * (r : Int) + (I 1040 c).toInt).toNat 0 d
theorem CLr.ext {I I2 : MI} {r c : Nat} {t t2 : Int} (h : CLr I r c t) (hI : INV I) (ht : t ≤ t2) (h39 : I2 1039 c = I 1039 c) (h40 : I2 1040 c = I 1040 c) (h41 : I2 1041 c = I 1041 c) (hc : ∀ j : Nat, (j : Int) < 300 * (r : Int) + t → I2 1035 j = I 1035 j ∧ I2 1036 j = I 1036 j) : CLr I2 r c t2 := by
  obtain ⟨h1, h2, ⟨d, h3⟩, d2, h4⟩ := h
  have g1 := hI.get 1039 c (lo := 0) (hi := 300) rfl
  have g2 := hI.get 1040 c (lo := 0) (hi := 300) rfl
  refine ⟨by rw [h40]; omega, by rw [h41]; omega, ⟨d, ?_⟩, d2, ?_⟩
  · rw [h40, h39]
    exact net_ext (fun i h6 h7 => hc i (by omega)) h3
  · rw [h41, h40]
    exact net_ext (fun i h6 h7 => hc i (by omega)) h4
def LWR (I : MI) (r : Nat) : Prop := r < 6 ∧ 0 ≤ (I 1037 r).toInt ∧ (I 1037 r).toInt ≤ 12 ∧ ∀ i : Nat, (i : Int) < (I 1037 r).toInt → CLr I r (12 * r + i) 300
def LWM (I : MI) : Prop := ∀ r : Nat, (r : Int) < (I 1000 28).toInt → LWR I r
theorem LWR.of {I I2 : MI} {r : Nat} (h : LWR I r) (h35 : I2 1035 = I 1035) (h36 : I2 1036 = I 1036) (h37 : I2 1037 = I 1037) (h39 : I2 1039 = I 1039) (h40 : I2 1040 = I 1040) (h41 : I2 1041 = I 1041) : LWR I2 r := by
  unfold LWR CLr
  rw [h35, h36, h37, h39, h40, h41]
  exact h
theorem LWR.kp {R P : List (Nat × Nat)} {I I2 : MI} {r : Nat} (h : LWR I r) (hK : Kp R P I I2) (hc : ([1035, 1036, 1037, 1039, 1040, 1041].all (fun n => !(inR R n || P.any (fun q => q.1 == n)))) = true) : LWR I2 r := by
  simp only [List.all_cons, List.all_nil, Bool.and_true, Bool.and_eq_true, Bool.not_eq_true'] at hc
  obtain ⟨h1, h2, h3, h4, h5, h6⟩ := hc
  exact h.of (hK.getA _ h1) (hK.getA _ h2) (hK.getA _ h3) (hK.getA _ h4) (hK.getA _ h5) (hK.getA _ h6)
theorem LWM.kp {R P : List (Nat × Nat)} {I I2 : MI} (h : LWM I) (hK : Kp R P I I2) (hc : ([1035, 1036, 1037, 1039, 1040, 1041].all (fun n => !(inR R n || P.any (fun q => q.1 == n)))) = true) (h28 : (inR R 1000 || P.contains (1000, 28)) = false) : LWM I2 := by
  intro r hr
  rw [hK.get 1000 28 h28] at hr
  exact (h r hr).kp hK hc
theorem CT.mono0 {I I2 : MI} {n2 : Nat} (h : CT I I2 0 n2) (d : Nat) : CT I I2 d (n2 + d) := by
  have := h.mono d
  rwa [Nat.zero_add] at this
theorem sk_top {P : Int32 → Nat} {f : Nat → Int32} {k : Nat} (h : 0 < k) : skk P f k = skk P f (k - 1) + P (f (k - 1)) := by
  obtain ⟨m, rfl⟩ : ∃ m, k = m + 1 := ⟨k - 1, by omega⟩
  rfl
theorem top_k {I : MI} {r k : Int32} (x : ((I 1000 32).toInt = 0 ∧ r = -1) ∨ (0 < (I 1000 32).toInt ∧ r = I 1042 ((I 1000 32).toNatClampNeg - 1))) (e : r = k) (hk : 0 ≤ k.toInt) : 0 < (I 1000 32).toInt ∧ I 1042 ((I 1000 32).toNatClampNeg - 1) = k ∧ pB k ≤ NB I ∧ pN k ≤ NS I := by
  subst e
  rcases x with ⟨h1, h2⟩ | ⟨h1, h2⟩
  · rw [h2] at hk
    exact absurd hk (by decide)
  · have t1 := tn (i := I 1000 32) (by omega)
    refine ⟨h1, h2.symm, ?_, ?_⟩
    · unfold NB
      rw [sk_top (by omega), ← h2]
      omega
    · unfold NS
      rw [sk_top (by omega), ← h2]
      omega
theorem pop_k {I I2 : MI} {k : Int32} (h0 : 0 < (I 1000 32).toInt) (hk : I 1042 ((I 1000 32).toNatClampNeg - 1) = k) (h42 : I2 1042 = I 1042) (h32 : (I2 1000 32).toInt = (I 1000 32).toInt - 1) : NS I = NS I2 + pN k ∧ NB I = NB I2 + pB k := by
  have t1 := tn (i := I 1000 32) (by omega)
  have t2 := tn (i := I2 1000 32) (by omega)
  have := NS_pop h42 h0 h32
  rw [show (I2 1000 32).toNatClampNeg = (I 1000 32).toNatClampNeg - 1 from by omega, hk] at this
  exact this
theorem NS_pushU {I Ix : MI} {k w : Int32} (ha : Ix 1042 = I 1042) (h0 : 0 ≤ (I 1000 32).toInt) (hw : w.toInt = (I 1000 32).toInt + 1) : NS (u2 (u2 Ix 1042 (I 1000 32).toNatClampNeg k) 1000 32 w) = NS I + pN k ∧ NB (u2 (u2 Ix 1042 (I 1000 32).toNatClampNeg k) 1000 32 w) = NB I + pB k := by
  refine NS_push (fun j => ?_) h0 (by rw [u2_self]; exact hw)
  rw [u2_v, if_neg (by simp), u2_v, ha]
  by_cases hq : j = (I 1000 32).toNatClampNeg
  · rw [if_pos ⟨rfl, hq⟩, if_pos hq]
  · rw [if_neg (by simp [hq]), if_neg hq]
-- a clause made
theorem CLr.mk {A B C D Z : MI} {r c : Nat} {d : Nat} (hs : CT A B 0 1) (ht : CT C D 0 d) (hC : C 1035 = B 1035 ∧ C 1036 = B 1036 ∧ (C 1000 29).toInt = (B 1000 29).toInt ∧ (C 1000 27).toInt = r) (hA : (A 1000 27).toInt = r ∧ 0 ≤ (A 1000 29).toInt ∧ (A 1000 29).toInt ≤ (B 1000 29).toInt) (hZ : Z 1035 = D 1035 ∧ Z 1036 = D 1036) (hE : (C 1000 29).toInt ≤ (D 1000 29).toInt) (hf : (B 1000 26).toInt = 0 ∧ (D 1000 26).toInt = 0) (h39 : (Z 1039 c).toInt = (A 1000 29).toInt) (h40 : (Z 1040 c).toInt = (B 1000 29).toInt) (h41 : (Z 1041 c).toInt = (D 1000 29).toInt) : CLr Z r c (D 1000 29).toInt := by
  refine ⟨by omega, by omega, ⟨1, ?_⟩, d, ?_⟩
  · have h1 := hs.2 hf.1
    rw [h39, h40, hZ.1, hZ.2]
    rw [← hC.1, ← hC.2.1, hA.1] at h1
    exact net_ext (fun i h6 h7 => ht.1 i (by omega)) h1
  · have h1 := ht.2 hf.2
    rw [h40, h41, hZ.1, hZ.2]
    rw [hC.2.2.1, hC.2.2.2] at h1
    exact h1
theorem bo_or {r : Int32} {P : Prop} (h : Bo r P) : (r.toInt = 0 ∨ P) ∧ 0 ≤ r.toInt ∧ r.toInt ≤ 1 := by
  rcases h with ⟨h, e⟩ | ⟨h, e⟩
  · subst e
    exact ⟨Or.inr h, by decide, by decide⟩
  · subst e
    exact ⟨Or.inl (by decide), by decide, by decide⟩
theorem dX10_sign_0 : decode cX10_sign 0 = .ok (.aload_n 0, 1) := by decide +kernel
theorem dX10_sign_1 : decode cX10_sign 1 = .ok (.getfield 267, 3) := by decide +kernel
theorem dX10_sign_4 : decode cX10_sign 4 = .ok (.aload_n 0, 1) := by decide +kernel
theorem dX10_sign_5 : decode cX10_sign 5 = .ok (.getfield 232, 3) := by decide +kernel
theorem dX10_sign_8 : decode cX10_sign 8 = .ok (.if_icmp .ge 19, 3) := by decide +kernel
theorem dX10_sign_11 : decode cX10_sign 11 = .ok (.aload_n 0, 1) := by decide +kernel
theorem dX10_sign_12 : decode cX10_sign 12 = .ok (.getfield 83, 3) := by decide +kernel
theorem dX10_sign_15 : decode cX10_sign 15 = .ok (.aload_n 0, 1) := by decide +kernel
theorem dX10_sign_16 : decode cX10_sign 16 = .ok (.getfield 267, 3) := by decide +kernel
theorem dX10_sign_19 : decode cX10_sign 19 = .ok (.baload, 1) := by decide +kernel
theorem dX10_sign_20 : decode cX10_sign 20 = .ok (.sipush 255, 3) := by decide +kernel
theorem dX10_sign_23 : decode cX10_sign 23 = .ok (.iand, 1) := by decide +kernel
theorem dX10_sign_24 : decode cX10_sign 24 = .ok (.goto 4, 3) := by decide +kernel
theorem dX10_sign_27 : decode cX10_sign 27 = .ok (.iconst (-1), 1) := by decide +kernel
theorem dX10_sign_28 : decode cX10_sign 28 = .ok (.ireturn, 1) := by decide +kernel
theorem ce_X10_sign : CeV RX10 yX10_sign cX10_sign 1 (some .int) 0 := ⟨tb_1512, tp_63, tb_11, tb_1513, rfl, by decide, by decide, by decide +kernel⟩
set_option maxHeartbeats 4000000 in
set_option maxRecDepth 20000 in
theorem V_X10_sign (l : Launch) (D : va_G) (A : Nat → Prop) (ad : Nat → Nat) (ns : List Nat) (I : MI) (L : ML) (G : MG) (hJ : SGM ns G) (hI : INV I) : Met l yX10_sign (wd yX10_sign cX10_sign 1 (some .int)) ({ frames := 0, cells := 0, slots := 0, locals := 0 }) (va_Pc [.ref (ad (1000))] (PM D A ad ns I L G)) (va_Qi (fun r u => u = (ad, ns, I, L, G) ∧ (-1 ≤ r.toInt ∧ r.toInt ≤ 255 ∧ Imp (0 ≤ r.toInt) ((I 1000 25).toInt < (I 1000 24).toInt))) (BM D A) A) 0 0 A := by
  refine m_ofW (by decide) (Nat.le_of_ble_eq_true rfl) ?_
  intro p e s m below meth c ls args hC hE hM hA hS hl
  obtain ⟨hx, hb, hml, hown, hts, hr, hlocks, hin⟩ := hC
  have km1 : (-1 : Int32).toInt = -1 := by decide
  have k0 : (0 : Int32).toInt = 0 := by decide
  have k255 : (255 : Int32).toInt = 255 := by decide
  have hl : lv_has ls 1 [(0, .ref (ad (1000)))] := hl
  refine lv_aload_n hx hb dX10_sign_0 rfl (lv_at hl 0 rfl) ?_
  refine m_geti (1000) 25 hx hb hts hown hE oc10 hM hJ.1 rfl (by decide) rfl tb_1202 dX10_sign_1 ?_
  have g1 := hI.get (1000) 25 (lo := 0) (hi := 100000) rfl
  refine lv_aload_n hx hb dX10_sign_4 rfl (lv_at hl 0 rfl) ?_
  refine m_geti (1000) 24 hx hb hts hown hE oc10 hM hJ.1 rfl (by decide) rfl tb_1201 dX10_sign_5 ?_
  have g2 := hI.get (1000) 24 (lo := 0) (hi := 400) rfl
  refine lv_icmp_ge (tgt := 27) hx hb dX10_sign_8 (by decide) (fun c3 => ?_) (fun c3 => ?_)
  · have hc3 := c3
    have q3 := q_le hc3
    refine lv_iconst (v := (-1)) hx hb dX10_sign_27 (by decide) ?_
    exact m_iret hx hb hr hlocks hM hS (Nat.le_of_ble_eq_true rfl) (Nat.le_of_ble_eq_true rfl) ⟨rfl, ⟨by omega, by omega, fun hz => by omega⟩⟩ dX10_sign_28
  · have hc3 := c3
    have q3 := q_nle hc3
    refine lv_aload_n hx hb dX10_sign_11 rfl (lv_at hl 0 rfl) ?_
    refine m_getr (1000) 34 (1034) hx hb hts hown hE oc10 hM hJ.1 rfl (by decide) rfl (hJ.2 34 (by decide)).2 (by decide) tb_1211 dX10_sign_12 ?_
    refine lv_aload_n hx hb dX10_sign_15 rfl (lv_at hl 0 rfl) ?_
    refine m_geti (1000) 25 hx hb hts hown hE oc10 hM hJ.1 rfl (by decide) rfl tb_1202 dX10_sign_16 ?_
    refine m_bald (1034) hx hb hE hM (hJ.2 34 (by decide)).1 rfl (vp_in_iff.mpr (by omega)) dX10_sign_19 ?_
    refine lv_sipush (v := (255)) hx hb dX10_sign_20 (by decide) ?_
    refine lv_iand hx hb dX10_sign_23 ?_
    refine lv_topi (fun v4 ev4 => ?_)
    have tv4 := a_and (c := 255) ev4 (by decide) (by decide)
    refine lv_goto (tgt := 28) hx hb dX10_sign_24 (by decide) ?_
    exact m_iret hx hb hr hlocks hM hS (Nat.le_of_ble_eq_true rfl) (Nat.le_of_ble_eq_true rfl) ⟨rfl, ⟨by omega, by omega, fun hz => by omega⟩⟩ dX10_sign_28
theorem dX10_blanks_0 : decode cX10_blanks 0 = .ok (.aload_n 0, 1) := by decide +kernel
theorem dX10_blanks_1 : decode cX10_blanks 1 = .ok (.invokevirtual 270, 3) := by decide +kernel
theorem dX10_blanks_4 : decode cX10_blanks 4 = .ok (.bipush 32, 2) := by decide +kernel
theorem dX10_blanks_6 : decode cX10_blanks 6 = .ok (.if_icmp .ne 16, 3) := by decide +kernel
theorem dX10_blanks_9 : decode cX10_blanks 9 = .ok (.aload_n 0, 1) := by decide +kernel
theorem dX10_blanks_10 : decode cX10_blanks 10 = .ok (.dup, 1) := by decide +kernel
theorem dX10_blanks_11 : decode cX10_blanks 11 = .ok (.getfield 267, 3) := by decide +kernel
theorem dX10_blanks_14 : decode cX10_blanks 14 = .ok (.iconst 1, 1) := by decide +kernel
theorem dX10_blanks_15 : decode cX10_blanks 15 = .ok (.iadd, 1) := by decide +kernel
theorem dX10_blanks_16 : decode cX10_blanks 16 = .ok (.putfield 267, 3) := by decide +kernel
theorem dX10_blanks_19 : decode cX10_blanks 19 = .ok (.goto (-19), 3) := by decide +kernel
theorem dX10_blanks_22 : decode cX10_blanks 22 = .ok (.return_, 1) := by decide +kernel
theorem ce_X10_blanks : CeV RX10 yX10_blanks cX10_blanks 1 none 0 := ⟨tb_1508, tp_62, tb_11, tb_1509, rfl, by decide, by decide, by decide +kernel⟩
set_option maxHeartbeats 4000000 in
set_option maxRecDepth 20000 in
theorem V_X10_blanks (l : Launch) (D : va_G) (A : Nat → Prop) (ad : Nat → Nat) (ns : List Nat) (I : MI) (L : ML) (G : MG) (hJ : SGM ns G) (hI : INV I) (hp : (I 1000 25).toInt ≤ 400) : Met l yX10_blanks (wd yX10_blanks cX10_blanks 1 none) ({ frames := 1, cells := 0, slots := 0, locals := 20 }) (va_Pc [.ref (ad (1000))] (PM D A ad ns I L G)) (va_Qv (fun u => ∃ I2 L2, u = (ad, ns, I2, L2, G) ∧ INV I2 ∧ Kp [] [(1000, 25)] I I2 ∧ ((I 1000 25).toInt ≤ (I2 1000 25).toInt ∧ (I2 1000 25).toInt ≤ 400)) (BM D A) A) 0 0 A := by
  refine m_ofW (by decide) (Nat.le_of_ble_eq_true rfl) ?_
  intro p e s m below meth c ls args hC hE hM hA hS hl
  obtain ⟨hx, hb, hml, hown, hts, hr, hlocks, hin⟩ := hC
  have k0 : (0 : Int32).toInt = 0 := by decide
  have k1 : (1 : Int32).toInt = 1 := by decide
  have k32 : (32 : Int32).toInt = 32 := by decide
  have hK : Kp [] [(1000, 25)] I I := Kp.rf
  have hl : lv_has ls 1 [(0, .ref (ad (1000)))] := hl
  have loop0 : ∀ (n : Nat)  (Ia0 : MI) (La0 : ML) (H : Heap) (locs : List Loc) (ls : Array Slot), INV Ia0 → Kp [] [(1000, 25)] I Ia0 → ((I 1000 25).toInt ≤ (Ia0 1000 25).toInt ∧ (Ia0 1000 25).toInt ≤ 400) → (400 - (Ia0 1000 25).toInt).toNat < n → Mem D A ad ns Ia0 La0 G H → va_S A s.heap H locs → lv_has ls 1 [(0, .ref (ad (1000)))] → W p l e ({ frames := 1, cells := 0, slots := 0, locals := 20 } : Room) s m args below meth c H locs 0 0 (MQ below (va_Qv (fun u => ∃ I2 L2, u = (ad, ns, I2, L2, G) ∧ INV I2 ∧ Kp [] [(1000, 25)] I I2 ∧ ((I 1000 25).toInt ≤ (I2 1000 25).toInt ∧ (I2 1000 25).toInt ≤ 400)) (BM D A) A) args s 0 0 A) (F0 m 0 ls []) := by
    intro n
    induction n with
    | zero =>
      intro  Ia0 La0 H locs ls hI hK hpg hmu
      exact absurd hmu (Nat.not_lt_zero _)
    | succ n ih0 =>
      intro  Ia0 La0 H locs ls hI hK hpg hmu0 hM hS hl
      refine lv_aload_n hx hb dX10_blanks_0 rfl (lv_at hl 0 rfl) ?_
      refine m_calli (m_runV (1000) (As := []) (rest := []) hx hb hml hown hts hE hM hS hA ce_X10_sign tb_1510 (V_X10_sign l D A ad ns Ia0 La0 G hJ hI) rfl rfl ⟨Nat.le_of_ble_eq_true rfl, Nat.le_of_ble_eq_true rfl⟩ hJ.1 rfl rfl (by decide) rfl hl.1 rfl (Nat.le_of_ble_eq_true rfl) dX10_blanks_1 ⟨Nat.le_of_ble_eq_true rfl, Nat.le_of_ble_eq_true rfl⟩) hS (fun r1 u H locs hw hM hS => ?_)
      obtain ⟨rfl, xr1⟩ := hw
      have hM : Mem D A ad ns Ia0 La0 G H := hM
      have g2 := hI.get 1000 24 (lo := 0) (hi := 400) rfl
      have g3 := hI.get 1000 25 (lo := 0) (hi := 100000) rfl
      refine lv_bipush (v := (32)) hx hb dX10_blanks_4 (by decide) ?_
      refine lv_icmp_ne (tgt := 22) hx hb dX10_blanks_6 (by decide) (fun c4 => ?_) (fun c4 => ?_)
      · have hc4 := c4
        have q4 := q_ne hc4
        exact m_vret hx hb hr hlocks hM hS (Nat.le_of_ble_eq_true rfl) (Nat.le_of_ble_eq_true rfl) ⟨_, _, rfl, hI, hK, (by omega)⟩ dX10_blanks_22
      · have hc4 := c4
        have q4 := q_eq hc4
        have sg5 := xr1.2.2 (by omega)
        refine lv_aload_n hx hb dX10_blanks_9 rfl (lv_at hl 0 rfl) ?_
        refine lv_dup hx hb dX10_blanks_10 rfl ?_
        refine m_geti (1000) 25 hx hb hts hown hE oc10 hM hJ.1 rfl (by decide) rfl tb_1202 dX10_blanks_11 ?_
        have g6 := hI.get (1000) 25 (lo := 0) (hi := 100000) rfl
        refine lv_iconst (v := (1)) hx hb dX10_blanks_14 (by decide) ?_
        refine lv_iadd hx hb dX10_blanks_15 ?_
        refine lv_topi (fun v7 ev7 => ?_)
        have tv7 := a_add ev7 (by omega) (by omega)
        refine m_puti (1000) 25 hx hb hts hown hE oc10 hM hS hJ.1 rfl (by decide) rfl rfl rfl rfl tb_1202 dX10_blanks_16 (fun H locs I8 eI8 hM hS => ?_)
        subst eI8
        have hI := hI.put (n := 1000) (k := 25) (v := v7) (lo := 0) (hi := 100000) rfl (by first | omega | decide)
        have hK := hK.put (n := 1000) (k := 25) (v := v7) (by first | rfl | simp [inR])
        refine lv_goto (tgt := 0) hx hb dX10_blanks_19 (by decide) ?_
        have tr100025 : ((u2 Ia0 (1000) 25 (v7)) (1000) 25).toInt = (v7 : Int32).toInt := congrArg Int32.toInt ((show (u2 Ia0 (1000) 25 (v7)) (1000) 25 = v7 from by simp [u2_v]))
        exact ih0  (u2 Ia0 (1000) 25 (v7)) La0 _ _ ls hI hK (by omega) (by omega) hM hS (lv_sub hl [0] rfl)
  exact loop0 (_ + 1)  I L _ _ ls hI hK (by omega) (Nat.lt_succ_self _) hM hS (lv_sub hl [0] rfl)
theorem dX10_isDigit_0 : decode cX10_isDigit 0 = .ok (.aload_n 0, 1) := by decide +kernel
theorem dX10_isDigit_1 : decode cX10_isDigit 1 = .ok (.invokevirtual 270, 3) := by decide +kernel
theorem dX10_isDigit_4 : decode cX10_isDigit 4 = .ok (.i2l, 1) := by decide +kernel
theorem dX10_isDigit_5 : decode cX10_isDigit 5 = .ok (.ldc2_w 274, 3) := by decide +kernel
theorem dX10_isDigit_8 : decode cX10_isDigit 8 = .ok (.ldc2_w 276, 3) := by decide +kernel
theorem dX10_isDigit_11 : decode cX10_isDigit 11 = .ok (.invokestatic 192, 3) := by decide +kernel
theorem dX10_isDigit_14 : decode cX10_isDigit 14 = .ok (.ireturn, 1) := by decide +kernel
theorem ce_X10_isDigit : CeV RX10 yX10_isDigit cX10_isDigit 1 (some .boolean) 0 := ⟨tb_1531, tp_67, tb_11, tb_1532, rfl, by decide, by decide, by decide +kernel⟩
set_option maxHeartbeats 4000000 in
set_option maxRecDepth 20000 in
theorem V_X10_isDigit (l : Launch) (D : va_G) (A : Nat → Prop) (ad : Nat → Nat) (ns : List Nat) (I : MI) (L : ML) (G : MG) (hJ : SGM ns G) (hI : INV I) : Met l yX10_isDigit (wd yX10_isDigit cX10_isDigit 1 (some .boolean)) ({ frames := 1, cells := 0, slots := 0, locals := 25 }) (va_Pc [.ref (ad (1000))] (PM D A ad ns I L G)) (va_Qi (fun r u => u = (ad, ns, I, L, G) ∧ (0 ≤ r.toInt ∧ r.toInt ≤ 1 ∧ Imp (r.toInt ≠ 0) ((I 1000 25).toInt < (I 1000 24).toInt))) (BM D A) A) 0 0 A := by
  refine m_ofW (by decide) (Nat.le_of_ble_eq_true rfl) ?_
  intro p e s m below meth c ls args hC hE hM hA hS hl
  obtain ⟨hx, hb, hml, hown, hts, hr, hlocks, hin⟩ := hC
  have k0 : (0 : Int32).toInt = 0 := by decide
  have kl48 : (48 : Int64).toInt = 48 := by decide
  have kl57 : (57 : Int64).toInt = 57 := by decide
  have hl : lv_has ls 1 [(0, .ref (ad (1000)))] := hl
  refine lv_aload_n hx hb dX10_isDigit_0 rfl (lv_at hl 0 rfl) ?_
  refine m_calli (m_runV (1000) (As := []) (rest := []) hx hb hml hown hts hE hM hS hA ce_X10_sign tb_1510 (V_X10_sign l D A ad ns I L G hJ hI) rfl rfl ⟨Nat.le_of_ble_eq_true rfl, Nat.le_of_ble_eq_true rfl⟩ hJ.1 rfl rfl (by decide) rfl hl.1 rfl (Nat.le_of_ble_eq_true rfl) dX10_isDigit_1 ⟨Nat.le_of_ble_eq_true rfl, Nat.le_of_ble_eq_true rfl⟩) hS (fun r1 u H locs hw hM hS => ?_)
  obtain ⟨rfl, xr1⟩ := hw
  have hM : Mem D A ad ns I L G H := hM
  have g2 := hI.get 1000 24 (lo := 0) (hi := 400) rfl
  have g3 := hI.get 1000 25 (lo := 0) (hi := 100000) rfl
  refine lv_i2l hx hb dX10_isDigit_4 rfl ?_
  refine lv_topl (fun v4 ev4 => ?_)
  have tv4 := q_i2l ev4
  refine lv_ldc2 (v := (48)) hx hb hown (hts _ tb_1533) dX10_isDigit_5 ?_
  refine lv_ldc2 (v := (57)) hx hb hown (hts _ tb_1534) dX10_isDigit_8 ?_
  refine m_calli (m_runS (As := [.long (v4), .long ((48 : Int64)), .long ((57 : Int64))]) (rest := []) hx hb hml hown hts hE hM hS hA ce_X10_in tb_1425 (V_X10_in l D A ad ns I L G (v4) ((48 : Int64)) ((57 : Int64)) hI) rfl rfl ⟨Nat.le_of_ble_eq_true rfl, Nat.le_of_ble_eq_true rfl⟩  rfl hl.1 rfl (Nat.le_of_ble_eq_true rfl) dX10_isDigit_11 ⟨Nat.le_of_ble_eq_true rfl, Nat.le_of_ble_eq_true rfl⟩) hS (fun r5 u H locs hw hM hS => ?_)
  obtain ⟨rfl, xr5⟩ := hw
  have hM : Mem D A ad ns I L G H := hM
  have yr5 := bo01 xr5
  exact m_zret hx hb hr (nar01 (by omega) (by omega)).1 hlocks hM hS (Nat.le_of_ble_eq_true rfl) (Nat.le_of_ble_eq_true rfl) ⟨rfl, ⟨by omega, by omega, fun hz => xr1.2.2 (by have hq := bo_or xr5; omega)⟩⟩ dX10_isDigit_14
theorem dX10_fails_0 : decode cX10_fails 0 = .ok (.aload_n 0, 1) := by decide +kernel
theorem dX10_fails_1 : decode cX10_fails 1 = .ok (.aload_n 0, 1) := by decide +kernel
theorem dX10_fails_2 : decode cX10_fails 2 = .ok (.getfield 264, 3) := by decide +kernel
theorem dX10_fails_5 : decode cX10_fails 5 = .ok (.ifCond .ne 14, 3) := by decide +kernel
theorem dX10_fails_8 : decode cX10_fails 8 = .ok (.iconst 1, 1) := by decide +kernel
theorem dX10_fails_9 : decode cX10_fails 9 = .ok (.bipush 8, 2) := by decide +kernel
theorem dX10_fails_11 : decode cX10_fails 11 = .ok (.iload_n 2, 1) := by decide +kernel
theorem dX10_fails_12 : decode cX10_fails 12 = .ok (.imul, 1) := by decide +kernel
theorem dX10_fails_13 : decode cX10_fails 13 = .ok (.iadd, 1) := by decide +kernel
theorem dX10_fails_14 : decode cX10_fails 14 = .ok (.iload_n 1, 1) := by decide +kernel
theorem dX10_fails_15 : decode cX10_fails 15 = .ok (.iadd, 1) := by decide +kernel
theorem dX10_fails_16 : decode cX10_fails 16 = .ok (.goto 7, 3) := by decide +kernel
theorem dX10_fails_19 : decode cX10_fails 19 = .ok (.aload_n 0, 1) := by decide +kernel
theorem dX10_fails_20 : decode cX10_fails 20 = .ok (.getfield 264, 3) := by decide +kernel
theorem dX10_fails_23 : decode cX10_fails 23 = .ok (.putfield 264, 3) := by decide +kernel
theorem dX10_fails_26 : decode cX10_fails 26 = .ok (.return_, 1) := by decide +kernel
theorem ce_X10_fails : CeV RX10 yX10_fails cX10_fails 3 none 2 := ⟨tb_1523, tp_65, tb_11, tb_1524, rfl, by decide, by decide, by decide +kernel⟩
set_option maxHeartbeats 4000000 in
set_option maxRecDepth 20000 in
theorem V_X10_fails (l : Launch) (D : va_G) (A : Nat → Prop) (ad : Nat → Nat) (ns : List Nat) (I : MI) (L : ML) (G : MG) (a0 : Int32) (a1 : Int32) (hJ : SGM ns G) (hI : INV I) (ha0 : 0 ≤ a0.toInt ∧ a0.toInt ≤ 10) (ha1 : 0 ≤ a1.toInt ∧ a1.toInt ≤ 100000) : Met l yX10_fails (wd yX10_fails cX10_fails 3 none) ({ frames := 0, cells := 0, slots := 0, locals := 0 }) (va_Pc [.ref (ad (1000)), .int a0, .int a1] (PM D A ad ns I L G)) (va_Qv (fun u => ∃ I2 L2, u = (ad, ns, I2, L2, G) ∧ INV I2 ∧ Kp [] [(1000, 26)] I I2 ∧ (Imp ((I2 1000 26).toInt = 0) False ∧ Imp ((I 1000 26).toInt = 0) ((I2 1000 26).toInt = 1 + 8 * a1.toInt + a0.toInt) ∧ Imp ((I 1000 26).toInt ≠ 0) ((I2 1000 26).toInt = (I 1000 26).toInt))) (BM D A) A) 0 0 A := by
  refine m_ofW (by decide) (Nat.le_of_ble_eq_true rfl) ?_
  intro p e s m below meth c ls args hC hE hM hA hS hl
  obtain ⟨hx, hb, hml, hown, hts, hr, hlocks, hin⟩ := hC
  have k0 : (0 : Int32).toInt = 0 := by decide
  have k1 : (1 : Int32).toInt = 1 := by decide
  have k8 : (8 : Int32).toInt = 8 := by decide
  have hK : Kp [] [(1000, 26)] I I := Kp.rf
  have hl : lv_has ls 3 [(0, .ref (ad (1000))), (1, .int (a0)), (2, .int (a1))] := hl
  refine lv_aload_n hx hb dX10_fails_0 rfl (lv_at hl 0 rfl) ?_
  refine lv_aload_n hx hb dX10_fails_1 rfl (lv_at hl 0 rfl) ?_
  refine m_geti (1000) 26 hx hb hts hown hE oc10 hM hJ.1 rfl (by decide) rfl tb_1203 dX10_fails_2 ?_
  refine lv_if_ne (tgt := 19) hx hb dX10_fails_5 (by decide) (fun c1 => ?_) (fun c1 => ?_)
  · have hc1 := c1
    have q1 := q_ne hc1
    refine lv_aload_n hx hb dX10_fails_19 rfl (lv_at hl 0 rfl) ?_
    refine m_geti (1000) 26 hx hb hts hown hE oc10 hM hJ.1 rfl (by decide) rfl tb_1203 dX10_fails_20 ?_
    refine m_puti (1000) 26 hx hb hts hown hE oc10 hM hS hJ.1 rfl (by decide) rfl rfl rfl rfl tb_1203 dX10_fails_23 (fun H locs I2 eI2 hM hS => ?_)
    subst eI2
    have hI := hI.putF (n := 1000) (k := 26) (v := I (1000) 26) rfl
    have hK := hK.put (n := 1000) (k := 26) (v := I (1000) 26) (by first | rfl | simp [inR])
    have pw3 : ((u2 I (1000) 26 (I (1000) 26)) (1000) 24).toInt = (I (1000) 24 : Int32).toInt := congrArg Int32.toInt ((show (u2 I (1000) 26 (I (1000) 26)) (1000) 24 = I (1000) 24 from by simp [u2_v]))
    have pw4 : ((u2 I (1000) 26 (I (1000) 26)) (1000) 25).toInt = (I (1000) 25 : Int32).toInt := congrArg Int32.toInt ((show (u2 I (1000) 26 (I (1000) 26)) (1000) 25 = I (1000) 25 from by simp [u2_v]))
    have pw5 : ((u2 I (1000) 26 (I (1000) 26)) (1000) 26).toInt = (I (1000) 26 : Int32).toInt := congrArg Int32.toInt ((show (u2 I (1000) 26 (I (1000) 26)) (1000) 26 = I (1000) 26 from by simp [u2_v]))
    have pw6 : ((u2 I (1000) 26 (I (1000) 26)) (1000) 27).toInt = (I (1000) 27 : Int32).toInt := congrArg Int32.toInt ((show (u2 I (1000) 26 (I (1000) 26)) (1000) 27 = I (1000) 27 from by simp [u2_v]))
    have pw7 : ((u2 I (1000) 26 (I (1000) 26)) (1000) 29).toInt = (I (1000) 29 : Int32).toInt := congrArg Int32.toInt ((show (u2 I (1000) 26 (I (1000) 26)) (1000) 29 = I (1000) 29 from by simp [u2_v]))
    have pw8 : ((u2 I (1000) 26 (I (1000) 26)) (1000) 31).toInt = (I (1000) 31 : Int32).toInt := congrArg Int32.toInt ((show (u2 I (1000) 26 (I (1000) 26)) (1000) 31 = I (1000) 31 from by simp [u2_v]))
    have pw9 : ((u2 I (1000) 26 (I (1000) 26)) (1000) 32).toInt = (I (1000) 32 : Int32).toInt := congrArg Int32.toInt ((show (u2 I (1000) 26 (I (1000) 26)) (1000) 32 = I (1000) 32 from by simp [u2_v]))
    exact m_vret hx hb hr hlocks hM hS (Nat.le_of_ble_eq_true rfl) (Nat.le_of_ble_eq_true rfl) ⟨_, _, rfl, hI, hK, ⟨fun hz => by omega, fun hz => by omega, fun hz => by omega⟩⟩ dX10_fails_26
  · have hc1 := c1
    have q1 := q_eq hc1
    refine lv_iconst (v := (1)) hx hb dX10_fails_8 (by decide) ?_
    refine lv_bipush (v := (8)) hx hb dX10_fails_9 (by decide) ?_
    refine lv_iload_n hx hb dX10_fails_11 rfl (lv_at hl 2 rfl) ?_
    refine lv_imul hx hb dX10_fails_12 ?_
    refine lv_topi (fun v10 ev10 => ?_)
    have tv10 := a_mulL (c := 8) ev10 (by decide) (by omega) (by omega)
    refine lv_iadd hx hb dX10_fails_13 ?_
    refine lv_topi (fun v11 ev11 => ?_)
    have tv11 := a_add ev11 (by omega) (by omega)
    refine lv_iload_n hx hb dX10_fails_14 rfl (lv_at hl 1 rfl) ?_
    refine lv_iadd hx hb dX10_fails_15 ?_
    refine lv_topi (fun v12 ev12 => ?_)
    have tv12 := a_add ev12 (by omega) (by omega)
    refine lv_goto (tgt := 23) hx hb dX10_fails_16 (by decide) ?_
    refine m_puti (1000) 26 hx hb hts hown hE oc10 hM hS hJ.1 rfl (by decide) rfl rfl rfl rfl tb_1203 dX10_fails_23 (fun H locs I13 eI13 hM hS => ?_)
    subst eI13
    have hI := hI.putF (n := 1000) (k := 26) (v := v12) rfl
    have hK := hK.put (n := 1000) (k := 26) (v := v12) (by first | rfl | simp [inR])
    have pw14 : ((u2 I (1000) 26 (v12)) (1000) 24).toInt = (I (1000) 24 : Int32).toInt := congrArg Int32.toInt ((show (u2 I (1000) 26 (v12)) (1000) 24 = I (1000) 24 from by simp [u2_v]))
    have pw15 : ((u2 I (1000) 26 (v12)) (1000) 25).toInt = (I (1000) 25 : Int32).toInt := congrArg Int32.toInt ((show (u2 I (1000) 26 (v12)) (1000) 25 = I (1000) 25 from by simp [u2_v]))
    have pw16 : ((u2 I (1000) 26 (v12)) (1000) 26).toInt = (v12 : Int32).toInt := congrArg Int32.toInt ((show (u2 I (1000) 26 (v12)) (1000) 26 = v12 from by simp [u2_v]))
    have pw17 : ((u2 I (1000) 26 (v12)) (1000) 27).toInt = (I (1000) 27 : Int32).toInt := congrArg Int32.toInt ((show (u2 I (1000) 26 (v12)) (1000) 27 = I (1000) 27 from by simp [u2_v]))
    have pw18 : ((u2 I (1000) 26 (v12)) (1000) 29).toInt = (I (1000) 29 : Int32).toInt := congrArg Int32.toInt ((show (u2 I (1000) 26 (v12)) (1000) 29 = I (1000) 29 from by simp [u2_v]))
    have pw19 : ((u2 I (1000) 26 (v12)) (1000) 31).toInt = (I (1000) 31 : Int32).toInt := congrArg Int32.toInt ((show (u2 I (1000) 26 (v12)) (1000) 31 = I (1000) 31 from by simp [u2_v]))
    have pw20 : ((u2 I (1000) 26 (v12)) (1000) 32).toInt = (I (1000) 32 : Int32).toInt := congrArg Int32.toInt ((show (u2 I (1000) 26 (v12)) (1000) 32 = I (1000) 32 from by simp [u2_v]))
    exact m_vret hx hb hr hlocks hM hS (Nat.le_of_ble_eq_true rfl) (Nat.le_of_ble_eq_true rfl) ⟨_, _, rfl, hI, hK, ⟨fun hz => by omega, fun hz => by omega, fun hz => by omega⟩⟩ dX10_fails_26
theorem dX10_isCounted_0 : decode cX10_isCounted 0 = .ok (.aload_n 0, 1) := by decide +kernel
theorem dX10_isCounted_1 : decode cX10_isCounted 1 = .ok (.getfield 300, 3) := by decide +kernel
theorem dX10_isCounted_4 : decode cX10_isCounted 4 = .ok (.bipush 60, 2) := by decide +kernel
theorem dX10_isCounted_6 : decode cX10_isCounted 6 = .ok (.if_icmp .ne 9, 3) := by decide +kernel
theorem dX10_isCounted_9 : decode cX10_isCounted 9 = .ok (.aload_n 0, 1) := by decide +kernel
theorem dX10_isCounted_10 : decode cX10_isCounted 10 = .ok (.iconst 3, 1) := by decide +kernel
theorem dX10_isCounted_11 : decode cX10_isCounted 11 = .ok (.iload_n 1, 1) := by decide +kernel
theorem dX10_isCounted_12 : decode cX10_isCounted 12 = .ok (.invokevirtual 303, 3) := by decide +kernel
theorem dX10_isCounted_15 : decode cX10_isCounted 15 = .ok (.aload_n 0, 1) := by decide +kernel
theorem dX10_isCounted_16 : decode cX10_isCounted 16 = .ok (.dup, 1) := by decide +kernel
theorem dX10_isCounted_17 : decode cX10_isCounted 17 = .ok (.getfield 300, 3) := by decide +kernel
theorem dX10_isCounted_20 : decode cX10_isCounted 20 = .ok (.iconst 1, 1) := by decide +kernel
theorem dX10_isCounted_21 : decode cX10_isCounted 21 = .ok (.iadd, 1) := by decide +kernel
theorem dX10_isCounted_22 : decode cX10_isCounted 22 = .ok (.putfield 300, 3) := by decide +kernel
theorem dX10_isCounted_25 : decode cX10_isCounted 25 = .ok (.return_, 1) := by decide +kernel
theorem ce_X10_isCounted : CeV RX10 yX10_isCounted cX10_isCounted 2 none 1 := ⟨tb_1550, tp_71, tb_11, tb_1551, rfl, by decide, by decide, by decide +kernel⟩
set_option maxHeartbeats 4000000 in
set_option maxRecDepth 20000 in
theorem V_X10_isCounted (l : Launch) (D : va_G) (A : Nat → Prop) (ad : Nat → Nat) (ns : List Nat) (I : MI) (L : ML) (G : MG) (a0 : Int32) (hJ : SGM ns G) (hI : INV I) (hc : Imp ((I 1000 26).toInt = 0) (0 ≤ (I 1000 31).toInt ∧ (I 1000 31).toInt ≤ 60)) (ha0 : 0 ≤ a0.toInt ∧ a0.toInt ≤ 100000) : Met l yX10_isCounted (wd yX10_isCounted cX10_isCounted 2 none) ({ frames := 1, cells := 0, slots := 0, locals := 22 }) (va_Pc [.ref (ad (1000)), .int a0] (PM D A ad ns I L G)) (va_Qv (fun u => ∃ I2 L2, u = (ad, ns, I2, L2, G) ∧ INV I2 ∧ Kp [] [(1000, 26), (1000, 31)] I I2 ∧ (Imp ((I2 1000 26).toInt = 0) ((I 1000 26).toInt = 0 ∧ 0 ≤ (I 1000 31).toInt ∧ (I 1000 31).toInt ≤ 59 ∧ (I2 1000 31).toInt = (I 1000 31).toInt + 1))) (BM D A) A) 0 0 A := by
  refine m_ofW (by decide) (Nat.le_of_ble_eq_true rfl) ?_
  intro p e s m below meth c ls args hC hE hM hA hS hl
  obtain ⟨hx, hb, hml, hown, hts, hr, hlocks, hin⟩ := hC
  have k0 : (0 : Int32).toInt = 0 := by decide
  have k1 : (1 : Int32).toInt = 1 := by decide
  have k3 : (3 : Int32).toInt = 3 := by decide
  have k60 : (60 : Int32).toInt = 60 := by decide
  have hK : Kp [] [(1000, 26), (1000, 31)] I I := Kp.rf
  have hl : lv_has ls 2 [(0, .ref (ad (1000))), (1, .int (a0))] := hl
  refine lv_aload_n hx hb dX10_isCounted_0 rfl (lv_at hl 0 rfl) ?_
  refine m_geti (1000) 31 hx hb hts hown hE oc10 hM hJ.1 rfl (by decide) rfl tb_1208 dX10_isCounted_1 ?_
  refine lv_bipush (v := (60)) hx hb dX10_isCounted_4 (by decide) ?_
  refine lv_icmp_ne (tgt := 15) hx hb dX10_isCounted_6 (by decide) (fun c1 => ?_) (fun c1 => ?_)
  · have hc1 := c1
    have q1 := q_ne hc1
    refine lv_aload_n hx hb dX10_isCounted_15 rfl (lv_at hl 0 rfl) ?_
    refine lv_dup hx hb dX10_isCounted_16 rfl ?_
    refine m_geti (1000) 31 hx hb hts hown hE oc10 hM hJ.1 rfl (by decide) rfl tb_1208 dX10_isCounted_17 ?_
    refine lv_iconst (v := (1)) hx hb dX10_isCounted_20 (by decide) ?_
    refine lv_iadd hx hb dX10_isCounted_21 ?_
    refine lv_topi (fun v2 ev2 => ?_)
    have tv2 : Imp (-1 ≤ (I (1000) 31).toInt ∧ (I (1000) 31).toInt ≤ 60) ((v2).toInt = (I (1000) 31).toInt + 1) := fun hz => a_add ev2 (by omega) (by omega)
    refine m_puti (1000) 31 hx hb hts hown hE oc10 hM hS hJ.1 rfl (by decide) rfl rfl rfl rfl tb_1208 dX10_isCounted_22 (fun H locs I3 eI3 hM hS => ?_)
    subst eI3
    have hI := hI.putF (n := 1000) (k := 31) (v := v2) rfl
    have hK := hK.put (n := 1000) (k := 31) (v := v2) (by first | rfl | simp [inR])
    have pw4 : ((u2 I (1000) 31 (v2)) (1000) 24).toInt = (I (1000) 24 : Int32).toInt := congrArg Int32.toInt ((show (u2 I (1000) 31 (v2)) (1000) 24 = I (1000) 24 from by simp [u2_v]))
    have pw5 : ((u2 I (1000) 31 (v2)) (1000) 25).toInt = (I (1000) 25 : Int32).toInt := congrArg Int32.toInt ((show (u2 I (1000) 31 (v2)) (1000) 25 = I (1000) 25 from by simp [u2_v]))
    have pw6 : ((u2 I (1000) 31 (v2)) (1000) 26).toInt = (I (1000) 26 : Int32).toInt := congrArg Int32.toInt ((show (u2 I (1000) 31 (v2)) (1000) 26 = I (1000) 26 from by simp [u2_v]))
    have pw7 : ((u2 I (1000) 31 (v2)) (1000) 27).toInt = (I (1000) 27 : Int32).toInt := congrArg Int32.toInt ((show (u2 I (1000) 31 (v2)) (1000) 27 = I (1000) 27 from by simp [u2_v]))
    have pw8 : ((u2 I (1000) 31 (v2)) (1000) 29).toInt = (I (1000) 29 : Int32).toInt := congrArg Int32.toInt ((show (u2 I (1000) 31 (v2)) (1000) 29 = I (1000) 29 from by simp [u2_v]))
    have pw9 : ((u2 I (1000) 31 (v2)) (1000) 31).toInt = (v2 : Int32).toInt := congrArg Int32.toInt ((show (u2 I (1000) 31 (v2)) (1000) 31 = v2 from by simp [u2_v]))
    have pw10 : ((u2 I (1000) 31 (v2)) (1000) 32).toInt = (I (1000) 32 : Int32).toInt := congrArg Int32.toInt ((show (u2 I (1000) 31 (v2)) (1000) 32 = I (1000) 32 from by simp [u2_v]))
    exact m_vret hx hb hr hlocks hM hS (Nat.le_of_ble_eq_true rfl) (Nat.le_of_ble_eq_true rfl) ⟨_, _, rfl, hI, hK, (fun hz => by have w0 := hc (by omega); have wt := tv2 (by omega); omega)⟩ dX10_isCounted_25
  · have hc1 := c1
    have q1 := q_eq hc1
    refine lv_aload_n hx hb dX10_isCounted_9 rfl (lv_at hl 0 rfl) ?_
    refine lv_iconst (v := (3)) hx hb dX10_isCounted_10 (by decide) ?_
    refine lv_iload_n hx hb dX10_isCounted_11 rfl (lv_at hl 1 rfl) ?_
    refine m_callv (m_runV (1000) (As := [.int (3), .int (a0)]) (rest := []) hx hb hml hown hts hE hM hS hA ce_X10_fails tb_1521 (V_X10_fails l D A ad ns I L G (3) (a0) hJ hI (by first | omega | decide) (by first | omega | decide)) rfl rfl ⟨Nat.le_of_ble_eq_true rfl, Nat.le_of_ble_eq_true rfl⟩ hJ.1 rfl rfl (by decide) rfl hl.1 rfl (Nat.le_of_ble_eq_true rfl) dX10_isCounted_12 ⟨Nat.le_of_ble_eq_true rfl, Nat.le_of_ble_eq_true rfl⟩) hS (fun u H locs hw hM hS => ?_)
    obtain ⟨I11, L12, rfl, hI, hkI11, xI11⟩ := hw
    have hM : Mem D A ad ns I11 L12 G H := hM
    have hK := hK.trans hkI11 rfl
    have pw13 : (I11 (1000) 24).toInt = (I (1000) 24 : Int32).toInt := congrArg Int32.toInt ((hkI11.get (1000) 24 rfl))
    have pw14 : (I11 (1000) 25).toInt = (I (1000) 25 : Int32).toInt := congrArg Int32.toInt ((hkI11.get (1000) 25 rfl))
    have pw15 : (I11 (1000) 27).toInt = (I (1000) 27 : Int32).toInt := congrArg Int32.toInt ((hkI11.get (1000) 27 rfl))
    have pw16 : (I11 (1000) 29).toInt = (I (1000) 29 : Int32).toInt := congrArg Int32.toInt ((hkI11.get (1000) 29 rfl))
    have pw17 : (I11 (1000) 31).toInt = (I (1000) 31 : Int32).toInt := congrArg Int32.toInt ((hkI11.get (1000) 31 rfl))
    have pw18 : (I11 (1000) 32).toInt = (I (1000) 32 : Int32).toInt := congrArg Int32.toInt ((hkI11.get (1000) 32 rfl))
    refine lv_aload_n hx hb dX10_isCounted_15 rfl (lv_at hl 0 rfl) ?_
    refine lv_dup hx hb dX10_isCounted_16 rfl ?_
    refine m_geti (1000) 31 hx hb hts hown hE oc10 hM hJ.1 rfl (by decide) rfl tb_1208 dX10_isCounted_17 ?_
    have z19 : I11 (1000) 31 = I (1000) 31 := (hkI11.get (1000) 31 rfl)
    rw [z19]
    refine lv_iconst (v := (1)) hx hb dX10_isCounted_20 (by decide) ?_
    refine lv_iadd hx hb dX10_isCounted_21 ?_
    refine lv_topi (fun v20 ev20 => ?_)
    have tv20 : Imp (-1 ≤ (I (1000) 31).toInt ∧ (I (1000) 31).toInt ≤ 60) ((v20).toInt = (I (1000) 31).toInt + 1) := fun hz => a_add ev20 (by omega) (by omega)
    refine m_puti (1000) 31 hx hb hts hown hE oc10 hM hS hJ.1 rfl (by decide) rfl rfl rfl rfl tb_1208 dX10_isCounted_22 (fun H locs I21 eI21 hM hS => ?_)
    subst eI21
    have hI := hI.putF (n := 1000) (k := 31) (v := v20) rfl
    have hK := hK.put (n := 1000) (k := 31) (v := v20) (by first | rfl | simp [inR])
    have pw22 : ((u2 I11 (1000) 31 (v20)) (1000) 24).toInt = (I (1000) 24 : Int32).toInt := congrArg Int32.toInt (((show (u2 I11 (1000) 31 (v20)) (1000) 24 = I11 (1000) 24 from by simp [u2_v])).trans (hkI11.get (1000) 24 rfl))
    have pw23 : ((u2 I11 (1000) 31 (v20)) (1000) 25).toInt = (I (1000) 25 : Int32).toInt := congrArg Int32.toInt (((show (u2 I11 (1000) 31 (v20)) (1000) 25 = I11 (1000) 25 from by simp [u2_v])).trans (hkI11.get (1000) 25 rfl))
    have pw24 : ((u2 I11 (1000) 31 (v20)) (1000) 26).toInt = (I11 (1000) 26 : Int32).toInt := congrArg Int32.toInt ((show (u2 I11 (1000) 31 (v20)) (1000) 26 = I11 (1000) 26 from by simp [u2_v]))
    have pw25 : ((u2 I11 (1000) 31 (v20)) (1000) 27).toInt = (I (1000) 27 : Int32).toInt := congrArg Int32.toInt (((show (u2 I11 (1000) 31 (v20)) (1000) 27 = I11 (1000) 27 from by simp [u2_v])).trans (hkI11.get (1000) 27 rfl))
    have pw26 : ((u2 I11 (1000) 31 (v20)) (1000) 29).toInt = (I (1000) 29 : Int32).toInt := congrArg Int32.toInt (((show (u2 I11 (1000) 31 (v20)) (1000) 29 = I11 (1000) 29 from by simp [u2_v])).trans (hkI11.get (1000) 29 rfl))
    have pw27 : ((u2 I11 (1000) 31 (v20)) (1000) 31).toInt = (v20 : Int32).toInt := congrArg Int32.toInt ((show (u2 I11 (1000) 31 (v20)) (1000) 31 = v20 from by simp [u2_v]))
    have pw28 : ((u2 I11 (1000) 31 (v20)) (1000) 32).toInt = (I (1000) 32 : Int32).toInt := congrArg Int32.toInt (((show (u2 I11 (1000) 31 (v20)) (1000) 32 = I11 (1000) 32 from by simp [u2_v])).trans (hkI11.get (1000) 32 rfl))
    exact m_vret hx hb hr hlocks hM hS (Nat.le_of_ble_eq_true rfl) (Nat.le_of_ble_eq_true rfl) ⟨_, _, rfl, hI, hK, (fun hz => by have w0 := xI11.1 (by omega); exact w0.elim)⟩ dX10_isCounted_25
theorem dX10_digits_0 : decode cX10_digits 0 = .ok (.aload_n 0, 1) := by decide +kernel
theorem dX10_digits_1 : decode cX10_digits 1 = .ok (.invokevirtual 307, 3) := by decide +kernel
theorem dX10_digits_4 : decode cX10_digits 4 = .ok (.ifCond .ne 14, 3) := by decide +kernel
theorem dX10_digits_7 : decode cX10_digits 7 = .ok (.aload_n 0, 1) := by decide +kernel
theorem dX10_digits_8 : decode cX10_digits 8 = .ok (.iconst 0, 1) := by decide +kernel
theorem dX10_digits_9 : decode cX10_digits 9 = .ok (.aload_n 0, 1) := by decide +kernel
theorem dX10_digits_10 : decode cX10_digits 10 = .ok (.getfield 267, 3) := by decide +kernel
theorem dX10_digits_13 : decode cX10_digits 13 = .ok (.invokevirtual 303, 3) := by decide +kernel
theorem dX10_digits_16 : decode cX10_digits 16 = .ok (.iconst 0, 1) := by decide +kernel
theorem dX10_digits_17 : decode cX10_digits 17 = .ok (.ireturn, 1) := by decide +kernel
theorem dX10_digits_18 : decode cX10_digits 18 = .ok (.aload_n 0, 1) := by decide +kernel
theorem dX10_digits_19 : decode cX10_digits 19 = .ok (.getfield 267, 3) := by decide +kernel
theorem dX10_digits_22 : decode cX10_digits 22 = .ok (.istore_n 2, 1) := by decide +kernel
theorem dX10_digits_23 : decode cX10_digits 23 = .ok (.iconst 0, 1) := by decide +kernel
theorem dX10_digits_24 : decode cX10_digits 24 = .ok (.istore_n 3, 1) := by decide +kernel
theorem dX10_digits_25 : decode cX10_digits 25 = .ok (.aload_n 0, 1) := by decide +kernel
theorem dX10_digits_26 : decode cX10_digits 26 = .ok (.invokevirtual 307, 3) := by decide +kernel
theorem dX10_digits_29 : decode cX10_digits 29 = .ok (.ifCond .eq 43, 3) := by decide +kernel
theorem dX10_digits_32 : decode cX10_digits 32 = .ok (.aload_n 0, 1) := by decide +kernel
theorem dX10_digits_33 : decode cX10_digits 33 = .ok (.getfield 267, 3) := by decide +kernel
theorem dX10_digits_36 : decode cX10_digits 36 = .ok (.iload_n 2, 1) := by decide +kernel
theorem dX10_digits_37 : decode cX10_digits 37 = .ok (.isub, 1) := by decide +kernel
theorem dX10_digits_38 : decode cX10_digits 38 = .ok (.iconst 5, 1) := by decide +kernel
theorem dX10_digits_39 : decode cX10_digits 39 = .ok (.if_icmp .ge 18, 3) := by decide +kernel
theorem dX10_digits_42 : decode cX10_digits 42 = .ok (.bipush 10, 2) := by decide +kernel
theorem dX10_digits_44 : decode cX10_digits 44 = .ok (.iload_n 3, 1) := by decide +kernel
theorem dX10_digits_45 : decode cX10_digits 45 = .ok (.imul, 1) := by decide +kernel
theorem dX10_digits_46 : decode cX10_digits 46 = .ok (.aload_n 0, 1) := by decide +kernel
theorem dX10_digits_47 : decode cX10_digits 47 = .ok (.invokevirtual 270, 3) := by decide +kernel
theorem dX10_digits_50 : decode cX10_digits 50 = .ok (.iadd, 1) := by decide +kernel
theorem dX10_digits_51 : decode cX10_digits 51 = .ok (.bipush 48, 2) := by decide +kernel
theorem dX10_digits_53 : decode cX10_digits 53 = .ok (.isub, 1) := by decide +kernel
theorem dX10_digits_54 : decode cX10_digits 54 = .ok (.goto 4, 3) := by decide +kernel
theorem dX10_digits_57 : decode cX10_digits 57 = .ok (.iload_n 3, 1) := by decide +kernel
theorem dX10_digits_58 : decode cX10_digits 58 = .ok (.istore_n 3, 1) := by decide +kernel
theorem dX10_digits_59 : decode cX10_digits 59 = .ok (.aload_n 0, 1) := by decide +kernel
theorem dX10_digits_60 : decode cX10_digits 60 = .ok (.dup, 1) := by decide +kernel
theorem dX10_digits_61 : decode cX10_digits 61 = .ok (.getfield 267, 3) := by decide +kernel
theorem dX10_digits_64 : decode cX10_digits 64 = .ok (.iconst 1, 1) := by decide +kernel
theorem dX10_digits_65 : decode cX10_digits 65 = .ok (.iadd, 1) := by decide +kernel
theorem dX10_digits_66 : decode cX10_digits 66 = .ok (.putfield 267, 3) := by decide +kernel
theorem dX10_digits_69 : decode cX10_digits 69 = .ok (.goto (-44), 3) := by decide +kernel
theorem dX10_digits_72 : decode cX10_digits 72 = .ok (.aload_n 0, 1) := by decide +kernel
theorem dX10_digits_73 : decode cX10_digits 73 = .ok (.getfield 267, 3) := by decide +kernel
theorem dX10_digits_76 : decode cX10_digits 76 = .ok (.iload_n 2, 1) := by decide +kernel
theorem dX10_digits_77 : decode cX10_digits 77 = .ok (.isub, 1) := by decide +kernel
theorem dX10_digits_78 : decode cX10_digits 78 = .ok (.iconst 5, 1) := by decide +kernel
theorem dX10_digits_79 : decode cX10_digits 79 = .ok (.if_icmp .gt 8, 3) := by decide +kernel
theorem dX10_digits_82 : decode cX10_digits 82 = .ok (.iload_n 3, 1) := by decide +kernel
theorem dX10_digits_83 : decode cX10_digits 83 = .ok (.iload_n 1, 1) := by decide +kernel
theorem dX10_digits_84 : decode cX10_digits 84 = .ok (.if_icmp .le 9, 3) := by decide +kernel
theorem dX10_digits_87 : decode cX10_digits 87 = .ok (.aload_n 0, 1) := by decide +kernel
theorem dX10_digits_88 : decode cX10_digits 88 = .ok (.iconst 1, 1) := by decide +kernel
theorem dX10_digits_89 : decode cX10_digits 89 = .ok (.iload_n 2, 1) := by decide +kernel
theorem dX10_digits_90 : decode cX10_digits 90 = .ok (.invokevirtual 303, 3) := by decide +kernel
theorem dX10_digits_93 : decode cX10_digits 93 = .ok (.iload_n 3, 1) := by decide +kernel
theorem dX10_digits_94 : decode cX10_digits 94 = .ok (.ireturn, 1) := by decide +kernel
theorem ce_X10_digits : CeV RX10 yX10_digits cX10_digits 4 (some .int) 1 := ⟨tb_1527, tp_66, tb_11, tb_1528, rfl, by decide, by decide, by decide +kernel⟩
set_option maxHeartbeats 4000000 in
set_option maxRecDepth 20000 in
theorem V_X10_digits (l : Launch) (D : va_G) (A : Nat → Prop) (ad : Nat → Nat) (ns : List Nat) (I : MI) (L : ML) (G : MG) (a0 : Int32) (hJ : SGM ns G) (hI : INV I) (hp : (I 1000 25).toInt ≤ 400) : Met l yX10_digits (wd yX10_digits cX10_digits 4 (some .int)) ({ frames := 2, cells := 0, slots := 0, locals := 45 }) (va_Pc [.ref (ad (1000)), .int a0] (PM D A ad ns I L G)) (va_Qi (fun r u => ∃ I2 L2, u = (ad, ns, I2, L2, G) ∧ INV I2 ∧ Kp [] [(1000, 25), (1000, 26)] I I2 ∧ ((I 1000 25).toInt ≤ (I2 1000 25).toInt ∧ (I2 1000 25).toInt ≤ 400 ∧ Imp ((I2 1000 26).toInt = 0) ((I 1000 26).toInt = 0))) (BM D A) A) 0 0 A := by
  refine m_ofW (by decide) (Nat.le_of_ble_eq_true rfl) ?_
  intro p e s m below meth c ls args hC hE hM hA hS hl
  obtain ⟨hx, hb, hml, hown, hts, hr, hlocks, hin⟩ := hC
  have k0 : (0 : Int32).toInt = 0 := by decide
  have k1 : (1 : Int32).toInt = 1 := by decide
  have k5 : (5 : Int32).toInt = 5 := by decide
  have k10 : (10 : Int32).toInt = 10 := by decide
  have k48 : (48 : Int32).toInt = 48 := by decide
  have hK : Kp [] [(1000, 25), (1000, 26)] I I := Kp.rf
  have hl : lv_has ls 4 [(0, .ref (ad (1000))), (1, .int (a0))] := hl
  refine lv_aload_n hx hb dX10_digits_0 rfl (lv_at hl 0 rfl) ?_
  refine m_calli (m_runV (1000) (As := []) (rest := []) hx hb hml hown hts hE hM hS hA ce_X10_isDigit tb_1529 (V_X10_isDigit l D A ad ns I L G hJ hI) rfl rfl ⟨Nat.le_of_ble_eq_true rfl, Nat.le_of_ble_eq_true rfl⟩ hJ.1 rfl rfl (by decide) rfl hl.1 rfl (Nat.le_of_ble_eq_true rfl) dX10_digits_1 ⟨Nat.le_of_ble_eq_true rfl, Nat.le_of_ble_eq_true rfl⟩) hS (fun r1 u H locs hw hM hS => ?_)
  obtain ⟨rfl, xr1⟩ := hw
  have hM : Mem D A ad ns I L G H := hM
  have g2 := hI.get 1000 24 (lo := 0) (hi := 400) rfl
  have g3 := hI.get 1000 25 (lo := 0) (hi := 100000) rfl
  refine lv_if_ne (tgt := 18) hx hb dX10_digits_4 (by decide) (fun c4 => ?_) (fun c4 => ?_)
  · have hc4 := c4
    have q4 := q_ne hc4
    have sg5 := xr1.2.2 (by omega)
    refine lv_aload_n hx hb dX10_digits_18 rfl (lv_at hl 0 rfl) ?_
    refine m_geti (1000) 25 hx hb hts hown hE oc10 hM hJ.1 rfl (by decide) rfl tb_1202 dX10_digits_19 ?_
    have g6 := hI.get (1000) 25 (lo := 0) (hi := 100000) rfl
    refine lv_istore_n (lv' := [(2, .int (I (1000) 25)), (0, .ref (ad (1000))), (1, .int (a0))]) hx hb dX10_digits_22 rfl hl (by decide) rfl (fun ls hl => ?_)
    refine lv_iconst (v := (0)) hx hb dX10_digits_23 (by decide) ?_
    refine lv_istore_n (lv' := [(3, .int (0)), (2, .int (I (1000) 25)), (0, .ref (ad (1000))), (1, .int (a0))]) hx hb dX10_digits_24 rfl hl (by decide) rfl (fun ls hl => ?_)
    have loop25 : ∀ (n : Nat) (x3_25 : Int32) (Ia25 : MI) (La25 : ML) (H : Heap) (locs : List Loc) (ls : Array Slot), INV Ia25 → Kp [] [(1000, 25), (1000, 26)] I Ia25 → ((I 1000 25).toInt ≤ (Ia25 1000 25).toInt ∧ (Ia25 1000 25).toInt ≤ 400 ∧ (Ia25 1000 26).toInt = (I 1000 26).toInt) → (400 - (Ia25 1000 25).toInt).toNat < n → Mem D A ad ns Ia25 La25 G H → va_S A s.heap H locs → lv_has ls 4 [(3, .int (x3_25)), (2, .int (I (1000) 25)), (0, .ref (ad (1000))), (1, .int (a0))] → W p l e ({ frames := 2, cells := 0, slots := 0, locals := 45 } : Room) s m args below meth c H locs 0 0 (MQ below (va_Qi (fun r u => ∃ I2 L2, u = (ad, ns, I2, L2, G) ∧ INV I2 ∧ Kp [] [(1000, 25), (1000, 26)] I I2 ∧ ((I 1000 25).toInt ≤ (I2 1000 25).toInt ∧ (I2 1000 25).toInt ≤ 400 ∧ Imp ((I2 1000 26).toInt = 0) ((I 1000 26).toInt = 0))) (BM D A) A) args s 0 0 A) (F0 m 25 ls []) := by
      intro n
      induction n with
      | zero =>
        intro x3_25 Ia25 La25 H locs ls hI hK hpg hmu
        exact absurd hmu (Nat.not_lt_zero _)
      | succ n ih25 =>
        intro x3_25 Ia25 La25 H locs ls hI hK hpg hmu25 hM hS hl
        refine lv_aload_n hx hb dX10_digits_25 rfl (lv_at hl 2 rfl) ?_
        refine m_calli (m_runV (1000) (As := []) (rest := []) hx hb hml hown hts hE hM hS hA ce_X10_isDigit tb_1529 (V_X10_isDigit l D A ad ns Ia25 La25 G hJ hI) rfl rfl ⟨Nat.le_of_ble_eq_true rfl, Nat.le_of_ble_eq_true rfl⟩ hJ.1 rfl rfl (by decide) rfl hl.1 rfl (Nat.le_of_ble_eq_true rfl) dX10_digits_26 ⟨Nat.le_of_ble_eq_true rfl, Nat.le_of_ble_eq_true rfl⟩) hS (fun r7 u H locs hw hM hS => ?_)
        obtain ⟨rfl, xr7⟩ := hw
        have hM : Mem D A ad ns Ia25 La25 G H := hM
        have g8 := hI.get 1000 24 (lo := 0) (hi := 400) rfl
        have g9 := hI.get 1000 25 (lo := 0) (hi := 100000) rfl
        refine lv_if_eq (tgt := 72) hx hb dX10_digits_29 (by decide) (fun c10 => ?_) (fun c10 => ?_)
        · have hc10 := c10
          have q10 := q_eq hc10
          refine lv_aload_n hx hb dX10_digits_72 rfl (lv_at hl 2 rfl) ?_
          refine m_geti (1000) 25 hx hb hts hown hE oc10 hM hJ.1 rfl (by decide) rfl tb_1202 dX10_digits_73 ?_
          have g11 := hI.get (1000) 25 (lo := 0) (hi := 100000) rfl
          refine lv_iload_n hx hb dX10_digits_76 rfl (lv_at hl 1 rfl) ?_
          refine lv_isub hx hb dX10_digits_77 ?_
          refine lv_topi (fun v12 ev12 => ?_)
          have tv12 := a_sub ev12 (by omega) (by omega)
          refine lv_iconst (v := (5)) hx hb dX10_digits_78 (by decide) ?_
          refine lv_icmp_gt (tgt := 87) hx hb dX10_digits_79 (by decide) (fun c13 => ?_) (fun c13 => ?_)
          · have hc13 := c13
            have q13 := q_lt hc13
            refine lv_aload_n hx hb dX10_digits_87 rfl (lv_at hl 2 rfl) ?_
            refine lv_iconst (v := (1)) hx hb dX10_digits_88 (by decide) ?_
            refine lv_iload_n hx hb dX10_digits_89 rfl (lv_at hl 1 rfl) ?_
            refine m_callv (m_runV (1000) (As := [.int (1), .int (I (1000) 25)]) (rest := []) hx hb hml hown hts hE hM hS hA ce_X10_fails tb_1521 (V_X10_fails l D A ad ns Ia25 La25 G (1) (I (1000) 25) hJ hI (by first | omega | decide) (by first | omega | decide)) rfl rfl ⟨Nat.le_of_ble_eq_true rfl, Nat.le_of_ble_eq_true rfl⟩ hJ.1 rfl rfl (by decide) rfl hl.1 rfl (Nat.le_of_ble_eq_true rfl) dX10_digits_90 ⟨Nat.le_of_ble_eq_true rfl, Nat.le_of_ble_eq_true rfl⟩) hS (fun u H locs hw hM hS => ?_)
            obtain ⟨I14, L15, rfl, hI, hkI14, xI14⟩ := hw
            have hM : Mem D A ad ns I14 L15 G H := hM
            have hK := hK.trans hkI14 rfl
            have pw16 : (I14 (1000) 24).toInt = (Ia25 (1000) 24 : Int32).toInt := congrArg Int32.toInt ((hkI14.get (1000) 24 rfl))
            have pw17 : (I14 (1000) 25).toInt = (Ia25 (1000) 25 : Int32).toInt := congrArg Int32.toInt ((hkI14.get (1000) 25 rfl))
            have pw18 : (I14 (1000) 27).toInt = (Ia25 (1000) 27 : Int32).toInt := congrArg Int32.toInt ((hkI14.get (1000) 27 rfl))
            have pw19 : (I14 (1000) 29).toInt = (Ia25 (1000) 29 : Int32).toInt := congrArg Int32.toInt ((hkI14.get (1000) 29 rfl))
            have pw20 : (I14 (1000) 31).toInt = (Ia25 (1000) 31 : Int32).toInt := congrArg Int32.toInt ((hkI14.get (1000) 31 rfl))
            have pw21 : (I14 (1000) 32).toInt = (Ia25 (1000) 32 : Int32).toInt := congrArg Int32.toInt ((hkI14.get (1000) 32 rfl))
            refine lv_iload_n hx hb dX10_digits_93 rfl (lv_at hl 0 rfl) ?_
            exact m_iret hx hb hr hlocks hM hS (Nat.le_of_ble_eq_true rfl) (Nat.le_of_ble_eq_true rfl) ⟨_, _, rfl, hI, hK, ⟨by omega, by omega, (fun hz => by have w0 := xI14.1 (by omega); exact w0.elim)⟩⟩ dX10_digits_94
          · have hc13 := c13
            have q13 := q_nlt hc13
            refine lv_iload_n hx hb dX10_digits_82 rfl (lv_at hl 0 rfl) ?_
            refine lv_iload_n hx hb dX10_digits_83 rfl (lv_at hl 3 rfl) ?_
            refine lv_icmp_le (tgt := 93) hx hb dX10_digits_84 (by decide) (fun c22 => ?_) (fun c22 => ?_)
            · have hc22 := c22
              have q22 := q_le hc22
              refine lv_iload_n hx hb dX10_digits_93 rfl (lv_at hl 0 rfl) ?_
              exact m_iret hx hb hr hlocks hM hS (Nat.le_of_ble_eq_true rfl) (Nat.le_of_ble_eq_true rfl) ⟨_, _, rfl, hI, hK, ⟨by omega, by omega, (fun hz => by omega)⟩⟩ dX10_digits_94
            · have hc22 := c22
              have q22 := q_nle hc22
              refine lv_aload_n hx hb dX10_digits_87 rfl (lv_at hl 2 rfl) ?_
              refine lv_iconst (v := (1)) hx hb dX10_digits_88 (by decide) ?_
              refine lv_iload_n hx hb dX10_digits_89 rfl (lv_at hl 1 rfl) ?_
              refine m_callv (m_runV (1000) (As := [.int (1), .int (I (1000) 25)]) (rest := []) hx hb hml hown hts hE hM hS hA ce_X10_fails tb_1521 (V_X10_fails l D A ad ns Ia25 La25 G (1) (I (1000) 25) hJ hI (by first | omega | decide) (by first | omega | decide)) rfl rfl ⟨Nat.le_of_ble_eq_true rfl, Nat.le_of_ble_eq_true rfl⟩ hJ.1 rfl rfl (by decide) rfl hl.1 rfl (Nat.le_of_ble_eq_true rfl) dX10_digits_90 ⟨Nat.le_of_ble_eq_true rfl, Nat.le_of_ble_eq_true rfl⟩) hS (fun u H locs hw hM hS => ?_)
              obtain ⟨I23, L24, rfl, hI, hkI23, xI23⟩ := hw
              have hM : Mem D A ad ns I23 L24 G H := hM
              have hK := hK.trans hkI23 rfl
              have pw25 : (I23 (1000) 24).toInt = (Ia25 (1000) 24 : Int32).toInt := congrArg Int32.toInt ((hkI23.get (1000) 24 rfl))
              have pw26 : (I23 (1000) 25).toInt = (Ia25 (1000) 25 : Int32).toInt := congrArg Int32.toInt ((hkI23.get (1000) 25 rfl))
              have pw27 : (I23 (1000) 27).toInt = (Ia25 (1000) 27 : Int32).toInt := congrArg Int32.toInt ((hkI23.get (1000) 27 rfl))
              have pw28 : (I23 (1000) 29).toInt = (Ia25 (1000) 29 : Int32).toInt := congrArg Int32.toInt ((hkI23.get (1000) 29 rfl))
              have pw29 : (I23 (1000) 31).toInt = (Ia25 (1000) 31 : Int32).toInt := congrArg Int32.toInt ((hkI23.get (1000) 31 rfl))
              have pw30 : (I23 (1000) 32).toInt = (Ia25 (1000) 32 : Int32).toInt := congrArg Int32.toInt ((hkI23.get (1000) 32 rfl))
              refine lv_iload_n hx hb dX10_digits_93 rfl (lv_at hl 0 rfl) ?_
              exact m_iret hx hb hr hlocks hM hS (Nat.le_of_ble_eq_true rfl) (Nat.le_of_ble_eq_true rfl) ⟨_, _, rfl, hI, hK, ⟨by omega, by omega, (fun hz => by have w0 := xI23.1 (by omega); exact w0.elim)⟩⟩ dX10_digits_94
        · have hc10 := c10
          have q10 := q_ne hc10
          have sg31 := xr7.2.2 (by omega)
          refine lv_aload_n hx hb dX10_digits_32 rfl (lv_at hl 2 rfl) ?_
          refine m_geti (1000) 25 hx hb hts hown hE oc10 hM hJ.1 rfl (by decide) rfl tb_1202 dX10_digits_33 ?_
          have g32 := hI.get (1000) 25 (lo := 0) (hi := 100000) rfl
          refine lv_iload_n hx hb dX10_digits_36 rfl (lv_at hl 1 rfl) ?_
          refine lv_isub hx hb dX10_digits_37 ?_
          refine lv_topi (fun v33 ev33 => ?_)
          have tv33 := a_sub ev33 (by omega) (by omega)
          refine lv_iconst (v := (5)) hx hb dX10_digits_38 (by decide) ?_
          refine lv_icmp_ge (tgt := 57) hx hb dX10_digits_39 (by decide) (fun c34 => ?_) (fun c34 => ?_)
          · have hc34 := c34
            have q34 := q_le hc34
            refine lv_iload_n hx hb dX10_digits_57 rfl (lv_at hl 0 rfl) ?_
            refine lv_istore_n (lv' := [(3, .int (x3_25)), (2, .int (I (1000) 25)), (0, .ref (ad (1000))), (1, .int (a0))]) hx hb dX10_digits_58 rfl hl (by decide) rfl (fun ls hl => ?_)
            refine lv_aload_n hx hb dX10_digits_59 rfl (lv_at hl 2 rfl) ?_
            refine lv_dup hx hb dX10_digits_60 rfl ?_
            refine m_geti (1000) 25 hx hb hts hown hE oc10 hM hJ.1 rfl (by decide) rfl tb_1202 dX10_digits_61 ?_
            refine lv_iconst (v := (1)) hx hb dX10_digits_64 (by decide) ?_
            refine lv_iadd hx hb dX10_digits_65 ?_
            refine lv_topi (fun v35 ev35 => ?_)
            have tv35 := a_add ev35 (by omega) (by omega)
            refine m_puti (1000) 25 hx hb hts hown hE oc10 hM hS hJ.1 rfl (by decide) rfl rfl rfl rfl tb_1202 dX10_digits_66 (fun H locs I36 eI36 hM hS => ?_)
            subst eI36
            have hI := hI.put (n := 1000) (k := 25) (v := v35) (lo := 0) (hi := 100000) rfl (by first | omega | decide)
            have hK := hK.put (n := 1000) (k := 25) (v := v35) (by first | rfl | simp [inR])
            refine lv_goto (tgt := 25) hx hb dX10_digits_69 (by decide) ?_
            have tr100025 : ((u2 Ia25 (1000) 25 (v35)) (1000) 25).toInt = (v35 : Int32).toInt := congrArg Int32.toInt ((show (u2 Ia25 (1000) 25 (v35)) (1000) 25 = v35 from by simp [u2_v]))
            have tr100026 : ((u2 Ia25 (1000) 25 (v35)) (1000) 26).toInt = (Ia25 (1000) 26 : Int32).toInt := congrArg Int32.toInt ((show (u2 Ia25 (1000) 25 (v35)) (1000) 26 = Ia25 (1000) 26 from by simp [u2_v]))
            exact ih25 (x3_25) (u2 Ia25 (1000) 25 (v35)) La25 _ _ ls hI hK (by omega) (by omega) hM hS (lv_sub hl [0, 1, 2, 3] rfl)
          · have hc34 := c34
            have q34 := q_nle hc34
            refine lv_bipush (v := (10)) hx hb dX10_digits_42 (by decide) ?_
            refine lv_iload_n hx hb dX10_digits_44 rfl (lv_at hl 0 rfl) ?_
            refine lv_imul hx hb dX10_digits_45 ?_
            refine lv_topi (fun v37 ev37 => ?_)
            refine lv_aload_n hx hb dX10_digits_46 rfl (lv_at hl 2 rfl) ?_
            refine m_calli (m_runV (1000) (As := []) (rest := [.int (v37)]) hx hb hml hown hts hE hM hS hA ce_X10_sign tb_1510 (V_X10_sign l D A ad ns Ia25 La25 G hJ hI) rfl rfl ⟨Nat.le_of_ble_eq_true rfl, Nat.le_of_ble_eq_true rfl⟩ hJ.1 rfl rfl (by decide) rfl hl.1 rfl (Nat.le_of_ble_eq_true rfl) dX10_digits_47 ⟨Nat.le_of_ble_eq_true rfl, Nat.le_of_ble_eq_true rfl⟩) hS (fun r38 u H locs hw hM hS => ?_)
            obtain ⟨rfl, xr38⟩ := hw
            have hM : Mem D A ad ns Ia25 La25 G H := hM
            have g39 := hI.get 1000 24 (lo := 0) (hi := 400) rfl
            have g40 := hI.get 1000 25 (lo := 0) (hi := 100000) rfl
            refine lv_iadd hx hb dX10_digits_50 ?_
            refine lv_topi (fun v41 ev41 => ?_)
            refine lv_bipush (v := (48)) hx hb dX10_digits_51 (by decide) ?_
            refine lv_isub hx hb dX10_digits_53 ?_
            refine lv_topi (fun v42 ev42 => ?_)
            refine lv_goto (tgt := 58) hx hb dX10_digits_54 (by decide) ?_
            refine lv_istore_n (lv' := [(3, .int (v42)), (2, .int (I (1000) 25)), (0, .ref (ad (1000))), (1, .int (a0))]) hx hb dX10_digits_58 rfl hl (by decide) rfl (fun ls hl => ?_)
            refine lv_aload_n hx hb dX10_digits_59 rfl (lv_at hl 2 rfl) ?_
            refine lv_dup hx hb dX10_digits_60 rfl ?_
            refine m_geti (1000) 25 hx hb hts hown hE oc10 hM hJ.1 rfl (by decide) rfl tb_1202 dX10_digits_61 ?_
            refine lv_iconst (v := (1)) hx hb dX10_digits_64 (by decide) ?_
            refine lv_iadd hx hb dX10_digits_65 ?_
            refine lv_topi (fun v43 ev43 => ?_)
            have tv43 := a_add ev43 (by omega) (by omega)
            refine m_puti (1000) 25 hx hb hts hown hE oc10 hM hS hJ.1 rfl (by decide) rfl rfl rfl rfl tb_1202 dX10_digits_66 (fun H locs I44 eI44 hM hS => ?_)
            subst eI44
            have hI := hI.put (n := 1000) (k := 25) (v := v43) (lo := 0) (hi := 100000) rfl (by first | omega | decide)
            have hK := hK.put (n := 1000) (k := 25) (v := v43) (by first | rfl | simp [inR])
            refine lv_goto (tgt := 25) hx hb dX10_digits_69 (by decide) ?_
            have tr100025 : ((u2 Ia25 (1000) 25 (v43)) (1000) 25).toInt = (v43 : Int32).toInt := congrArg Int32.toInt ((show (u2 Ia25 (1000) 25 (v43)) (1000) 25 = v43 from by simp [u2_v]))
            have tr100026 : ((u2 Ia25 (1000) 25 (v43)) (1000) 26).toInt = (Ia25 (1000) 26 : Int32).toInt := congrArg Int32.toInt ((show (u2 Ia25 (1000) 25 (v43)) (1000) 26 = Ia25 (1000) 26 from by simp [u2_v]))
            exact ih25 (v42) (u2 Ia25 (1000) 25 (v43)) La25 _ _ ls hI hK (by omega) (by omega) hM hS (lv_sub hl [0, 1, 2, 3] rfl)
    exact loop25 (_ + 1) (0) I L _ _ ls hI hK (by omega) (Nat.lt_succ_self _) hM hS (lv_sub hl [0, 1, 2, 3] rfl)
  · have hc4 := c4
    have q4 := q_eq hc4
    refine lv_aload_n hx hb dX10_digits_7 rfl (lv_at hl 0 rfl) ?_
    refine lv_iconst (v := (0)) hx hb dX10_digits_8 (by decide) ?_
    refine lv_aload_n hx hb dX10_digits_9 rfl (lv_at hl 0 rfl) ?_
    refine m_geti (1000) 25 hx hb hts hown hE oc10 hM hJ.1 rfl (by decide) rfl tb_1202 dX10_digits_10 ?_
    have g45 := hI.get (1000) 25 (lo := 0) (hi := 100000) rfl
    refine m_callv (m_runV (1000) (As := [.int (0), .int (I (1000) 25)]) (rest := []) hx hb hml hown hts hE hM hS hA ce_X10_fails tb_1521 (V_X10_fails l D A ad ns I L G (0) (I (1000) 25) hJ hI (by first | omega | decide) (by first | omega | decide)) rfl rfl ⟨Nat.le_of_ble_eq_true rfl, Nat.le_of_ble_eq_true rfl⟩ hJ.1 rfl rfl (by decide) rfl hl.1 rfl (Nat.le_of_ble_eq_true rfl) dX10_digits_13 ⟨Nat.le_of_ble_eq_true rfl, Nat.le_of_ble_eq_true rfl⟩) hS (fun u H locs hw hM hS => ?_)
    obtain ⟨I46, L47, rfl, hI, hkI46, xI46⟩ := hw
    have hM : Mem D A ad ns I46 L47 G H := hM
    have hK := hK.trans hkI46 rfl
    have pw48 : (I46 (1000) 24).toInt = (I (1000) 24 : Int32).toInt := congrArg Int32.toInt ((hkI46.get (1000) 24 rfl))
    have pw49 : (I46 (1000) 25).toInt = (I (1000) 25 : Int32).toInt := congrArg Int32.toInt ((hkI46.get (1000) 25 rfl))
    have pw50 : (I46 (1000) 27).toInt = (I (1000) 27 : Int32).toInt := congrArg Int32.toInt ((hkI46.get (1000) 27 rfl))
    have pw51 : (I46 (1000) 29).toInt = (I (1000) 29 : Int32).toInt := congrArg Int32.toInt ((hkI46.get (1000) 29 rfl))
    have pw52 : (I46 (1000) 31).toInt = (I (1000) 31 : Int32).toInt := congrArg Int32.toInt ((hkI46.get (1000) 31 rfl))
    have pw53 : (I46 (1000) 32).toInt = (I (1000) 32 : Int32).toInt := congrArg Int32.toInt ((hkI46.get (1000) 32 rfl))
    refine lv_iconst (v := (0)) hx hb dX10_digits_16 (by decide) ?_
    exact m_iret hx hb hr hlocks hM hS (Nat.le_of_ble_eq_true rfl) (Nat.le_of_ble_eq_true rfl) ⟨_, _, rfl, hI, hK, ⟨by omega, by omega, (fun hz => by have w0 := xI46.1 (by omega); exact w0.elim)⟩⟩ dX10_digits_17
theorem dX10_stands_0 : decode cX10_stands 0 = .ok (.aload_n 0, 1) := by decide +kernel
theorem dX10_stands_1 : decode cX10_stands 1 = .ok (.getfield 267, 3) := by decide +kernel
theorem dX10_stands_4 : decode cX10_stands 4 = .ok (.istore_n 2, 1) := by decide +kernel
theorem dX10_stands_5 : decode cX10_stands 5 = .ok (.iload_n 2, 1) := by decide +kernel
theorem dX10_stands_6 : decode cX10_stands 6 = .ok (.aload_n 0, 1) := by decide +kernel
theorem dX10_stands_7 : decode cX10_stands 7 = .ok (.getfield 232, 3) := by decide +kernel
theorem dX10_stands_10 : decode cX10_stands 10 = .ok (.if_icmp .ge 31, 3) := by decide +kernel
theorem dX10_stands_13 : decode cX10_stands 13 = .ok (.aload_n 0, 1) := by decide +kernel
theorem dX10_stands_14 : decode cX10_stands 14 = .ok (.getfield 83, 3) := by decide +kernel
theorem dX10_stands_17 : decode cX10_stands 17 = .ok (.iload_n 2, 1) := by decide +kernel
theorem dX10_stands_18 : decode cX10_stands 18 = .ok (.baload, 1) := by decide +kernel
theorem dX10_stands_19 : decode cX10_stands 19 = .ok (.bipush 97, 2) := by decide +kernel
theorem dX10_stands_21 : decode cX10_stands 21 = .ok (.if_icmp .lt 20, 3) := by decide +kernel
theorem dX10_stands_24 : decode cX10_stands 24 = .ok (.aload_n 0, 1) := by decide +kernel
theorem dX10_stands_25 : decode cX10_stands 25 = .ok (.getfield 83, 3) := by decide +kernel
theorem dX10_stands_28 : decode cX10_stands 28 = .ok (.iload_n 2, 1) := by decide +kernel
theorem dX10_stands_29 : decode cX10_stands 29 = .ok (.baload, 1) := by decide +kernel
theorem dX10_stands_30 : decode cX10_stands 30 = .ok (.bipush 122, 2) := by decide +kernel
theorem dX10_stands_32 : decode cX10_stands 32 = .ok (.if_icmp .gt 9, 3) := by decide +kernel
theorem dX10_stands_35 : decode cX10_stands 35 = .ok (.iinc 2 1, 3) := by decide +kernel
theorem dX10_stands_38 : decode cX10_stands 38 = .ok (.goto (-33), 3) := by decide +kernel
theorem dX10_stands_41 : decode cX10_stands 41 = .ok (.iload_n 2, 1) := by decide +kernel
theorem dX10_stands_42 : decode cX10_stands 42 = .ok (.aload_n 0, 1) := by decide +kernel
theorem dX10_stands_43 : decode cX10_stands 43 = .ok (.getfield 267, 3) := by decide +kernel
theorem dX10_stands_46 : decode cX10_stands 46 = .ok (.isub, 1) := by decide +kernel
theorem dX10_stands_47 : decode cX10_stands 47 = .ok (.aload_n 1, 1) := by decide +kernel
theorem dX10_stands_48 : decode cX10_stands 48 = .ok (.invokevirtual 278, 3) := by decide +kernel
theorem dX10_stands_51 : decode cX10_stands 51 = .ok (.if_icmp .ne 7, 3) := by decide +kernel
theorem dX10_stands_54 : decode cX10_stands 54 = .ok (.iconst 1, 1) := by decide +kernel
theorem dX10_stands_55 : decode cX10_stands 55 = .ok (.goto 4, 3) := by decide +kernel
theorem dX10_stands_58 : decode cX10_stands 58 = .ok (.iconst 0, 1) := by decide +kernel
theorem dX10_stands_59 : decode cX10_stands 59 = .ok (.istore_n 3, 1) := by decide +kernel
theorem dX10_stands_60 : decode cX10_stands 60 = .ok (.iconst 0, 1) := by decide +kernel
theorem dX10_stands_61 : decode cX10_stands 61 = .ok (.istore 4, 2) := by decide +kernel
theorem dX10_stands_63 : decode cX10_stands 63 = .ok (.iload 4, 2) := by decide +kernel
theorem dX10_stands_65 : decode cX10_stands 65 = .ok (.aload_n 1, 1) := by decide +kernel
theorem dX10_stands_66 : decode cX10_stands 66 = .ok (.invokevirtual 278, 3) := by decide +kernel
theorem dX10_stands_69 : decode cX10_stands 69 = .ok (.if_icmp .ge 40, 3) := by decide +kernel
theorem dX10_stands_72 : decode cX10_stands 72 = .ok (.iload_n 3, 1) := by decide +kernel
theorem dX10_stands_73 : decode cX10_stands 73 = .ok (.ifCond .eq 36, 3) := by decide +kernel
theorem dX10_stands_76 : decode cX10_stands 76 = .ok (.aload_n 0, 1) := by decide +kernel
theorem dX10_stands_77 : decode cX10_stands 77 = .ok (.getfield 83, 3) := by decide +kernel
theorem dX10_stands_80 : decode cX10_stands 80 = .ok (.aload_n 0, 1) := by decide +kernel
theorem dX10_stands_81 : decode cX10_stands 81 = .ok (.getfield 267, 3) := by decide +kernel
theorem dX10_stands_84 : decode cX10_stands 84 = .ok (.iload 4, 2) := by decide +kernel
theorem dX10_stands_86 : decode cX10_stands 86 = .ok (.iadd, 1) := by decide +kernel
theorem dX10_stands_87 : decode cX10_stands 87 = .ok (.baload, 1) := by decide +kernel
theorem dX10_stands_88 : decode cX10_stands 88 = .ok (.aload_n 1, 1) := by decide +kernel
theorem dX10_stands_89 : decode cX10_stands 89 = .ok (.iload 4, 2) := by decide +kernel
theorem dX10_stands_91 : decode cX10_stands 91 = .ok (.invokevirtual 283, 3) := by decide +kernel
theorem dX10_stands_94 : decode cX10_stands 94 = .ok (.if_icmp .ne 7, 3) := by decide +kernel
theorem dX10_stands_97 : decode cX10_stands 97 = .ok (.iconst 1, 1) := by decide +kernel
theorem dX10_stands_98 : decode cX10_stands 98 = .ok (.goto 4, 3) := by decide +kernel
theorem dX10_stands_101 : decode cX10_stands 101 = .ok (.iconst 0, 1) := by decide +kernel
theorem dX10_stands_102 : decode cX10_stands 102 = .ok (.istore_n 3, 1) := by decide +kernel
theorem dX10_stands_103 : decode cX10_stands 103 = .ok (.iinc 4 1, 3) := by decide +kernel
theorem dX10_stands_106 : decode cX10_stands 106 = .ok (.goto (-43), 3) := by decide +kernel
theorem dX10_stands_109 : decode cX10_stands 109 = .ok (.iload_n 3, 1) := by decide +kernel
theorem dX10_stands_110 : decode cX10_stands 110 = .ok (.ireturn, 1) := by decide +kernel
theorem ce_X10_stands : CeV RX10 yX10_stands cX10_stands 5 (some .boolean) 1 := ⟨tb_1517, tp_64, tb_11, tb_1518, rfl, by decide, by decide, by decide +kernel⟩
set_option maxHeartbeats 4000000 in
set_option maxRecDepth 20000 in
theorem V_X10_stands (l : Launch) (D : va_G) (A : Nat → Prop) (ad : Nat → Nat) (ns : List Nat) (I : MI) (L : ML) (G : MG) (i : Nat) (q : String × Nat × String × List Int32) (hJ : SGM ns G) (hI : INV I) (hq : sq[i]? = some q) (hn : q.2.2.2.length < 16) (hn1 : 1 ≤ q.2.2.2.length) : Met l yX10_stands (wd yX10_stands cX10_stands 5 (some .boolean)) ({ frames := 4, cells := 0, slots := 0, locals := 85 }) (va_Pc [.ref (ad (1000)), .ref (D.2 100 i)] (PM D A ad ns I L G)) (va_Qi (fun r u => u = (ad, ns, I, L, G) ∧ (0 ≤ r.toInt ∧ r.toInt ≤ 1 ∧ Imp (r.toInt ≠ 0) ((I 1000 25).toInt + (q.2.2.2.length : Int) ≤ (I 1000 24).toInt))) (BM D A) A) 0 0 A := by
  refine m_ofW (by decide) (Nat.le_of_ble_eq_true rfl) ?_
  intro p e s m below meth c ls args hC hE hM hA hS hl
  obtain ⟨hx, hb, hml, hown, hts, hr, hlocks, hin⟩ := hC
  have k0 : (0 : Int32).toInt = 0 := by decide
  have k1 : (1 : Int32).toInt = 1 := by decide
  have k97 : (97 : Int32).toInt = 97 := by decide
  have k122 : (122 : Int32).toInt = 122 := by decide
  have kN : (Int32.ofNat q.2.2.2.length).toInt = q.2.2.2.length := nI_toInt (by omega)
  have hl : lv_has ls 5 [(0, .ref (ad (1000))), (1, .ref (D.2 100 i))] := hl
  refine lv_aload_n hx hb dX10_stands_0 rfl (lv_at hl 0 rfl) ?_
  refine m_geti (1000) 25 hx hb hts hown hE oc10 hM hJ.1 rfl (by decide) rfl tb_1202 dX10_stands_1 ?_
  have g1 := hI.get (1000) 25 (lo := 0) (hi := 100000) rfl
  refine lv_istore_n (lv' := [(2, .int (I (1000) 25)), (0, .ref (ad (1000))), (1, .ref (D.2 100 i))]) hx hb dX10_stands_4 rfl hl (by decide) rfl (fun ls hl => ?_)
  have loop5 : ∀ (n : Nat) (x2_5 : Int32) (H : Heap) (locs : List Loc) (ls : Array Slot), (0 ≤ x2_5.toInt ∧ x2_5.toInt ≤ 100000) → ((I 1000 25).toInt ≤ (x2_5).toInt ∧ ((x2_5).toInt = (I 1000 25).toInt ∨ (x2_5).toInt ≤ (I 1000 24).toInt)) → (400 - x2_5.toInt).toNat < n → Mem D A ad ns I L G H → va_S A s.heap H locs → lv_has ls 5 [(2, .int (x2_5)), (0, .ref (ad (1000))), (1, .ref (D.2 100 i))] → W p l e ({ frames := 4, cells := 0, slots := 0, locals := 85 } : Room) s m args below meth c H locs 0 0 (MQ below (va_Qi (fun r u => u = (ad, ns, I, L, G) ∧ (0 ≤ r.toInt ∧ r.toInt ≤ 1 ∧ Imp (r.toInt ≠ 0) ((I 1000 25).toInt + (q.2.2.2.length : Int) ≤ (I 1000 24).toInt))) (BM D A) A) args s 0 0 A) (F0 m 5 ls []) := by
    intro n
    induction n with
    | zero =>
      intro x2_5 H locs ls hr2_5 he5 hmu
      exact absurd hmu (Nat.not_lt_zero _)
    | succ n ih5 =>
      intro x2_5 H locs ls hr2_5 he5 hmu5 hM hS hl
      refine lv_iload_n hx hb dX10_stands_5 rfl (lv_at hl 0 rfl) ?_
      refine lv_aload_n hx hb dX10_stands_6 rfl (lv_at hl 1 rfl) ?_
      refine m_geti (1000) 24 hx hb hts hown hE oc10 hM hJ.1 rfl (by decide) rfl tb_1201 dX10_stands_7 ?_
      have g2 := hI.get (1000) 24 (lo := 0) (hi := 400) rfl
      refine lv_icmp_ge (tgt := 41) hx hb dX10_stands_10 (by decide) (fun c3 => ?_) (fun c3 => ?_)
      · have hc3 := c3
        have q3 := q_le hc3
        refine lv_iload_n hx hb dX10_stands_41 rfl (lv_at hl 0 rfl) ?_
        refine lv_aload_n hx hb dX10_stands_42 rfl (lv_at hl 1 rfl) ?_
        refine m_geti (1000) 25 hx hb hts hown hE oc10 hM hJ.1 rfl (by decide) rfl tb_1202 dX10_stands_43 ?_
        refine lv_isub hx hb dX10_stands_46 ?_
        refine lv_topi (fun v4 ev4 => ?_)
        have tv4 := a_sub ev4 (by omega) (by omega)
        refine lv_aload_n hx hb dX10_stands_47 rfl (lv_at hl 2 rfl) ?_
        refine m_calli (m_runVA (D.2 100 i) (As := []) (rest := [.int (v4)]) hx hb hml hown hts hE hM hS hA ce_J0_length_8abf5 tb_1519 (C_J0_length_8abf5 l D A ad ns I L G i _ hq hn) rfl rfl ⟨Nat.le_of_ble_eq_true rfl, Nat.le_of_ble_eq_true rfl⟩ (m_strr hE hS i hq) rfl hl.1 rfl (Nat.le_of_ble_eq_true rfl) dX10_stands_48 ⟨Nat.le_of_ble_eq_true rfl, Nat.le_of_ble_eq_true rfl⟩) hS (fun r5 u H locs hw hM hS => ?_)
        obtain ⟨rfl, rfl⟩ := hw
        have hM : Mem D A ad ns I L G H := hM
        refine lv_icmp_ne (tgt := 58) hx hb dX10_stands_51 (by decide) (fun c6 => ?_) (fun c6 => ?_)
        · have hc6 := c6
          have q6 := q_ne hc6
          refine lv_iconst (v := (0)) hx hb dX10_stands_58 (by decide) ?_
          refine lv_istore_n (lv' := [(3, .int (0)), (2, .int (x2_5)), (0, .ref (ad (1000))), (1, .ref (D.2 100 i))]) hx hb dX10_stands_59 rfl hl (by decide) rfl (fun ls hl => ?_)
          refine lv_iconst (v := (0)) hx hb dX10_stands_60 (by decide) ?_
          refine lv_istore (lv' := [(4, .int (0)), (3, .int (0)), (2, .int (x2_5)), (0, .ref (ad (1000))), (1, .ref (D.2 100 i))]) hx hb dX10_stands_61 hl (by decide) rfl (fun ls hl => ?_)
          have loop63 : ∀ (n : Nat) (x4_63 : Int32) (x3_63 : Int32) (H : Heap) (locs : List Loc) (ls : Array Slot), (0 ≤ x4_63.toInt ∧ x4_63.toInt ≤ 16) → (0 ≤ x3_63.toInt ∧ x3_63.toInt ≤ 1) → ((x3_63).toInt = 0 ∨ (x2_5).toInt - (I 1000 25).toInt = (q.2.2.2.length : Int)) → (16 - x4_63.toInt).toNat < n → Mem D A ad ns I L G H → va_S A s.heap H locs → lv_has ls 5 [(4, .int (x4_63)), (3, .int (x3_63)), (2, .int (x2_5)), (0, .ref (ad (1000))), (1, .ref (D.2 100 i))] → W p l e ({ frames := 4, cells := 0, slots := 0, locals := 85 } : Room) s m args below meth c H locs 0 0 (MQ below (va_Qi (fun r u => u = (ad, ns, I, L, G) ∧ (0 ≤ r.toInt ∧ r.toInt ≤ 1 ∧ Imp (r.toInt ≠ 0) ((I 1000 25).toInt + (q.2.2.2.length : Int) ≤ (I 1000 24).toInt))) (BM D A) A) args s 0 0 A) (F0 m 63 ls []) := by
            intro n
            induction n with
            | zero =>
              intro x4_63 x3_63 H locs ls hr4_63 hr3_63 he63 hmu
              exact absurd hmu (Nat.not_lt_zero _)
            | succ n ih63 =>
              intro x4_63 x3_63 H locs ls hr4_63 hr3_63 he63 hmu63 hM hS hl
              refine lv_iload hx hb dX10_stands_63 (lv_at hl 0 rfl) ?_
              refine lv_aload_n hx hb dX10_stands_65 rfl (lv_at hl 4 rfl) ?_
              refine m_calli (m_runVA (D.2 100 i) (As := []) (rest := [.int (x4_63)]) hx hb hml hown hts hE hM hS hA ce_J0_length_8abf5 tb_1519 (C_J0_length_8abf5 l D A ad ns I L G i _ hq hn) rfl rfl ⟨Nat.le_of_ble_eq_true rfl, Nat.le_of_ble_eq_true rfl⟩ (m_strr hE hS i hq) rfl hl.1 rfl (Nat.le_of_ble_eq_true rfl) dX10_stands_66 ⟨Nat.le_of_ble_eq_true rfl, Nat.le_of_ble_eq_true rfl⟩) hS (fun r7 u H locs hw hM hS => ?_)
              obtain ⟨rfl, rfl⟩ := hw
              have hM : Mem D A ad ns I L G H := hM
              refine lv_icmp_ge (tgt := 109) hx hb dX10_stands_69 (by decide) (fun c8 => ?_) (fun c8 => ?_)
              · have hc8 := c8
                have q8 := q_le hc8
                refine lv_iload_n hx hb dX10_stands_109 rfl (lv_at hl 1 rfl) ?_
                exact m_zret hx hb hr (nar01 (by omega) (by omega)).1 hlocks hM hS (Nat.le_of_ble_eq_true rfl) (Nat.le_of_ble_eq_true rfl) ⟨rfl, ⟨by omega, by omega, fun hz => by omega⟩⟩ dX10_stands_110
              · have hc8 := c8
                have q8 := q_nle hc8
                refine lv_iload_n hx hb dX10_stands_72 rfl (lv_at hl 1 rfl) ?_
                refine lv_if_eq (tgt := 109) hx hb dX10_stands_73 (by decide) (fun c9 => ?_) (fun c9 => ?_)
                · have hc9 := c9
                  have q9 := q_eq hc9
                  refine lv_iload_n hx hb dX10_stands_109 rfl (lv_at hl 1 rfl) ?_
                  exact m_zret hx hb hr (nar01 (by omega) (by omega)).1 hlocks hM hS (Nat.le_of_ble_eq_true rfl) (Nat.le_of_ble_eq_true rfl) ⟨rfl, ⟨by omega, by omega, fun hz => by omega⟩⟩ dX10_stands_110
                · have hc9 := c9
                  have q9 := q_ne hc9
                  refine lv_aload_n hx hb dX10_stands_76 rfl (lv_at hl 3 rfl) ?_
                  refine m_getr (1000) 34 (1034) hx hb hts hown hE oc10 hM hJ.1 rfl (by decide) rfl (hJ.2 34 (by decide)).2 (by decide) tb_1211 dX10_stands_77 ?_
                  refine lv_aload_n hx hb dX10_stands_80 rfl (lv_at hl 3 rfl) ?_
                  refine m_geti (1000) 25 hx hb hts hown hE oc10 hM hJ.1 rfl (by decide) rfl tb_1202 dX10_stands_81 ?_
                  refine lv_iload hx hb dX10_stands_84 (lv_at hl 0 rfl) ?_
                  refine lv_iadd hx hb dX10_stands_86 ?_
                  refine lv_topi (fun v10 ev10 => ?_)
                  have tv10 := a_add ev10 (by omega) (by omega)
                  refine m_bald (1034) hx hb hE hM (hJ.2 34 (by decide)).1 rfl (vp_in_iff.mpr (by omega)) dX10_stands_87 ?_
                  refine lv_aload_n hx hb dX10_stands_88 rfl (lv_at hl 4 rfl) ?_
                  refine lv_iload hx hb dX10_stands_89 (lv_at hl 0 rfl) ?_
                  refine m_calli (m_runVA (D.2 100 i) (As := [.int (x4_63)]) (rest := [.int (I (1034) (v10).toNatClampNeg)]) hx hb hml hown hts hE hM hS hA ce_J0_charAt_5068e tb_1520 (C_J0_charAt_5068e l D A ad ns I L G i _ (x4_63) hq hn (by omega)) rfl rfl ⟨Nat.le_of_ble_eq_true rfl, Nat.le_of_ble_eq_true rfl⟩ (m_strr hE hS i hq) rfl hl.1 rfl (Nat.le_of_ble_eq_true rfl) dX10_stands_91 ⟨Nat.le_of_ble_eq_true rfl, Nat.le_of_ble_eq_true rfl⟩) hS (fun r11 u H locs hw hM hS => ?_)
                  obtain ⟨rfl, xr11⟩ := hw
                  have hM : Mem D A ad ns I L G H := hM
                  have yr11 := a_and (c := 255) xr11 (by decide) (by decide)
                  refine lv_icmp_ne (tgt := 101) hx hb dX10_stands_94 (by decide) (fun c12 => ?_) (fun c12 => ?_)
                  · have hc12 := c12
                    have q12 := q_ne hc12
                    refine lv_iconst (v := (0)) hx hb dX10_stands_101 (by decide) ?_
                    refine lv_istore_n (lv' := [(3, .int (0)), (4, .int (x4_63)), (2, .int (x2_5)), (0, .ref (ad (1000))), (1, .ref (D.2 100 i))]) hx hb dX10_stands_102 rfl hl (by decide) rfl (fun ls hl => ?_)
                    obtain ⟨v13, ev13⟩ : ∃ z : Int32, z = x4_63 + Int32.ofInt (1) := ⟨_, rfl⟩
                    have tv13 := a_inc ev13 (by decide) (by omega) (by omega)
                    refine lv_iinc (v := v13) (lv' := [(4, .int (v13)), (3, .int (0)), (2, .int (x2_5)), (0, .ref (ad (1000))), (1, .ref (D.2 100 i))]) hx hb dX10_stands_103 hl (k := 1) rfl ev13.symm (by decide) rfl (fun ls hl => ?_)
                    refine lv_goto (tgt := 63) hx hb dX10_stands_106 (by decide) ?_
                    exact ih63 (v13) (0) _ _ ls (by first | omega | decide) (by first | omega | decide) (by omega) (by omega) hM hS (lv_sub hl [0, 1, 2, 3, 4] rfl)
                  · have hc12 := c12
                    have q12 := q_eq hc12
                    refine lv_iconst (v := (1)) hx hb dX10_stands_97 (by decide) ?_
                    refine lv_goto (tgt := 102) hx hb dX10_stands_98 (by decide) ?_
                    refine lv_istore_n (lv' := [(3, .int (1)), (4, .int (x4_63)), (2, .int (x2_5)), (0, .ref (ad (1000))), (1, .ref (D.2 100 i))]) hx hb dX10_stands_102 rfl hl (by decide) rfl (fun ls hl => ?_)
                    obtain ⟨v14, ev14⟩ : ∃ z : Int32, z = x4_63 + Int32.ofInt (1) := ⟨_, rfl⟩
                    have tv14 := a_inc ev14 (by decide) (by omega) (by omega)
                    refine lv_iinc (v := v14) (lv' := [(4, .int (v14)), (3, .int (1)), (2, .int (x2_5)), (0, .ref (ad (1000))), (1, .ref (D.2 100 i))]) hx hb dX10_stands_103 hl (k := 1) rfl ev14.symm (by decide) rfl (fun ls hl => ?_)
                    refine lv_goto (tgt := 63) hx hb dX10_stands_106 (by decide) ?_
                    exact ih63 (v14) (1) _ _ ls (by first | omega | decide) (by first | omega | decide) (by omega) (by omega) hM hS (lv_sub hl [0, 1, 2, 3, 4] rfl)
          exact loop63 (_ + 1) (0) (0) _ _ ls (by first | omega | decide) (by first | omega | decide) (by omega) (Nat.lt_succ_self _) hM hS (lv_sub hl [0, 1, 2, 3, 4] rfl)
        · have hc6 := c6
          have q6 := q_eq hc6
          refine lv_iconst (v := (1)) hx hb dX10_stands_54 (by decide) ?_
          refine lv_goto (tgt := 59) hx hb dX10_stands_55 (by decide) ?_
          refine lv_istore_n (lv' := [(3, .int (1)), (2, .int (x2_5)), (0, .ref (ad (1000))), (1, .ref (D.2 100 i))]) hx hb dX10_stands_59 rfl hl (by decide) rfl (fun ls hl => ?_)
          refine lv_iconst (v := (0)) hx hb dX10_stands_60 (by decide) ?_
          refine lv_istore (lv' := [(4, .int (0)), (3, .int (1)), (2, .int (x2_5)), (0, .ref (ad (1000))), (1, .ref (D.2 100 i))]) hx hb dX10_stands_61 hl (by decide) rfl (fun ls hl => ?_)
          have loop63 : ∀ (n : Nat) (x4_63 : Int32) (x3_63 : Int32) (H : Heap) (locs : List Loc) (ls : Array Slot), (0 ≤ x4_63.toInt ∧ x4_63.toInt ≤ 16) → (0 ≤ x3_63.toInt ∧ x3_63.toInt ≤ 1) → ((x3_63).toInt = 0 ∨ (x2_5).toInt - (I 1000 25).toInt = (q.2.2.2.length : Int)) → (16 - x4_63.toInt).toNat < n → Mem D A ad ns I L G H → va_S A s.heap H locs → lv_has ls 5 [(4, .int (x4_63)), (3, .int (x3_63)), (2, .int (x2_5)), (0, .ref (ad (1000))), (1, .ref (D.2 100 i))] → W p l e ({ frames := 4, cells := 0, slots := 0, locals := 85 } : Room) s m args below meth c H locs 0 0 (MQ below (va_Qi (fun r u => u = (ad, ns, I, L, G) ∧ (0 ≤ r.toInt ∧ r.toInt ≤ 1 ∧ Imp (r.toInt ≠ 0) ((I 1000 25).toInt + (q.2.2.2.length : Int) ≤ (I 1000 24).toInt))) (BM D A) A) args s 0 0 A) (F0 m 63 ls []) := by
            intro n
            induction n with
            | zero =>
              intro x4_63 x3_63 H locs ls hr4_63 hr3_63 he63 hmu
              exact absurd hmu (Nat.not_lt_zero _)
            | succ n ih63 =>
              intro x4_63 x3_63 H locs ls hr4_63 hr3_63 he63 hmu63 hM hS hl
              refine lv_iload hx hb dX10_stands_63 (lv_at hl 0 rfl) ?_
              refine lv_aload_n hx hb dX10_stands_65 rfl (lv_at hl 4 rfl) ?_
              refine m_calli (m_runVA (D.2 100 i) (As := []) (rest := [.int (x4_63)]) hx hb hml hown hts hE hM hS hA ce_J0_length_8abf5 tb_1519 (C_J0_length_8abf5 l D A ad ns I L G i _ hq hn) rfl rfl ⟨Nat.le_of_ble_eq_true rfl, Nat.le_of_ble_eq_true rfl⟩ (m_strr hE hS i hq) rfl hl.1 rfl (Nat.le_of_ble_eq_true rfl) dX10_stands_66 ⟨Nat.le_of_ble_eq_true rfl, Nat.le_of_ble_eq_true rfl⟩) hS (fun r15 u H locs hw hM hS => ?_)
              obtain ⟨rfl, rfl⟩ := hw
              have hM : Mem D A ad ns I L G H := hM
              refine lv_icmp_ge (tgt := 109) hx hb dX10_stands_69 (by decide) (fun c16 => ?_) (fun c16 => ?_)
              · have hc16 := c16
                have q16 := q_le hc16
                refine lv_iload_n hx hb dX10_stands_109 rfl (lv_at hl 1 rfl) ?_
                exact m_zret hx hb hr (nar01 (by omega) (by omega)).1 hlocks hM hS (Nat.le_of_ble_eq_true rfl) (Nat.le_of_ble_eq_true rfl) ⟨rfl, ⟨by omega, by omega, fun hz => by omega⟩⟩ dX10_stands_110
              · have hc16 := c16
                have q16 := q_nle hc16
                refine lv_iload_n hx hb dX10_stands_72 rfl (lv_at hl 1 rfl) ?_
                refine lv_if_eq (tgt := 109) hx hb dX10_stands_73 (by decide) (fun c17 => ?_) (fun c17 => ?_)
                · have hc17 := c17
                  have q17 := q_eq hc17
                  refine lv_iload_n hx hb dX10_stands_109 rfl (lv_at hl 1 rfl) ?_
                  exact m_zret hx hb hr (nar01 (by omega) (by omega)).1 hlocks hM hS (Nat.le_of_ble_eq_true rfl) (Nat.le_of_ble_eq_true rfl) ⟨rfl, ⟨by omega, by omega, fun hz => by omega⟩⟩ dX10_stands_110
                · have hc17 := c17
                  have q17 := q_ne hc17
                  refine lv_aload_n hx hb dX10_stands_76 rfl (lv_at hl 3 rfl) ?_
                  refine m_getr (1000) 34 (1034) hx hb hts hown hE oc10 hM hJ.1 rfl (by decide) rfl (hJ.2 34 (by decide)).2 (by decide) tb_1211 dX10_stands_77 ?_
                  refine lv_aload_n hx hb dX10_stands_80 rfl (lv_at hl 3 rfl) ?_
                  refine m_geti (1000) 25 hx hb hts hown hE oc10 hM hJ.1 rfl (by decide) rfl tb_1202 dX10_stands_81 ?_
                  refine lv_iload hx hb dX10_stands_84 (lv_at hl 0 rfl) ?_
                  refine lv_iadd hx hb dX10_stands_86 ?_
                  refine lv_topi (fun v18 ev18 => ?_)
                  have tv18 := a_add ev18 (by omega) (by omega)
                  refine m_bald (1034) hx hb hE hM (hJ.2 34 (by decide)).1 rfl (vp_in_iff.mpr (by omega)) dX10_stands_87 ?_
                  refine lv_aload_n hx hb dX10_stands_88 rfl (lv_at hl 4 rfl) ?_
                  refine lv_iload hx hb dX10_stands_89 (lv_at hl 0 rfl) ?_
                  refine m_calli (m_runVA (D.2 100 i) (As := [.int (x4_63)]) (rest := [.int (I (1034) (v18).toNatClampNeg)]) hx hb hml hown hts hE hM hS hA ce_J0_charAt_5068e tb_1520 (C_J0_charAt_5068e l D A ad ns I L G i _ (x4_63) hq hn (by omega)) rfl rfl ⟨Nat.le_of_ble_eq_true rfl, Nat.le_of_ble_eq_true rfl⟩ (m_strr hE hS i hq) rfl hl.1 rfl (Nat.le_of_ble_eq_true rfl) dX10_stands_91 ⟨Nat.le_of_ble_eq_true rfl, Nat.le_of_ble_eq_true rfl⟩) hS (fun r19 u H locs hw hM hS => ?_)
                  obtain ⟨rfl, xr19⟩ := hw
                  have hM : Mem D A ad ns I L G H := hM
                  have yr19 := a_and (c := 255) xr19 (by decide) (by decide)
                  refine lv_icmp_ne (tgt := 101) hx hb dX10_stands_94 (by decide) (fun c20 => ?_) (fun c20 => ?_)
                  · have hc20 := c20
                    have q20 := q_ne hc20
                    refine lv_iconst (v := (0)) hx hb dX10_stands_101 (by decide) ?_
                    refine lv_istore_n (lv' := [(3, .int (0)), (4, .int (x4_63)), (2, .int (x2_5)), (0, .ref (ad (1000))), (1, .ref (D.2 100 i))]) hx hb dX10_stands_102 rfl hl (by decide) rfl (fun ls hl => ?_)
                    obtain ⟨v21, ev21⟩ : ∃ z : Int32, z = x4_63 + Int32.ofInt (1) := ⟨_, rfl⟩
                    have tv21 := a_inc ev21 (by decide) (by omega) (by omega)
                    refine lv_iinc (v := v21) (lv' := [(4, .int (v21)), (3, .int (0)), (2, .int (x2_5)), (0, .ref (ad (1000))), (1, .ref (D.2 100 i))]) hx hb dX10_stands_103 hl (k := 1) rfl ev21.symm (by decide) rfl (fun ls hl => ?_)
                    refine lv_goto (tgt := 63) hx hb dX10_stands_106 (by decide) ?_
                    exact ih63 (v21) (0) _ _ ls (by first | omega | decide) (by first | omega | decide) (by omega) (by omega) hM hS (lv_sub hl [0, 1, 2, 3, 4] rfl)
                  · have hc20 := c20
                    have q20 := q_eq hc20
                    refine lv_iconst (v := (1)) hx hb dX10_stands_97 (by decide) ?_
                    refine lv_goto (tgt := 102) hx hb dX10_stands_98 (by decide) ?_
                    refine lv_istore_n (lv' := [(3, .int (1)), (4, .int (x4_63)), (2, .int (x2_5)), (0, .ref (ad (1000))), (1, .ref (D.2 100 i))]) hx hb dX10_stands_102 rfl hl (by decide) rfl (fun ls hl => ?_)
                    obtain ⟨v22, ev22⟩ : ∃ z : Int32, z = x4_63 + Int32.ofInt (1) := ⟨_, rfl⟩
                    have tv22 := a_inc ev22 (by decide) (by omega) (by omega)
                    refine lv_iinc (v := v22) (lv' := [(4, .int (v22)), (3, .int (1)), (2, .int (x2_5)), (0, .ref (ad (1000))), (1, .ref (D.2 100 i))]) hx hb dX10_stands_103 hl (k := 1) rfl ev22.symm (by decide) rfl (fun ls hl => ?_)
                    refine lv_goto (tgt := 63) hx hb dX10_stands_106 (by decide) ?_
                    exact ih63 (v22) (1) _ _ ls (by first | omega | decide) (by first | omega | decide) (by omega) (by omega) hM hS (lv_sub hl [0, 1, 2, 3, 4] rfl)
          exact loop63 (_ + 1) (0) (1) _ _ ls (by first | omega | decide) (by first | omega | decide) (by omega) (Nat.lt_succ_self _) hM hS (lv_sub hl [0, 1, 2, 3, 4] rfl)
      · have hc3 := c3
        have q3 := q_nle hc3
        refine lv_aload_n hx hb dX10_stands_13 rfl (lv_at hl 1 rfl) ?_
        refine m_getr (1000) 34 (1034) hx hb hts hown hE oc10 hM hJ.1 rfl (by decide) rfl (hJ.2 34 (by decide)).2 (by decide) tb_1211 dX10_stands_14 ?_
        refine lv_iload_n hx hb dX10_stands_17 rfl (lv_at hl 0 rfl) ?_
        refine m_bald (1034) hx hb hE hM (hJ.2 34 (by decide)).1 rfl (vp_in_iff.mpr (by omega)) dX10_stands_18 ?_
        refine lv_bipush (v := (97)) hx hb dX10_stands_19 (by decide) ?_
        refine lv_icmp_lt (tgt := 41) hx hb dX10_stands_21 (by decide) (fun c23 => ?_) (fun c23 => ?_)
        · have hc23 := c23
          have q23 := q_lt hc23
          refine lv_iload_n hx hb dX10_stands_41 rfl (lv_at hl 0 rfl) ?_
          refine lv_aload_n hx hb dX10_stands_42 rfl (lv_at hl 1 rfl) ?_
          refine m_geti (1000) 25 hx hb hts hown hE oc10 hM hJ.1 rfl (by decide) rfl tb_1202 dX10_stands_43 ?_
          refine lv_isub hx hb dX10_stands_46 ?_
          refine lv_topi (fun v24 ev24 => ?_)
          have tv24 := a_sub ev24 (by omega) (by omega)
          refine lv_aload_n hx hb dX10_stands_47 rfl (lv_at hl 2 rfl) ?_
          refine m_calli (m_runVA (D.2 100 i) (As := []) (rest := [.int (v24)]) hx hb hml hown hts hE hM hS hA ce_J0_length_8abf5 tb_1519 (C_J0_length_8abf5 l D A ad ns I L G i _ hq hn) rfl rfl ⟨Nat.le_of_ble_eq_true rfl, Nat.le_of_ble_eq_true rfl⟩ (m_strr hE hS i hq) rfl hl.1 rfl (Nat.le_of_ble_eq_true rfl) dX10_stands_48 ⟨Nat.le_of_ble_eq_true rfl, Nat.le_of_ble_eq_true rfl⟩) hS (fun r25 u H locs hw hM hS => ?_)
          obtain ⟨rfl, rfl⟩ := hw
          have hM : Mem D A ad ns I L G H := hM
          refine lv_icmp_ne (tgt := 58) hx hb dX10_stands_51 (by decide) (fun c26 => ?_) (fun c26 => ?_)
          · have hc26 := c26
            have q26 := q_ne hc26
            refine lv_iconst (v := (0)) hx hb dX10_stands_58 (by decide) ?_
            refine lv_istore_n (lv' := [(3, .int (0)), (2, .int (x2_5)), (0, .ref (ad (1000))), (1, .ref (D.2 100 i))]) hx hb dX10_stands_59 rfl hl (by decide) rfl (fun ls hl => ?_)
            refine lv_iconst (v := (0)) hx hb dX10_stands_60 (by decide) ?_
            refine lv_istore (lv' := [(4, .int (0)), (3, .int (0)), (2, .int (x2_5)), (0, .ref (ad (1000))), (1, .ref (D.2 100 i))]) hx hb dX10_stands_61 hl (by decide) rfl (fun ls hl => ?_)
            have loop63 : ∀ (n : Nat) (x4_63 : Int32) (x3_63 : Int32) (H : Heap) (locs : List Loc) (ls : Array Slot), (0 ≤ x4_63.toInt ∧ x4_63.toInt ≤ 16) → (0 ≤ x3_63.toInt ∧ x3_63.toInt ≤ 1) → ((x3_63).toInt = 0 ∨ (x2_5).toInt - (I 1000 25).toInt = (q.2.2.2.length : Int)) → (16 - x4_63.toInt).toNat < n → Mem D A ad ns I L G H → va_S A s.heap H locs → lv_has ls 5 [(4, .int (x4_63)), (3, .int (x3_63)), (2, .int (x2_5)), (0, .ref (ad (1000))), (1, .ref (D.2 100 i))] → W p l e ({ frames := 4, cells := 0, slots := 0, locals := 85 } : Room) s m args below meth c H locs 0 0 (MQ below (va_Qi (fun r u => u = (ad, ns, I, L, G) ∧ (0 ≤ r.toInt ∧ r.toInt ≤ 1 ∧ Imp (r.toInt ≠ 0) ((I 1000 25).toInt + (q.2.2.2.length : Int) ≤ (I 1000 24).toInt))) (BM D A) A) args s 0 0 A) (F0 m 63 ls []) := by
              intro n
              induction n with
              | zero =>
                intro x4_63 x3_63 H locs ls hr4_63 hr3_63 he63 hmu
                exact absurd hmu (Nat.not_lt_zero _)
              | succ n ih63 =>
                intro x4_63 x3_63 H locs ls hr4_63 hr3_63 he63 hmu63 hM hS hl
                refine lv_iload hx hb dX10_stands_63 (lv_at hl 0 rfl) ?_
                refine lv_aload_n hx hb dX10_stands_65 rfl (lv_at hl 4 rfl) ?_
                refine m_calli (m_runVA (D.2 100 i) (As := []) (rest := [.int (x4_63)]) hx hb hml hown hts hE hM hS hA ce_J0_length_8abf5 tb_1519 (C_J0_length_8abf5 l D A ad ns I L G i _ hq hn) rfl rfl ⟨Nat.le_of_ble_eq_true rfl, Nat.le_of_ble_eq_true rfl⟩ (m_strr hE hS i hq) rfl hl.1 rfl (Nat.le_of_ble_eq_true rfl) dX10_stands_66 ⟨Nat.le_of_ble_eq_true rfl, Nat.le_of_ble_eq_true rfl⟩) hS (fun r27 u H locs hw hM hS => ?_)
                obtain ⟨rfl, rfl⟩ := hw
                have hM : Mem D A ad ns I L G H := hM
                refine lv_icmp_ge (tgt := 109) hx hb dX10_stands_69 (by decide) (fun c28 => ?_) (fun c28 => ?_)
                · have hc28 := c28
                  have q28 := q_le hc28
                  refine lv_iload_n hx hb dX10_stands_109 rfl (lv_at hl 1 rfl) ?_
                  exact m_zret hx hb hr (nar01 (by omega) (by omega)).1 hlocks hM hS (Nat.le_of_ble_eq_true rfl) (Nat.le_of_ble_eq_true rfl) ⟨rfl, ⟨by omega, by omega, fun hz => by omega⟩⟩ dX10_stands_110
                · have hc28 := c28
                  have q28 := q_nle hc28
                  refine lv_iload_n hx hb dX10_stands_72 rfl (lv_at hl 1 rfl) ?_
                  refine lv_if_eq (tgt := 109) hx hb dX10_stands_73 (by decide) (fun c29 => ?_) (fun c29 => ?_)
                  · have hc29 := c29
                    have q29 := q_eq hc29
                    refine lv_iload_n hx hb dX10_stands_109 rfl (lv_at hl 1 rfl) ?_
                    exact m_zret hx hb hr (nar01 (by omega) (by omega)).1 hlocks hM hS (Nat.le_of_ble_eq_true rfl) (Nat.le_of_ble_eq_true rfl) ⟨rfl, ⟨by omega, by omega, fun hz => by omega⟩⟩ dX10_stands_110
                  · have hc29 := c29
                    have q29 := q_ne hc29
                    refine lv_aload_n hx hb dX10_stands_76 rfl (lv_at hl 3 rfl) ?_
                    refine m_getr (1000) 34 (1034) hx hb hts hown hE oc10 hM hJ.1 rfl (by decide) rfl (hJ.2 34 (by decide)).2 (by decide) tb_1211 dX10_stands_77 ?_
                    refine lv_aload_n hx hb dX10_stands_80 rfl (lv_at hl 3 rfl) ?_
                    refine m_geti (1000) 25 hx hb hts hown hE oc10 hM hJ.1 rfl (by decide) rfl tb_1202 dX10_stands_81 ?_
                    refine lv_iload hx hb dX10_stands_84 (lv_at hl 0 rfl) ?_
                    refine lv_iadd hx hb dX10_stands_86 ?_
                    refine lv_topi (fun v30 ev30 => ?_)
                    have tv30 := a_add ev30 (by omega) (by omega)
                    refine m_bald (1034) hx hb hE hM (hJ.2 34 (by decide)).1 rfl (vp_in_iff.mpr (by omega)) dX10_stands_87 ?_
                    refine lv_aload_n hx hb dX10_stands_88 rfl (lv_at hl 4 rfl) ?_
                    refine lv_iload hx hb dX10_stands_89 (lv_at hl 0 rfl) ?_
                    refine m_calli (m_runVA (D.2 100 i) (As := [.int (x4_63)]) (rest := [.int (I (1034) (v30).toNatClampNeg)]) hx hb hml hown hts hE hM hS hA ce_J0_charAt_5068e tb_1520 (C_J0_charAt_5068e l D A ad ns I L G i _ (x4_63) hq hn (by omega)) rfl rfl ⟨Nat.le_of_ble_eq_true rfl, Nat.le_of_ble_eq_true rfl⟩ (m_strr hE hS i hq) rfl hl.1 rfl (Nat.le_of_ble_eq_true rfl) dX10_stands_91 ⟨Nat.le_of_ble_eq_true rfl, Nat.le_of_ble_eq_true rfl⟩) hS (fun r31 u H locs hw hM hS => ?_)
                    obtain ⟨rfl, xr31⟩ := hw
                    have hM : Mem D A ad ns I L G H := hM
                    have yr31 := a_and (c := 255) xr31 (by decide) (by decide)
                    refine lv_icmp_ne (tgt := 101) hx hb dX10_stands_94 (by decide) (fun c32 => ?_) (fun c32 => ?_)
                    · have hc32 := c32
                      have q32 := q_ne hc32
                      refine lv_iconst (v := (0)) hx hb dX10_stands_101 (by decide) ?_
                      refine lv_istore_n (lv' := [(3, .int (0)), (4, .int (x4_63)), (2, .int (x2_5)), (0, .ref (ad (1000))), (1, .ref (D.2 100 i))]) hx hb dX10_stands_102 rfl hl (by decide) rfl (fun ls hl => ?_)
                      obtain ⟨v33, ev33⟩ : ∃ z : Int32, z = x4_63 + Int32.ofInt (1) := ⟨_, rfl⟩
                      have tv33 := a_inc ev33 (by decide) (by omega) (by omega)
                      refine lv_iinc (v := v33) (lv' := [(4, .int (v33)), (3, .int (0)), (2, .int (x2_5)), (0, .ref (ad (1000))), (1, .ref (D.2 100 i))]) hx hb dX10_stands_103 hl (k := 1) rfl ev33.symm (by decide) rfl (fun ls hl => ?_)
                      refine lv_goto (tgt := 63) hx hb dX10_stands_106 (by decide) ?_
                      exact ih63 (v33) (0) _ _ ls (by first | omega | decide) (by first | omega | decide) (by omega) (by omega) hM hS (lv_sub hl [0, 1, 2, 3, 4] rfl)
                    · have hc32 := c32
                      have q32 := q_eq hc32
                      refine lv_iconst (v := (1)) hx hb dX10_stands_97 (by decide) ?_
                      refine lv_goto (tgt := 102) hx hb dX10_stands_98 (by decide) ?_
                      refine lv_istore_n (lv' := [(3, .int (1)), (4, .int (x4_63)), (2, .int (x2_5)), (0, .ref (ad (1000))), (1, .ref (D.2 100 i))]) hx hb dX10_stands_102 rfl hl (by decide) rfl (fun ls hl => ?_)
                      obtain ⟨v34, ev34⟩ : ∃ z : Int32, z = x4_63 + Int32.ofInt (1) := ⟨_, rfl⟩
                      have tv34 := a_inc ev34 (by decide) (by omega) (by omega)
                      refine lv_iinc (v := v34) (lv' := [(4, .int (v34)), (3, .int (1)), (2, .int (x2_5)), (0, .ref (ad (1000))), (1, .ref (D.2 100 i))]) hx hb dX10_stands_103 hl (k := 1) rfl ev34.symm (by decide) rfl (fun ls hl => ?_)
                      refine lv_goto (tgt := 63) hx hb dX10_stands_106 (by decide) ?_
                      exact ih63 (v34) (1) _ _ ls (by first | omega | decide) (by first | omega | decide) (by omega) (by omega) hM hS (lv_sub hl [0, 1, 2, 3, 4] rfl)
            exact loop63 (_ + 1) (0) (0) _ _ ls (by first | omega | decide) (by first | omega | decide) (by omega) (Nat.lt_succ_self _) hM hS (lv_sub hl [0, 1, 2, 3, 4] rfl)
          · have hc26 := c26
            have q26 := q_eq hc26
            refine lv_iconst (v := (1)) hx hb dX10_stands_54 (by decide) ?_
            refine lv_goto (tgt := 59) hx hb dX10_stands_55 (by decide) ?_
            refine lv_istore_n (lv' := [(3, .int (1)), (2, .int (x2_5)), (0, .ref (ad (1000))), (1, .ref (D.2 100 i))]) hx hb dX10_stands_59 rfl hl (by decide) rfl (fun ls hl => ?_)
            refine lv_iconst (v := (0)) hx hb dX10_stands_60 (by decide) ?_
            refine lv_istore (lv' := [(4, .int (0)), (3, .int (1)), (2, .int (x2_5)), (0, .ref (ad (1000))), (1, .ref (D.2 100 i))]) hx hb dX10_stands_61 hl (by decide) rfl (fun ls hl => ?_)
            have loop63 : ∀ (n : Nat) (x4_63 : Int32) (x3_63 : Int32) (H : Heap) (locs : List Loc) (ls : Array Slot), (0 ≤ x4_63.toInt ∧ x4_63.toInt ≤ 16) → (0 ≤ x3_63.toInt ∧ x3_63.toInt ≤ 1) → ((x3_63).toInt = 0 ∨ (x2_5).toInt - (I 1000 25).toInt = (q.2.2.2.length : Int)) → (16 - x4_63.toInt).toNat < n → Mem D A ad ns I L G H → va_S A s.heap H locs → lv_has ls 5 [(4, .int (x4_63)), (3, .int (x3_63)), (2, .int (x2_5)), (0, .ref (ad (1000))), (1, .ref (D.2 100 i))] → W p l e ({ frames := 4, cells := 0, slots := 0, locals := 85 } : Room) s m args below meth c H locs 0 0 (MQ below (va_Qi (fun r u => u = (ad, ns, I, L, G) ∧ (0 ≤ r.toInt ∧ r.toInt ≤ 1 ∧ Imp (r.toInt ≠ 0) ((I 1000 25).toInt + (q.2.2.2.length : Int) ≤ (I 1000 24).toInt))) (BM D A) A) args s 0 0 A) (F0 m 63 ls []) := by
              intro n
              induction n with
              | zero =>
                intro x4_63 x3_63 H locs ls hr4_63 hr3_63 he63 hmu
                exact absurd hmu (Nat.not_lt_zero _)
              | succ n ih63 =>
                intro x4_63 x3_63 H locs ls hr4_63 hr3_63 he63 hmu63 hM hS hl
                refine lv_iload hx hb dX10_stands_63 (lv_at hl 0 rfl) ?_
                refine lv_aload_n hx hb dX10_stands_65 rfl (lv_at hl 4 rfl) ?_
                refine m_calli (m_runVA (D.2 100 i) (As := []) (rest := [.int (x4_63)]) hx hb hml hown hts hE hM hS hA ce_J0_length_8abf5 tb_1519 (C_J0_length_8abf5 l D A ad ns I L G i _ hq hn) rfl rfl ⟨Nat.le_of_ble_eq_true rfl, Nat.le_of_ble_eq_true rfl⟩ (m_strr hE hS i hq) rfl hl.1 rfl (Nat.le_of_ble_eq_true rfl) dX10_stands_66 ⟨Nat.le_of_ble_eq_true rfl, Nat.le_of_ble_eq_true rfl⟩) hS (fun r35 u H locs hw hM hS => ?_)
                obtain ⟨rfl, rfl⟩ := hw
                have hM : Mem D A ad ns I L G H := hM
                refine lv_icmp_ge (tgt := 109) hx hb dX10_stands_69 (by decide) (fun c36 => ?_) (fun c36 => ?_)
                · have hc36 := c36
                  have q36 := q_le hc36
                  refine lv_iload_n hx hb dX10_stands_109 rfl (lv_at hl 1 rfl) ?_
                  exact m_zret hx hb hr (nar01 (by omega) (by omega)).1 hlocks hM hS (Nat.le_of_ble_eq_true rfl) (Nat.le_of_ble_eq_true rfl) ⟨rfl, ⟨by omega, by omega, fun hz => by omega⟩⟩ dX10_stands_110
                · have hc36 := c36
                  have q36 := q_nle hc36
                  refine lv_iload_n hx hb dX10_stands_72 rfl (lv_at hl 1 rfl) ?_
                  refine lv_if_eq (tgt := 109) hx hb dX10_stands_73 (by decide) (fun c37 => ?_) (fun c37 => ?_)
                  · have hc37 := c37
                    have q37 := q_eq hc37
                    refine lv_iload_n hx hb dX10_stands_109 rfl (lv_at hl 1 rfl) ?_
                    exact m_zret hx hb hr (nar01 (by omega) (by omega)).1 hlocks hM hS (Nat.le_of_ble_eq_true rfl) (Nat.le_of_ble_eq_true rfl) ⟨rfl, ⟨by omega, by omega, fun hz => by omega⟩⟩ dX10_stands_110
                  · have hc37 := c37
                    have q37 := q_ne hc37
                    refine lv_aload_n hx hb dX10_stands_76 rfl (lv_at hl 3 rfl) ?_
                    refine m_getr (1000) 34 (1034) hx hb hts hown hE oc10 hM hJ.1 rfl (by decide) rfl (hJ.2 34 (by decide)).2 (by decide) tb_1211 dX10_stands_77 ?_
                    refine lv_aload_n hx hb dX10_stands_80 rfl (lv_at hl 3 rfl) ?_
                    refine m_geti (1000) 25 hx hb hts hown hE oc10 hM hJ.1 rfl (by decide) rfl tb_1202 dX10_stands_81 ?_
                    refine lv_iload hx hb dX10_stands_84 (lv_at hl 0 rfl) ?_
                    refine lv_iadd hx hb dX10_stands_86 ?_
                    refine lv_topi (fun v38 ev38 => ?_)
                    have tv38 := a_add ev38 (by omega) (by omega)
                    refine m_bald (1034) hx hb hE hM (hJ.2 34 (by decide)).1 rfl (vp_in_iff.mpr (by omega)) dX10_stands_87 ?_
                    refine lv_aload_n hx hb dX10_stands_88 rfl (lv_at hl 4 rfl) ?_
                    refine lv_iload hx hb dX10_stands_89 (lv_at hl 0 rfl) ?_
                    refine m_calli (m_runVA (D.2 100 i) (As := [.int (x4_63)]) (rest := [.int (I (1034) (v38).toNatClampNeg)]) hx hb hml hown hts hE hM hS hA ce_J0_charAt_5068e tb_1520 (C_J0_charAt_5068e l D A ad ns I L G i _ (x4_63) hq hn (by omega)) rfl rfl ⟨Nat.le_of_ble_eq_true rfl, Nat.le_of_ble_eq_true rfl⟩ (m_strr hE hS i hq) rfl hl.1 rfl (Nat.le_of_ble_eq_true rfl) dX10_stands_91 ⟨Nat.le_of_ble_eq_true rfl, Nat.le_of_ble_eq_true rfl⟩) hS (fun r39 u H locs hw hM hS => ?_)
                    obtain ⟨rfl, xr39⟩ := hw
                    have hM : Mem D A ad ns I L G H := hM
                    have yr39 := a_and (c := 255) xr39 (by decide) (by decide)
                    refine lv_icmp_ne (tgt := 101) hx hb dX10_stands_94 (by decide) (fun c40 => ?_) (fun c40 => ?_)
                    · have hc40 := c40
                      have q40 := q_ne hc40
                      refine lv_iconst (v := (0)) hx hb dX10_stands_101 (by decide) ?_
                      refine lv_istore_n (lv' := [(3, .int (0)), (4, .int (x4_63)), (2, .int (x2_5)), (0, .ref (ad (1000))), (1, .ref (D.2 100 i))]) hx hb dX10_stands_102 rfl hl (by decide) rfl (fun ls hl => ?_)
                      obtain ⟨v41, ev41⟩ : ∃ z : Int32, z = x4_63 + Int32.ofInt (1) := ⟨_, rfl⟩
                      have tv41 := a_inc ev41 (by decide) (by omega) (by omega)
                      refine lv_iinc (v := v41) (lv' := [(4, .int (v41)), (3, .int (0)), (2, .int (x2_5)), (0, .ref (ad (1000))), (1, .ref (D.2 100 i))]) hx hb dX10_stands_103 hl (k := 1) rfl ev41.symm (by decide) rfl (fun ls hl => ?_)
                      refine lv_goto (tgt := 63) hx hb dX10_stands_106 (by decide) ?_
                      exact ih63 (v41) (0) _ _ ls (by first | omega | decide) (by first | omega | decide) (by omega) (by omega) hM hS (lv_sub hl [0, 1, 2, 3, 4] rfl)
                    · have hc40 := c40
                      have q40 := q_eq hc40
                      refine lv_iconst (v := (1)) hx hb dX10_stands_97 (by decide) ?_
                      refine lv_goto (tgt := 102) hx hb dX10_stands_98 (by decide) ?_
                      refine lv_istore_n (lv' := [(3, .int (1)), (4, .int (x4_63)), (2, .int (x2_5)), (0, .ref (ad (1000))), (1, .ref (D.2 100 i))]) hx hb dX10_stands_102 rfl hl (by decide) rfl (fun ls hl => ?_)
                      obtain ⟨v42, ev42⟩ : ∃ z : Int32, z = x4_63 + Int32.ofInt (1) := ⟨_, rfl⟩
                      have tv42 := a_inc ev42 (by decide) (by omega) (by omega)
                      refine lv_iinc (v := v42) (lv' := [(4, .int (v42)), (3, .int (1)), (2, .int (x2_5)), (0, .ref (ad (1000))), (1, .ref (D.2 100 i))]) hx hb dX10_stands_103 hl (k := 1) rfl ev42.symm (by decide) rfl (fun ls hl => ?_)
                      refine lv_goto (tgt := 63) hx hb dX10_stands_106 (by decide) ?_
                      exact ih63 (v42) (1) _ _ ls (by first | omega | decide) (by first | omega | decide) (by omega) (by omega) hM hS (lv_sub hl [0, 1, 2, 3, 4] rfl)
            exact loop63 (_ + 1) (0) (1) _ _ ls (by first | omega | decide) (by first | omega | decide) (by omega) (Nat.lt_succ_self _) hM hS (lv_sub hl [0, 1, 2, 3, 4] rfl)
        · have hc23 := c23
          have q23 := q_nlt hc23
          refine lv_aload_n hx hb dX10_stands_24 rfl (lv_at hl 1 rfl) ?_
          refine m_getr (1000) 34 (1034) hx hb hts hown hE oc10 hM hJ.1 rfl (by decide) rfl (hJ.2 34 (by decide)).2 (by decide) tb_1211 dX10_stands_25 ?_
          refine lv_iload_n hx hb dX10_stands_28 rfl (lv_at hl 0 rfl) ?_
          refine m_bald (1034) hx hb hE hM (hJ.2 34 (by decide)).1 rfl (vp_in_iff.mpr (by omega)) dX10_stands_29 ?_
          refine lv_bipush (v := (122)) hx hb dX10_stands_30 (by decide) ?_
          refine lv_icmp_gt (tgt := 41) hx hb dX10_stands_32 (by decide) (fun c43 => ?_) (fun c43 => ?_)
          · have hc43 := c43
            have q43 := q_lt hc43
            refine lv_iload_n hx hb dX10_stands_41 rfl (lv_at hl 0 rfl) ?_
            refine lv_aload_n hx hb dX10_stands_42 rfl (lv_at hl 1 rfl) ?_
            refine m_geti (1000) 25 hx hb hts hown hE oc10 hM hJ.1 rfl (by decide) rfl tb_1202 dX10_stands_43 ?_
            refine lv_isub hx hb dX10_stands_46 ?_
            refine lv_topi (fun v44 ev44 => ?_)
            have tv44 := a_sub ev44 (by omega) (by omega)
            refine lv_aload_n hx hb dX10_stands_47 rfl (lv_at hl 2 rfl) ?_
            refine m_calli (m_runVA (D.2 100 i) (As := []) (rest := [.int (v44)]) hx hb hml hown hts hE hM hS hA ce_J0_length_8abf5 tb_1519 (C_J0_length_8abf5 l D A ad ns I L G i _ hq hn) rfl rfl ⟨Nat.le_of_ble_eq_true rfl, Nat.le_of_ble_eq_true rfl⟩ (m_strr hE hS i hq) rfl hl.1 rfl (Nat.le_of_ble_eq_true rfl) dX10_stands_48 ⟨Nat.le_of_ble_eq_true rfl, Nat.le_of_ble_eq_true rfl⟩) hS (fun r45 u H locs hw hM hS => ?_)
            obtain ⟨rfl, rfl⟩ := hw
            have hM : Mem D A ad ns I L G H := hM
            refine lv_icmp_ne (tgt := 58) hx hb dX10_stands_51 (by decide) (fun c46 => ?_) (fun c46 => ?_)
            · have hc46 := c46
              have q46 := q_ne hc46
              refine lv_iconst (v := (0)) hx hb dX10_stands_58 (by decide) ?_
              refine lv_istore_n (lv' := [(3, .int (0)), (2, .int (x2_5)), (0, .ref (ad (1000))), (1, .ref (D.2 100 i))]) hx hb dX10_stands_59 rfl hl (by decide) rfl (fun ls hl => ?_)
              refine lv_iconst (v := (0)) hx hb dX10_stands_60 (by decide) ?_
              refine lv_istore (lv' := [(4, .int (0)), (3, .int (0)), (2, .int (x2_5)), (0, .ref (ad (1000))), (1, .ref (D.2 100 i))]) hx hb dX10_stands_61 hl (by decide) rfl (fun ls hl => ?_)
              have loop63 : ∀ (n : Nat) (x4_63 : Int32) (x3_63 : Int32) (H : Heap) (locs : List Loc) (ls : Array Slot), (0 ≤ x4_63.toInt ∧ x4_63.toInt ≤ 16) → (0 ≤ x3_63.toInt ∧ x3_63.toInt ≤ 1) → ((x3_63).toInt = 0 ∨ (x2_5).toInt - (I 1000 25).toInt = (q.2.2.2.length : Int)) → (16 - x4_63.toInt).toNat < n → Mem D A ad ns I L G H → va_S A s.heap H locs → lv_has ls 5 [(4, .int (x4_63)), (3, .int (x3_63)), (2, .int (x2_5)), (0, .ref (ad (1000))), (1, .ref (D.2 100 i))] → W p l e ({ frames := 4, cells := 0, slots := 0, locals := 85 } : Room) s m args below meth c H locs 0 0 (MQ below (va_Qi (fun r u => u = (ad, ns, I, L, G) ∧ (0 ≤ r.toInt ∧ r.toInt ≤ 1 ∧ Imp (r.toInt ≠ 0) ((I 1000 25).toInt + (q.2.2.2.length : Int) ≤ (I 1000 24).toInt))) (BM D A) A) args s 0 0 A) (F0 m 63 ls []) := by
                intro n
                induction n with
                | zero =>
                  intro x4_63 x3_63 H locs ls hr4_63 hr3_63 he63 hmu
                  exact absurd hmu (Nat.not_lt_zero _)
                | succ n ih63 =>
                  intro x4_63 x3_63 H locs ls hr4_63 hr3_63 he63 hmu63 hM hS hl
                  refine lv_iload hx hb dX10_stands_63 (lv_at hl 0 rfl) ?_
                  refine lv_aload_n hx hb dX10_stands_65 rfl (lv_at hl 4 rfl) ?_
                  refine m_calli (m_runVA (D.2 100 i) (As := []) (rest := [.int (x4_63)]) hx hb hml hown hts hE hM hS hA ce_J0_length_8abf5 tb_1519 (C_J0_length_8abf5 l D A ad ns I L G i _ hq hn) rfl rfl ⟨Nat.le_of_ble_eq_true rfl, Nat.le_of_ble_eq_true rfl⟩ (m_strr hE hS i hq) rfl hl.1 rfl (Nat.le_of_ble_eq_true rfl) dX10_stands_66 ⟨Nat.le_of_ble_eq_true rfl, Nat.le_of_ble_eq_true rfl⟩) hS (fun r47 u H locs hw hM hS => ?_)
                  obtain ⟨rfl, rfl⟩ := hw
                  have hM : Mem D A ad ns I L G H := hM
                  refine lv_icmp_ge (tgt := 109) hx hb dX10_stands_69 (by decide) (fun c48 => ?_) (fun c48 => ?_)
                  · have hc48 := c48
                    have q48 := q_le hc48
                    refine lv_iload_n hx hb dX10_stands_109 rfl (lv_at hl 1 rfl) ?_
                    exact m_zret hx hb hr (nar01 (by omega) (by omega)).1 hlocks hM hS (Nat.le_of_ble_eq_true rfl) (Nat.le_of_ble_eq_true rfl) ⟨rfl, ⟨by omega, by omega, fun hz => by omega⟩⟩ dX10_stands_110
                  · have hc48 := c48
                    have q48 := q_nle hc48
                    refine lv_iload_n hx hb dX10_stands_72 rfl (lv_at hl 1 rfl) ?_
                    refine lv_if_eq (tgt := 109) hx hb dX10_stands_73 (by decide) (fun c49 => ?_) (fun c49 => ?_)
                    · have hc49 := c49
                      have q49 := q_eq hc49
                      refine lv_iload_n hx hb dX10_stands_109 rfl (lv_at hl 1 rfl) ?_
                      exact m_zret hx hb hr (nar01 (by omega) (by omega)).1 hlocks hM hS (Nat.le_of_ble_eq_true rfl) (Nat.le_of_ble_eq_true rfl) ⟨rfl, ⟨by omega, by omega, fun hz => by omega⟩⟩ dX10_stands_110
                    · have hc49 := c49
                      have q49 := q_ne hc49
                      refine lv_aload_n hx hb dX10_stands_76 rfl (lv_at hl 3 rfl) ?_
                      refine m_getr (1000) 34 (1034) hx hb hts hown hE oc10 hM hJ.1 rfl (by decide) rfl (hJ.2 34 (by decide)).2 (by decide) tb_1211 dX10_stands_77 ?_
                      refine lv_aload_n hx hb dX10_stands_80 rfl (lv_at hl 3 rfl) ?_
                      refine m_geti (1000) 25 hx hb hts hown hE oc10 hM hJ.1 rfl (by decide) rfl tb_1202 dX10_stands_81 ?_
                      refine lv_iload hx hb dX10_stands_84 (lv_at hl 0 rfl) ?_
                      refine lv_iadd hx hb dX10_stands_86 ?_
                      refine lv_topi (fun v50 ev50 => ?_)
                      have tv50 := a_add ev50 (by omega) (by omega)
                      refine m_bald (1034) hx hb hE hM (hJ.2 34 (by decide)).1 rfl (vp_in_iff.mpr (by omega)) dX10_stands_87 ?_
                      refine lv_aload_n hx hb dX10_stands_88 rfl (lv_at hl 4 rfl) ?_
                      refine lv_iload hx hb dX10_stands_89 (lv_at hl 0 rfl) ?_
                      refine m_calli (m_runVA (D.2 100 i) (As := [.int (x4_63)]) (rest := [.int (I (1034) (v50).toNatClampNeg)]) hx hb hml hown hts hE hM hS hA ce_J0_charAt_5068e tb_1520 (C_J0_charAt_5068e l D A ad ns I L G i _ (x4_63) hq hn (by omega)) rfl rfl ⟨Nat.le_of_ble_eq_true rfl, Nat.le_of_ble_eq_true rfl⟩ (m_strr hE hS i hq) rfl hl.1 rfl (Nat.le_of_ble_eq_true rfl) dX10_stands_91 ⟨Nat.le_of_ble_eq_true rfl, Nat.le_of_ble_eq_true rfl⟩) hS (fun r51 u H locs hw hM hS => ?_)
                      obtain ⟨rfl, xr51⟩ := hw
                      have hM : Mem D A ad ns I L G H := hM
                      have yr51 := a_and (c := 255) xr51 (by decide) (by decide)
                      refine lv_icmp_ne (tgt := 101) hx hb dX10_stands_94 (by decide) (fun c52 => ?_) (fun c52 => ?_)
                      · have hc52 := c52
                        have q52 := q_ne hc52
                        refine lv_iconst (v := (0)) hx hb dX10_stands_101 (by decide) ?_
                        refine lv_istore_n (lv' := [(3, .int (0)), (4, .int (x4_63)), (2, .int (x2_5)), (0, .ref (ad (1000))), (1, .ref (D.2 100 i))]) hx hb dX10_stands_102 rfl hl (by decide) rfl (fun ls hl => ?_)
                        obtain ⟨v53, ev53⟩ : ∃ z : Int32, z = x4_63 + Int32.ofInt (1) := ⟨_, rfl⟩
                        have tv53 := a_inc ev53 (by decide) (by omega) (by omega)
                        refine lv_iinc (v := v53) (lv' := [(4, .int (v53)), (3, .int (0)), (2, .int (x2_5)), (0, .ref (ad (1000))), (1, .ref (D.2 100 i))]) hx hb dX10_stands_103 hl (k := 1) rfl ev53.symm (by decide) rfl (fun ls hl => ?_)
                        refine lv_goto (tgt := 63) hx hb dX10_stands_106 (by decide) ?_
                        exact ih63 (v53) (0) _ _ ls (by first | omega | decide) (by first | omega | decide) (by omega) (by omega) hM hS (lv_sub hl [0, 1, 2, 3, 4] rfl)
                      · have hc52 := c52
                        have q52 := q_eq hc52
                        refine lv_iconst (v := (1)) hx hb dX10_stands_97 (by decide) ?_
                        refine lv_goto (tgt := 102) hx hb dX10_stands_98 (by decide) ?_
                        refine lv_istore_n (lv' := [(3, .int (1)), (4, .int (x4_63)), (2, .int (x2_5)), (0, .ref (ad (1000))), (1, .ref (D.2 100 i))]) hx hb dX10_stands_102 rfl hl (by decide) rfl (fun ls hl => ?_)
                        obtain ⟨v54, ev54⟩ : ∃ z : Int32, z = x4_63 + Int32.ofInt (1) := ⟨_, rfl⟩
                        have tv54 := a_inc ev54 (by decide) (by omega) (by omega)
                        refine lv_iinc (v := v54) (lv' := [(4, .int (v54)), (3, .int (1)), (2, .int (x2_5)), (0, .ref (ad (1000))), (1, .ref (D.2 100 i))]) hx hb dX10_stands_103 hl (k := 1) rfl ev54.symm (by decide) rfl (fun ls hl => ?_)
                        refine lv_goto (tgt := 63) hx hb dX10_stands_106 (by decide) ?_
                        exact ih63 (v54) (1) _ _ ls (by first | omega | decide) (by first | omega | decide) (by omega) (by omega) hM hS (lv_sub hl [0, 1, 2, 3, 4] rfl)
              exact loop63 (_ + 1) (0) (0) _ _ ls (by first | omega | decide) (by first | omega | decide) (by omega) (Nat.lt_succ_self _) hM hS (lv_sub hl [0, 1, 2, 3, 4] rfl)
            · have hc46 := c46
              have q46 := q_eq hc46
              refine lv_iconst (v := (1)) hx hb dX10_stands_54 (by decide) ?_
              refine lv_goto (tgt := 59) hx hb dX10_stands_55 (by decide) ?_
              refine lv_istore_n (lv' := [(3, .int (1)), (2, .int (x2_5)), (0, .ref (ad (1000))), (1, .ref (D.2 100 i))]) hx hb dX10_stands_59 rfl hl (by decide) rfl (fun ls hl => ?_)
              refine lv_iconst (v := (0)) hx hb dX10_stands_60 (by decide) ?_
              refine lv_istore (lv' := [(4, .int (0)), (3, .int (1)), (2, .int (x2_5)), (0, .ref (ad (1000))), (1, .ref (D.2 100 i))]) hx hb dX10_stands_61 hl (by decide) rfl (fun ls hl => ?_)
              have loop63 : ∀ (n : Nat) (x4_63 : Int32) (x3_63 : Int32) (H : Heap) (locs : List Loc) (ls : Array Slot), (0 ≤ x4_63.toInt ∧ x4_63.toInt ≤ 16) → (0 ≤ x3_63.toInt ∧ x3_63.toInt ≤ 1) → ((x3_63).toInt = 0 ∨ (x2_5).toInt - (I 1000 25).toInt = (q.2.2.2.length : Int)) → (16 - x4_63.toInt).toNat < n → Mem D A ad ns I L G H → va_S A s.heap H locs → lv_has ls 5 [(4, .int (x4_63)), (3, .int (x3_63)), (2, .int (x2_5)), (0, .ref (ad (1000))), (1, .ref (D.2 100 i))] → W p l e ({ frames := 4, cells := 0, slots := 0, locals := 85 } : Room) s m args below meth c H locs 0 0 (MQ below (va_Qi (fun r u => u = (ad, ns, I, L, G) ∧ (0 ≤ r.toInt ∧ r.toInt ≤ 1 ∧ Imp (r.toInt ≠ 0) ((I 1000 25).toInt + (q.2.2.2.length : Int) ≤ (I 1000 24).toInt))) (BM D A) A) args s 0 0 A) (F0 m 63 ls []) := by
                intro n
                induction n with
                | zero =>
                  intro x4_63 x3_63 H locs ls hr4_63 hr3_63 he63 hmu
                  exact absurd hmu (Nat.not_lt_zero _)
                | succ n ih63 =>
                  intro x4_63 x3_63 H locs ls hr4_63 hr3_63 he63 hmu63 hM hS hl
                  refine lv_iload hx hb dX10_stands_63 (lv_at hl 0 rfl) ?_
                  refine lv_aload_n hx hb dX10_stands_65 rfl (lv_at hl 4 rfl) ?_
                  refine m_calli (m_runVA (D.2 100 i) (As := []) (rest := [.int (x4_63)]) hx hb hml hown hts hE hM hS hA ce_J0_length_8abf5 tb_1519 (C_J0_length_8abf5 l D A ad ns I L G i _ hq hn) rfl rfl ⟨Nat.le_of_ble_eq_true rfl, Nat.le_of_ble_eq_true rfl⟩ (m_strr hE hS i hq) rfl hl.1 rfl (Nat.le_of_ble_eq_true rfl) dX10_stands_66 ⟨Nat.le_of_ble_eq_true rfl, Nat.le_of_ble_eq_true rfl⟩) hS (fun r55 u H locs hw hM hS => ?_)
                  obtain ⟨rfl, rfl⟩ := hw
                  have hM : Mem D A ad ns I L G H := hM
                  refine lv_icmp_ge (tgt := 109) hx hb dX10_stands_69 (by decide) (fun c56 => ?_) (fun c56 => ?_)
                  · have hc56 := c56
                    have q56 := q_le hc56
                    refine lv_iload_n hx hb dX10_stands_109 rfl (lv_at hl 1 rfl) ?_
                    exact m_zret hx hb hr (nar01 (by omega) (by omega)).1 hlocks hM hS (Nat.le_of_ble_eq_true rfl) (Nat.le_of_ble_eq_true rfl) ⟨rfl, ⟨by omega, by omega, fun hz => by omega⟩⟩ dX10_stands_110
                  · have hc56 := c56
                    have q56 := q_nle hc56
                    refine lv_iload_n hx hb dX10_stands_72 rfl (lv_at hl 1 rfl) ?_
                    refine lv_if_eq (tgt := 109) hx hb dX10_stands_73 (by decide) (fun c57 => ?_) (fun c57 => ?_)
                    · have hc57 := c57
                      have q57 := q_eq hc57
                      refine lv_iload_n hx hb dX10_stands_109 rfl (lv_at hl 1 rfl) ?_
                      exact m_zret hx hb hr (nar01 (by omega) (by omega)).1 hlocks hM hS (Nat.le_of_ble_eq_true rfl) (Nat.le_of_ble_eq_true rfl) ⟨rfl, ⟨by omega, by omega, fun hz => by omega⟩⟩ dX10_stands_110
                    · have hc57 := c57
                      have q57 := q_ne hc57
                      refine lv_aload_n hx hb dX10_stands_76 rfl (lv_at hl 3 rfl) ?_
                      refine m_getr (1000) 34 (1034) hx hb hts hown hE oc10 hM hJ.1 rfl (by decide) rfl (hJ.2 34 (by decide)).2 (by decide) tb_1211 dX10_stands_77 ?_
                      refine lv_aload_n hx hb dX10_stands_80 rfl (lv_at hl 3 rfl) ?_
                      refine m_geti (1000) 25 hx hb hts hown hE oc10 hM hJ.1 rfl (by decide) rfl tb_1202 dX10_stands_81 ?_
                      refine lv_iload hx hb dX10_stands_84 (lv_at hl 0 rfl) ?_
                      refine lv_iadd hx hb dX10_stands_86 ?_
                      refine lv_topi (fun v58 ev58 => ?_)
                      have tv58 := a_add ev58 (by omega) (by omega)
                      refine m_bald (1034) hx hb hE hM (hJ.2 34 (by decide)).1 rfl (vp_in_iff.mpr (by omega)) dX10_stands_87 ?_
                      refine lv_aload_n hx hb dX10_stands_88 rfl (lv_at hl 4 rfl) ?_
                      refine lv_iload hx hb dX10_stands_89 (lv_at hl 0 rfl) ?_
                      refine m_calli (m_runVA (D.2 100 i) (As := [.int (x4_63)]) (rest := [.int (I (1034) (v58).toNatClampNeg)]) hx hb hml hown hts hE hM hS hA ce_J0_charAt_5068e tb_1520 (C_J0_charAt_5068e l D A ad ns I L G i _ (x4_63) hq hn (by omega)) rfl rfl ⟨Nat.le_of_ble_eq_true rfl, Nat.le_of_ble_eq_true rfl⟩ (m_strr hE hS i hq) rfl hl.1 rfl (Nat.le_of_ble_eq_true rfl) dX10_stands_91 ⟨Nat.le_of_ble_eq_true rfl, Nat.le_of_ble_eq_true rfl⟩) hS (fun r59 u H locs hw hM hS => ?_)
                      obtain ⟨rfl, xr59⟩ := hw
                      have hM : Mem D A ad ns I L G H := hM
                      have yr59 := a_and (c := 255) xr59 (by decide) (by decide)
                      refine lv_icmp_ne (tgt := 101) hx hb dX10_stands_94 (by decide) (fun c60 => ?_) (fun c60 => ?_)
                      · have hc60 := c60
                        have q60 := q_ne hc60
                        refine lv_iconst (v := (0)) hx hb dX10_stands_101 (by decide) ?_
                        refine lv_istore_n (lv' := [(3, .int (0)), (4, .int (x4_63)), (2, .int (x2_5)), (0, .ref (ad (1000))), (1, .ref (D.2 100 i))]) hx hb dX10_stands_102 rfl hl (by decide) rfl (fun ls hl => ?_)
                        obtain ⟨v61, ev61⟩ : ∃ z : Int32, z = x4_63 + Int32.ofInt (1) := ⟨_, rfl⟩
                        have tv61 := a_inc ev61 (by decide) (by omega) (by omega)
                        refine lv_iinc (v := v61) (lv' := [(4, .int (v61)), (3, .int (0)), (2, .int (x2_5)), (0, .ref (ad (1000))), (1, .ref (D.2 100 i))]) hx hb dX10_stands_103 hl (k := 1) rfl ev61.symm (by decide) rfl (fun ls hl => ?_)
                        refine lv_goto (tgt := 63) hx hb dX10_stands_106 (by decide) ?_
                        exact ih63 (v61) (0) _ _ ls (by first | omega | decide) (by first | omega | decide) (by omega) (by omega) hM hS (lv_sub hl [0, 1, 2, 3, 4] rfl)
                      · have hc60 := c60
                        have q60 := q_eq hc60
                        refine lv_iconst (v := (1)) hx hb dX10_stands_97 (by decide) ?_
                        refine lv_goto (tgt := 102) hx hb dX10_stands_98 (by decide) ?_
                        refine lv_istore_n (lv' := [(3, .int (1)), (4, .int (x4_63)), (2, .int (x2_5)), (0, .ref (ad (1000))), (1, .ref (D.2 100 i))]) hx hb dX10_stands_102 rfl hl (by decide) rfl (fun ls hl => ?_)
                        obtain ⟨v62, ev62⟩ : ∃ z : Int32, z = x4_63 + Int32.ofInt (1) := ⟨_, rfl⟩
                        have tv62 := a_inc ev62 (by decide) (by omega) (by omega)
                        refine lv_iinc (v := v62) (lv' := [(4, .int (v62)), (3, .int (1)), (2, .int (x2_5)), (0, .ref (ad (1000))), (1, .ref (D.2 100 i))]) hx hb dX10_stands_103 hl (k := 1) rfl ev62.symm (by decide) rfl (fun ls hl => ?_)
                        refine lv_goto (tgt := 63) hx hb dX10_stands_106 (by decide) ?_
                        exact ih63 (v62) (1) _ _ ls (by first | omega | decide) (by first | omega | decide) (by omega) (by omega) hM hS (lv_sub hl [0, 1, 2, 3, 4] rfl)
              exact loop63 (_ + 1) (0) (1) _ _ ls (by first | omega | decide) (by first | omega | decide) (by omega) (Nat.lt_succ_self _) hM hS (lv_sub hl [0, 1, 2, 3, 4] rfl)
          · have hc43 := c43
            have q43 := q_nlt hc43
            obtain ⟨v63, ev63⟩ : ∃ z : Int32, z = x2_5 + Int32.ofInt (1) := ⟨_, rfl⟩
            have tv63 := a_inc ev63 (by decide) (by omega) (by omega)
            refine lv_iinc (v := v63) (lv' := [(2, .int (v63)), (0, .ref (ad (1000))), (1, .ref (D.2 100 i))]) hx hb dX10_stands_35 hl (k := 0) rfl ev63.symm (by decide) rfl (fun ls hl => ?_)
            refine lv_goto (tgt := 5) hx hb dX10_stands_38 (by decide) ?_
            exact ih5 (v63) _ _ ls (by first | omega | decide) (by omega) (by omega) hM hS (lv_sub hl [0, 1, 2] rfl)
  exact loop5 (_ + 1) (I (1000) 25) _ _ ls (by first | omega | decide) (by omega) (Nat.lt_succ_self _) hM hS (lv_sub hl [0, 1, 2] rfl)
theorem dX10_takes_0 : decode cX10_takes 0 = .ok (.aload_n 0, 1) := by decide +kernel
theorem dX10_takes_1 : decode cX10_takes 1 = .ok (.invokevirtual 287, 3) := by decide +kernel
theorem dX10_takes_4 : decode cX10_takes 4 = .ok (.aload_n 0, 1) := by decide +kernel
theorem dX10_takes_5 : decode cX10_takes 5 = .ok (.aload_n 1, 1) := by decide +kernel
theorem dX10_takes_6 : decode cX10_takes 6 = .ok (.invokevirtual 290, 3) := by decide +kernel
theorem dX10_takes_9 : decode cX10_takes 9 = .ok (.istore_n 2, 1) := by decide +kernel
theorem dX10_takes_10 : decode cX10_takes 10 = .ok (.aload_n 0, 1) := by decide +kernel
theorem dX10_takes_11 : decode cX10_takes 11 = .ok (.dup, 1) := by decide +kernel
theorem dX10_takes_12 : decode cX10_takes 12 = .ok (.getfield 267, 3) := by decide +kernel
theorem dX10_takes_15 : decode cX10_takes 15 = .ok (.iload_n 2, 1) := by decide +kernel
theorem dX10_takes_16 : decode cX10_takes 16 = .ok (.ifCond .eq 10, 3) := by decide +kernel
theorem dX10_takes_19 : decode cX10_takes 19 = .ok (.aload_n 1, 1) := by decide +kernel
theorem dX10_takes_20 : decode cX10_takes 20 = .ok (.invokevirtual 278, 3) := by decide +kernel
theorem dX10_takes_23 : decode cX10_takes 23 = .ok (.goto 4, 3) := by decide +kernel
theorem dX10_takes_26 : decode cX10_takes 26 = .ok (.iconst 0, 1) := by decide +kernel
theorem dX10_takes_27 : decode cX10_takes 27 = .ok (.iadd, 1) := by decide +kernel
theorem dX10_takes_28 : decode cX10_takes 28 = .ok (.putfield 267, 3) := by decide +kernel
theorem dX10_takes_31 : decode cX10_takes 31 = .ok (.iload_n 2, 1) := by decide +kernel
theorem dX10_takes_32 : decode cX10_takes 32 = .ok (.ireturn, 1) := by decide +kernel
theorem ce_X10_takes : CeV RX10 yX10_takes cX10_takes 3 (some .boolean) 1 := ⟨tb_1575, tp_73, tb_11, tb_1576, rfl, by decide, by decide, by decide +kernel⟩
set_option maxHeartbeats 4000000 in
set_option maxRecDepth 20000 in
theorem V_X10_takes (l : Launch) (D : va_G) (A : Nat → Prop) (ad : Nat → Nat) (ns : List Nat) (I : MI) (L : ML) (G : MG) (i : Nat) (q : String × Nat × String × List Int32) (hJ : SGM ns G) (hI : INV I) (hq : sq[i]? = some q) (hn : q.2.2.2.length < 16) (hn1 : 1 ≤ q.2.2.2.length) (hp : (I 1000 25).toInt ≤ 400) : Met l yX10_takes (wd yX10_takes cX10_takes 3 (some .boolean)) ({ frames := 5, cells := 0, slots := 0, locals := 109 }) (va_Pc [.ref (ad (1000)), .ref (D.2 100 i)] (PM D A ad ns I L G)) (va_Qi (fun r u => ∃ I2 L2, u = (ad, ns, I2, L2, G) ∧ INV I2 ∧ Kp [] [(1000, 25)] I I2 ∧ (0 ≤ r.toInt ∧ r.toInt ≤ 1 ∧ (I 1000 25).toInt ≤ (I2 1000 25).toInt ∧ (I2 1000 25).toInt ≤ 400)) (BM D A) A) 0 0 A := by
  refine m_ofW (by decide) (Nat.le_of_ble_eq_true rfl) ?_
  intro p e s m below meth c ls args hC hE hM hA hS hl
  obtain ⟨hx, hb, hml, hown, hts, hr, hlocks, hin⟩ := hC
  have k0 : (0 : Int32).toInt = 0 := by decide
  have kN : (Int32.ofNat q.2.2.2.length).toInt = q.2.2.2.length := nI_toInt (by omega)
  have hK : Kp [] [(1000, 25)] I I := Kp.rf
  have hl : lv_has ls 3 [(0, .ref (ad (1000))), (1, .ref (D.2 100 i))] := hl
  refine lv_aload_n hx hb dX10_takes_0 rfl (lv_at hl 0 rfl) ?_
  refine m_callv (m_runV (1000) (As := []) (rest := []) hx hb hml hown hts hE hM hS hA ce_X10_blanks tb_1506 (V_X10_blanks l D A ad ns I L G hJ hI (by omega)) rfl rfl ⟨Nat.le_of_ble_eq_true rfl, Nat.le_of_ble_eq_true rfl⟩ hJ.1 rfl rfl (by decide) rfl hl.1 rfl (Nat.le_of_ble_eq_true rfl) dX10_takes_1 ⟨Nat.le_of_ble_eq_true rfl, Nat.le_of_ble_eq_true rfl⟩) hS (fun u H locs hw hM hS => ?_)
  obtain ⟨I1, L2, rfl, hI, hkI1, xI1⟩ := hw
  have hM : Mem D A ad ns I1 L2 G H := hM
  have hK := hK.trans hkI1 rfl
  have pw3 : (I1 (1000) 24).toInt = (I (1000) 24 : Int32).toInt := congrArg Int32.toInt ((hkI1.get (1000) 24 rfl))
  have pw4 : (I1 (1000) 26).toInt = (I (1000) 26 : Int32).toInt := congrArg Int32.toInt ((hkI1.get (1000) 26 rfl))
  have pw5 : (I1 (1000) 27).toInt = (I (1000) 27 : Int32).toInt := congrArg Int32.toInt ((hkI1.get (1000) 27 rfl))
  have pw6 : (I1 (1000) 29).toInt = (I (1000) 29 : Int32).toInt := congrArg Int32.toInt ((hkI1.get (1000) 29 rfl))
  have pw7 : (I1 (1000) 31).toInt = (I (1000) 31 : Int32).toInt := congrArg Int32.toInt ((hkI1.get (1000) 31 rfl))
  have pw8 : (I1 (1000) 32).toInt = (I (1000) 32 : Int32).toInt := congrArg Int32.toInt ((hkI1.get (1000) 32 rfl))
  refine lv_aload_n hx hb dX10_takes_4 rfl (lv_at hl 0 rfl) ?_
  refine lv_aload_n hx hb dX10_takes_5 rfl (lv_at hl 1 rfl) ?_
  refine m_calli (m_runV (1000) (As := [.ref (D.2 100 i)]) (rest := []) hx hb hml hown hts hE hM hS hA ce_X10_stands tb_1515 (V_X10_stands l D A ad ns I1 L2 G i _ hJ hI hq hn hn1) rfl rfl ⟨Nat.le_of_ble_eq_true rfl, Nat.le_of_ble_eq_true rfl⟩ hJ.1 rfl rfl (by decide) rfl hl.1 rfl (Nat.le_of_ble_eq_true rfl) dX10_takes_6 ⟨Nat.le_of_ble_eq_true rfl, Nat.le_of_ble_eq_true rfl⟩) hS (fun r9 u H locs hw hM hS => ?_)
  obtain ⟨rfl, xr9⟩ := hw
  have hM : Mem D A ad ns I1 L2 G H := hM
  have g10 := hI.get 1000 24 (lo := 0) (hi := 400) rfl
  have g11 := hI.get 1000 25 (lo := 0) (hi := 100000) rfl
  refine lv_istore_n (lv' := [(2, .int (r9)), (0, .ref (ad (1000))), (1, .ref (D.2 100 i))]) hx hb dX10_takes_9 rfl hl (by decide) rfl (fun ls hl => ?_)
  refine lv_aload_n hx hb dX10_takes_10 rfl (lv_at hl 1 rfl) ?_
  refine lv_dup hx hb dX10_takes_11 rfl ?_
  refine m_geti (1000) 25 hx hb hts hown hE oc10 hM hJ.1 rfl (by decide) rfl tb_1202 dX10_takes_12 ?_
  have g12 := hI.get (1000) 25 (lo := 0) (hi := 100000) rfl
  refine lv_iload_n hx hb dX10_takes_15 rfl (lv_at hl 0 rfl) ?_
  refine lv_if_eq (tgt := 26) hx hb dX10_takes_16 (by decide) (fun c13 => ?_) (fun c13 => ?_)
  · have hc13 := c13
    have q13 := q_eq hc13
    refine lv_iconst (v := (0)) hx hb dX10_takes_26 (by decide) ?_
    refine lv_iadd hx hb dX10_takes_27 ?_
    refine lv_topi (fun v14 ev14 => ?_)
    have tv14 := a_add ev14 (by omega) (by omega)
    refine m_puti (1000) 25 hx hb hts hown hE oc10 hM hS hJ.1 rfl (by decide) rfl rfl rfl rfl tb_1202 dX10_takes_28 (fun H locs I15 eI15 hM hS => ?_)
    subst eI15
    have hI := hI.put (n := 1000) (k := 25) (v := v14) (lo := 0) (hi := 100000) rfl (by first | omega | decide)
    have hK := hK.put (n := 1000) (k := 25) (v := v14) (by first | rfl | simp [inR])
    refine lv_iload_n hx hb dX10_takes_31 rfl (lv_at hl 0 rfl) ?_
    have pw16 : ((u2 I1 (1000) 25 (v14)) (1000) 24).toInt = (I (1000) 24 : Int32).toInt := congrArg Int32.toInt (((show (u2 I1 (1000) 25 (v14)) (1000) 24 = I1 (1000) 24 from by simp [u2_v])).trans (hkI1.get (1000) 24 rfl))
    have pw17 : ((u2 I1 (1000) 25 (v14)) (1000) 25).toInt = (v14 : Int32).toInt := congrArg Int32.toInt ((show (u2 I1 (1000) 25 (v14)) (1000) 25 = v14 from by simp [u2_v]))
    have pw18 : ((u2 I1 (1000) 25 (v14)) (1000) 26).toInt = (I (1000) 26 : Int32).toInt := congrArg Int32.toInt (((show (u2 I1 (1000) 25 (v14)) (1000) 26 = I1 (1000) 26 from by simp [u2_v])).trans (hkI1.get (1000) 26 rfl))
    have pw19 : ((u2 I1 (1000) 25 (v14)) (1000) 27).toInt = (I (1000) 27 : Int32).toInt := congrArg Int32.toInt (((show (u2 I1 (1000) 25 (v14)) (1000) 27 = I1 (1000) 27 from by simp [u2_v])).trans (hkI1.get (1000) 27 rfl))
    have pw20 : ((u2 I1 (1000) 25 (v14)) (1000) 29).toInt = (I (1000) 29 : Int32).toInt := congrArg Int32.toInt (((show (u2 I1 (1000) 25 (v14)) (1000) 29 = I1 (1000) 29 from by simp [u2_v])).trans (hkI1.get (1000) 29 rfl))
    have pw21 : ((u2 I1 (1000) 25 (v14)) (1000) 31).toInt = (I (1000) 31 : Int32).toInt := congrArg Int32.toInt (((show (u2 I1 (1000) 25 (v14)) (1000) 31 = I1 (1000) 31 from by simp [u2_v])).trans (hkI1.get (1000) 31 rfl))
    have pw22 : ((u2 I1 (1000) 25 (v14)) (1000) 32).toInt = (I (1000) 32 : Int32).toInt := congrArg Int32.toInt (((show (u2 I1 (1000) 25 (v14)) (1000) 32 = I1 (1000) 32 from by simp [u2_v])).trans (hkI1.get (1000) 32 rfl))
    exact m_zret hx hb hr (nar01 (by omega) (by omega)).1 hlocks hM hS (Nat.le_of_ble_eq_true rfl) (Nat.le_of_ble_eq_true rfl) ⟨_, _, rfl, hI, hK, (by omega)⟩ dX10_takes_32
  · have hc13 := c13
    have q13 := q_ne hc13
    have sg23 := xr9.2.2 (by omega)
    refine lv_aload_n hx hb dX10_takes_19 rfl (lv_at hl 2 rfl) ?_
    refine m_calli (m_runVA (D.2 100 i) (As := []) (rest := [.int (I1 (1000) 25), .ref (ad (1000))]) hx hb hml hown hts hE hM hS hA ce_J0_length_8abf5 tb_1519 (C_J0_length_8abf5 l D A ad ns I1 L2 G i _ hq hn) rfl rfl ⟨Nat.le_of_ble_eq_true rfl, Nat.le_of_ble_eq_true rfl⟩ (m_strr hE hS i hq) rfl hl.1 rfl (Nat.le_of_ble_eq_true rfl) dX10_takes_20 ⟨Nat.le_of_ble_eq_true rfl, Nat.le_of_ble_eq_true rfl⟩) hS (fun r24 u H locs hw hM hS => ?_)
    obtain ⟨rfl, rfl⟩ := hw
    have hM : Mem D A ad ns I1 L2 G H := hM
    refine lv_goto (tgt := 27) hx hb dX10_takes_23 (by decide) ?_
    refine lv_iadd hx hb dX10_takes_27 ?_
    refine lv_topi (fun v25 ev25 => ?_)
    have tv25 := a_add ev25 (by omega) (by omega)
    refine m_puti (1000) 25 hx hb hts hown hE oc10 hM hS hJ.1 rfl (by decide) rfl rfl rfl rfl tb_1202 dX10_takes_28 (fun H locs I26 eI26 hM hS => ?_)
    subst eI26
    have hI := hI.put (n := 1000) (k := 25) (v := v25) (lo := 0) (hi := 100000) rfl (by first | omega | decide)
    have hK := hK.put (n := 1000) (k := 25) (v := v25) (by first | rfl | simp [inR])
    refine lv_iload_n hx hb dX10_takes_31 rfl (lv_at hl 0 rfl) ?_
    have pw27 : ((u2 I1 (1000) 25 (v25)) (1000) 24).toInt = (I (1000) 24 : Int32).toInt := congrArg Int32.toInt (((show (u2 I1 (1000) 25 (v25)) (1000) 24 = I1 (1000) 24 from by simp [u2_v])).trans (hkI1.get (1000) 24 rfl))
    have pw28 : ((u2 I1 (1000) 25 (v25)) (1000) 25).toInt = (v25 : Int32).toInt := congrArg Int32.toInt ((show (u2 I1 (1000) 25 (v25)) (1000) 25 = v25 from by simp [u2_v]))
    have pw29 : ((u2 I1 (1000) 25 (v25)) (1000) 26).toInt = (I (1000) 26 : Int32).toInt := congrArg Int32.toInt (((show (u2 I1 (1000) 25 (v25)) (1000) 26 = I1 (1000) 26 from by simp [u2_v])).trans (hkI1.get (1000) 26 rfl))
    have pw30 : ((u2 I1 (1000) 25 (v25)) (1000) 27).toInt = (I (1000) 27 : Int32).toInt := congrArg Int32.toInt (((show (u2 I1 (1000) 25 (v25)) (1000) 27 = I1 (1000) 27 from by simp [u2_v])).trans (hkI1.get (1000) 27 rfl))
    have pw31 : ((u2 I1 (1000) 25 (v25)) (1000) 29).toInt = (I (1000) 29 : Int32).toInt := congrArg Int32.toInt (((show (u2 I1 (1000) 25 (v25)) (1000) 29 = I1 (1000) 29 from by simp [u2_v])).trans (hkI1.get (1000) 29 rfl))
    have pw32 : ((u2 I1 (1000) 25 (v25)) (1000) 31).toInt = (I (1000) 31 : Int32).toInt := congrArg Int32.toInt (((show (u2 I1 (1000) 25 (v25)) (1000) 31 = I1 (1000) 31 from by simp [u2_v])).trans (hkI1.get (1000) 31 rfl))
    have pw33 : ((u2 I1 (1000) 25 (v25)) (1000) 32).toInt = (I (1000) 32 : Int32).toInt := congrArg Int32.toInt (((show (u2 I1 (1000) 25 (v25)) (1000) 32 = I1 (1000) 32 from by simp [u2_v])).trans (hkI1.get (1000) 32 rfl))
    exact m_zret hx hb hr (nar01 (by omega) (by omega)).1 hlocks hM hS (Nat.le_of_ble_eq_true rfl) (Nat.le_of_ble_eq_true rfl) ⟨_, _, rfl, hI, hK, (by omega)⟩ dX10_takes_32
def wi (k : Nat) : Nat := match k with | 0 => 11 | 1 => 12 | 2 => 13 | 3 => 14 | 4 => 15 | 5 => 16 | 6 => 17 | 7 => 18 | 8 => 19 | 9 => 20 | 10 => 21 | 11 => 22 | _ => 23
theorem dX10_wordOf_0 : decode cX10_wordOf 0 = .ok (.iload_n 0, 1) := by decide +kernel
theorem dX10_wordOf_1 : decode cX10_wordOf 1 = .ok (.tableswitch 102 0 11 #[63, 66, 69, 72, 75, 78, 81, 84, 87, 90, 94, 98], 63) := by decide +kernel
theorem dX10_wordOf_64 : decode cX10_wordOf 64 = .ok (.ldc 239, 2) := by decide +kernel
theorem dX10_wordOf_66 : decode cX10_wordOf 66 = .ok (.areturn, 1) := by decide +kernel
theorem dX10_wordOf_67 : decode cX10_wordOf 67 = .ok (.ldc 241, 2) := by decide +kernel
theorem dX10_wordOf_69 : decode cX10_wordOf 69 = .ok (.areturn, 1) := by decide +kernel
theorem dX10_wordOf_70 : decode cX10_wordOf 70 = .ok (.ldc 243, 2) := by decide +kernel
theorem dX10_wordOf_72 : decode cX10_wordOf 72 = .ok (.areturn, 1) := by decide +kernel
theorem dX10_wordOf_73 : decode cX10_wordOf 73 = .ok (.ldc 245, 2) := by decide +kernel
theorem dX10_wordOf_75 : decode cX10_wordOf 75 = .ok (.areturn, 1) := by decide +kernel
theorem dX10_wordOf_76 : decode cX10_wordOf 76 = .ok (.ldc 246, 2) := by decide +kernel
theorem dX10_wordOf_78 : decode cX10_wordOf 78 = .ok (.areturn, 1) := by decide +kernel
theorem dX10_wordOf_79 : decode cX10_wordOf 79 = .ok (.ldc 248, 2) := by decide +kernel
theorem dX10_wordOf_81 : decode cX10_wordOf 81 = .ok (.areturn, 1) := by decide +kernel
theorem dX10_wordOf_82 : decode cX10_wordOf 82 = .ok (.ldc 250, 2) := by decide +kernel
theorem dX10_wordOf_84 : decode cX10_wordOf 84 = .ok (.areturn, 1) := by decide +kernel
theorem dX10_wordOf_85 : decode cX10_wordOf 85 = .ok (.ldc 252, 2) := by decide +kernel
theorem dX10_wordOf_87 : decode cX10_wordOf 87 = .ok (.areturn, 1) := by decide +kernel
theorem dX10_wordOf_88 : decode cX10_wordOf 88 = .ok (.ldc 254, 2) := by decide +kernel
theorem dX10_wordOf_90 : decode cX10_wordOf 90 = .ok (.areturn, 1) := by decide +kernel
theorem dX10_wordOf_91 : decode cX10_wordOf 91 = .ok (.ldc_w 256, 3) := by decide +kernel
theorem dX10_wordOf_94 : decode cX10_wordOf 94 = .ok (.areturn, 1) := by decide +kernel
theorem dX10_wordOf_95 : decode cX10_wordOf 95 = .ok (.ldc_w 258, 3) := by decide +kernel
theorem dX10_wordOf_98 : decode cX10_wordOf 98 = .ok (.areturn, 1) := by decide +kernel
theorem dX10_wordOf_99 : decode cX10_wordOf 99 = .ok (.ldc_w 260, 3) := by decide +kernel
theorem dX10_wordOf_102 : decode cX10_wordOf 102 = .ok (.areturn, 1) := by decide +kernel
theorem dX10_wordOf_103 : decode cX10_wordOf 103 = .ok (.ldc_w 262, 3) := by decide +kernel
theorem dX10_wordOf_106 : decode cX10_wordOf 106 = .ok (.areturn, 1) := by decide +kernel
theorem ce_X10_wordOf : CeS yX10_wordOf cX10_wordOf 1 (some (.object "java/lang/String")) 1 := ⟨tb_1557, tb_11, tb_1558, by decide, by decide, by decide +kernel⟩
set_option maxHeartbeats 4000000 in
set_option maxRecDepth 20000 in
theorem V_X10_wordOf (l : Launch) (D : va_G) (A : Nat → Prop) (ad : Nat → Nat) (ns : List Nat) (I : MI) (L : ML) (G : MG) (a0 : Int32) (hI : INV I) (ha0 : 0 ≤ a0.toInt ∧ a0.toInt ≤ 12) : Met l yX10_wordOf (wd yX10_wordOf cX10_wordOf 1 (some (.object "java/lang/String"))) ({ frames := 0, cells := 0, slots := 0, locals := 0 }) (va_Pc [.int a0] (PM D A ad ns I L G)) (va_Qq (fun r u => u = (ad, ns, I, L, G) ∧ (∃ q, r = some (D.2 100 (wi (a0).toNatClampNeg)) ∧ sq[wi (a0).toNatClampNeg]? = some q ∧ 1 ≤ q.2.2.2.length ∧ q.2.2.2.length ≤ 5)) (BM D A) A) 0 0 A := by
  refine m_ofW (by decide) (Nat.le_of_ble_eq_true rfl) ?_
  intro p e s m below meth c ls args hC hE hM hA hS hl
  obtain ⟨hx, hb, hml, hown, hts, hr, hlocks, hin⟩ := hC
  have k0 : (0 : Int32).toInt = 0 := by decide
  have hl : lv_has ls 1 [(0, .int (a0))] := hl
  refine lv_iload_n hx hb dX10_wordOf_0 rfl (lv_at hl 0 rfl) ?_
  by_cases c1 : (a0).toInt < 0 ∨ 11 < (a0).toInt
  · refine lv_tableOut (tgt := 103) hx hb dX10_wordOf_1 c1 (by decide) ?_
    refine m_ldcwS hx hb hown (EV.str hE 23 rfl).1 dX10_wordOf_103 ?_
    exact m_aret (r := some (D.2 100 23)) hx hb hr ⟨_, rfl⟩ hlocks hM hS (Nat.le_of_ble_eq_true rfl) (Nat.le_of_ble_eq_true rfl) ⟨rfl, ⟨_, (by rw [show (a0).toNatClampNeg = 12 from cl_of (by omega)]; rfl), (by rw [show (a0).toNatClampNeg = 12 from cl_of (by omega)]; rfl), by decide, by decide⟩⟩ dX10_wordOf_106
  · have qc1 : (a0).toInt = 0 ∨ (a0).toInt = 1 ∨ (a0).toInt = 2 ∨ (a0).toInt = 3 ∨ (a0).toInt = 4 ∨ (a0).toInt = 5 ∨ (a0).toInt = 6 ∨ (a0).toInt = 7 ∨ (a0).toInt = 8 ∨ (a0).toInt = 9 ∨ (a0).toInt = 10 ∨ (a0).toInt = 11 := by omega
    rcases qc1 with qc1 | qc1 | qc1 | qc1 | qc1 | qc1 | qc1 | qc1 | qc1 | qc1 | qc1 | qc1
    · refine lv_tableIn (off := 63) (tgt := 64) hx hb dX10_wordOf_1 (by omega) (by omega) (by rw [qc1]; rfl) (by decide) ?_
      refine va_ldcS hx hb hown (EV.str hE 11 rfl).1 dX10_wordOf_64 ?_
      exact m_aret (r := some (D.2 100 11)) hx hb hr ⟨_, rfl⟩ hlocks hM hS (Nat.le_of_ble_eq_true rfl) (Nat.le_of_ble_eq_true rfl) ⟨rfl, ⟨_, (by rw [show (a0).toNatClampNeg = 0 from cl_of (by omega)]; rfl), (by rw [show (a0).toNatClampNeg = 0 from cl_of (by omega)]; rfl), by decide, by decide⟩⟩ dX10_wordOf_66
    · refine lv_tableIn (off := 66) (tgt := 67) hx hb dX10_wordOf_1 (by omega) (by omega) (by rw [qc1]; rfl) (by decide) ?_
      refine va_ldcS hx hb hown (EV.str hE 12 rfl).1 dX10_wordOf_67 ?_
      exact m_aret (r := some (D.2 100 12)) hx hb hr ⟨_, rfl⟩ hlocks hM hS (Nat.le_of_ble_eq_true rfl) (Nat.le_of_ble_eq_true rfl) ⟨rfl, ⟨_, (by rw [show (a0).toNatClampNeg = 1 from cl_of (by omega)]; rfl), (by rw [show (a0).toNatClampNeg = 1 from cl_of (by omega)]; rfl), by decide, by decide⟩⟩ dX10_wordOf_69
    · refine lv_tableIn (off := 69) (tgt := 70) hx hb dX10_wordOf_1 (by omega) (by omega) (by rw [qc1]; rfl) (by decide) ?_
      refine va_ldcS hx hb hown (EV.str hE 13 rfl).1 dX10_wordOf_70 ?_
      exact m_aret (r := some (D.2 100 13)) hx hb hr ⟨_, rfl⟩ hlocks hM hS (Nat.le_of_ble_eq_true rfl) (Nat.le_of_ble_eq_true rfl) ⟨rfl, ⟨_, (by rw [show (a0).toNatClampNeg = 2 from cl_of (by omega)]; rfl), (by rw [show (a0).toNatClampNeg = 2 from cl_of (by omega)]; rfl), by decide, by decide⟩⟩ dX10_wordOf_72
    · refine lv_tableIn (off := 72) (tgt := 73) hx hb dX10_wordOf_1 (by omega) (by omega) (by rw [qc1]; rfl) (by decide) ?_
      refine va_ldcS hx hb hown (EV.str hE 14 rfl).1 dX10_wordOf_73 ?_
      exact m_aret (r := some (D.2 100 14)) hx hb hr ⟨_, rfl⟩ hlocks hM hS (Nat.le_of_ble_eq_true rfl) (Nat.le_of_ble_eq_true rfl) ⟨rfl, ⟨_, (by rw [show (a0).toNatClampNeg = 3 from cl_of (by omega)]; rfl), (by rw [show (a0).toNatClampNeg = 3 from cl_of (by omega)]; rfl), by decide, by decide⟩⟩ dX10_wordOf_75
    · refine lv_tableIn (off := 75) (tgt := 76) hx hb dX10_wordOf_1 (by omega) (by omega) (by rw [qc1]; rfl) (by decide) ?_
      refine va_ldcS hx hb hown (EV.str hE 15 rfl).1 dX10_wordOf_76 ?_
      exact m_aret (r := some (D.2 100 15)) hx hb hr ⟨_, rfl⟩ hlocks hM hS (Nat.le_of_ble_eq_true rfl) (Nat.le_of_ble_eq_true rfl) ⟨rfl, ⟨_, (by rw [show (a0).toNatClampNeg = 4 from cl_of (by omega)]; rfl), (by rw [show (a0).toNatClampNeg = 4 from cl_of (by omega)]; rfl), by decide, by decide⟩⟩ dX10_wordOf_78
    · refine lv_tableIn (off := 78) (tgt := 79) hx hb dX10_wordOf_1 (by omega) (by omega) (by rw [qc1]; rfl) (by decide) ?_
      refine va_ldcS hx hb hown (EV.str hE 16 rfl).1 dX10_wordOf_79 ?_
      exact m_aret (r := some (D.2 100 16)) hx hb hr ⟨_, rfl⟩ hlocks hM hS (Nat.le_of_ble_eq_true rfl) (Nat.le_of_ble_eq_true rfl) ⟨rfl, ⟨_, (by rw [show (a0).toNatClampNeg = 5 from cl_of (by omega)]; rfl), (by rw [show (a0).toNatClampNeg = 5 from cl_of (by omega)]; rfl), by decide, by decide⟩⟩ dX10_wordOf_81
    · refine lv_tableIn (off := 81) (tgt := 82) hx hb dX10_wordOf_1 (by omega) (by omega) (by rw [qc1]; rfl) (by decide) ?_
      refine va_ldcS hx hb hown (EV.str hE 17 rfl).1 dX10_wordOf_82 ?_
      exact m_aret (r := some (D.2 100 17)) hx hb hr ⟨_, rfl⟩ hlocks hM hS (Nat.le_of_ble_eq_true rfl) (Nat.le_of_ble_eq_true rfl) ⟨rfl, ⟨_, (by rw [show (a0).toNatClampNeg = 6 from cl_of (by omega)]; rfl), (by rw [show (a0).toNatClampNeg = 6 from cl_of (by omega)]; rfl), by decide, by decide⟩⟩ dX10_wordOf_84
    · refine lv_tableIn (off := 84) (tgt := 85) hx hb dX10_wordOf_1 (by omega) (by omega) (by rw [qc1]; rfl) (by decide) ?_
      refine va_ldcS hx hb hown (EV.str hE 18 rfl).1 dX10_wordOf_85 ?_
      exact m_aret (r := some (D.2 100 18)) hx hb hr ⟨_, rfl⟩ hlocks hM hS (Nat.le_of_ble_eq_true rfl) (Nat.le_of_ble_eq_true rfl) ⟨rfl, ⟨_, (by rw [show (a0).toNatClampNeg = 7 from cl_of (by omega)]; rfl), (by rw [show (a0).toNatClampNeg = 7 from cl_of (by omega)]; rfl), by decide, by decide⟩⟩ dX10_wordOf_87
    · refine lv_tableIn (off := 87) (tgt := 88) hx hb dX10_wordOf_1 (by omega) (by omega) (by rw [qc1]; rfl) (by decide) ?_
      refine va_ldcS hx hb hown (EV.str hE 19 rfl).1 dX10_wordOf_88 ?_
      exact m_aret (r := some (D.2 100 19)) hx hb hr ⟨_, rfl⟩ hlocks hM hS (Nat.le_of_ble_eq_true rfl) (Nat.le_of_ble_eq_true rfl) ⟨rfl, ⟨_, (by rw [show (a0).toNatClampNeg = 8 from cl_of (by omega)]; rfl), (by rw [show (a0).toNatClampNeg = 8 from cl_of (by omega)]; rfl), by decide, by decide⟩⟩ dX10_wordOf_90
    · refine lv_tableIn (off := 90) (tgt := 91) hx hb dX10_wordOf_1 (by omega) (by omega) (by rw [qc1]; rfl) (by decide) ?_
      refine m_ldcwS hx hb hown (EV.str hE 20 rfl).1 dX10_wordOf_91 ?_
      exact m_aret (r := some (D.2 100 20)) hx hb hr ⟨_, rfl⟩ hlocks hM hS (Nat.le_of_ble_eq_true rfl) (Nat.le_of_ble_eq_true rfl) ⟨rfl, ⟨_, (by rw [show (a0).toNatClampNeg = 9 from cl_of (by omega)]; rfl), (by rw [show (a0).toNatClampNeg = 9 from cl_of (by omega)]; rfl), by decide, by decide⟩⟩ dX10_wordOf_94
    · refine lv_tableIn (off := 94) (tgt := 95) hx hb dX10_wordOf_1 (by omega) (by omega) (by rw [qc1]; rfl) (by decide) ?_
      refine m_ldcwS hx hb hown (EV.str hE 21 rfl).1 dX10_wordOf_95 ?_
      exact m_aret (r := some (D.2 100 21)) hx hb hr ⟨_, rfl⟩ hlocks hM hS (Nat.le_of_ble_eq_true rfl) (Nat.le_of_ble_eq_true rfl) ⟨rfl, ⟨_, (by rw [show (a0).toNatClampNeg = 10 from cl_of (by omega)]; rfl), (by rw [show (a0).toNatClampNeg = 10 from cl_of (by omega)]; rfl), by decide, by decide⟩⟩ dX10_wordOf_98
    · refine lv_tableIn (off := 98) (tgt := 99) hx hb dX10_wordOf_1 (by omega) (by omega) (by rw [qc1]; rfl) (by decide) ?_
      refine m_ldcwS hx hb hown (EV.str hE 22 rfl).1 dX10_wordOf_99 ?_
      exact m_aret (r := some (D.2 100 22)) hx hb hr ⟨_, rfl⟩ hlocks hM hS (Nat.le_of_ble_eq_true rfl) (Nat.le_of_ble_eq_true rfl) ⟨rfl, ⟨_, (by rw [show (a0).toNatClampNeg = 11 from cl_of (by omega)]; rfl), (by rw [show (a0).toNatClampNeg = 11 from cl_of (by omega)]; rfl), by decide, by decide⟩⟩ dX10_wordOf_102
