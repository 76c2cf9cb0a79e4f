-- the reference turns mirror by mirror; what it answers of codes
noncomputable def trK (V : VW) (h : Int32) (g : Nat → Int32) (L : LWt) (k : Nat) : VW := fun m j => if m = 9 ∧ j < k then slA V h g L j (L 0 5).toNatClampNeg else V m j
theorem trK_ne {V : VW} {h : Int32} {g : Nat → Int32} {L : LWt} {k m j : Nat} (hm : m ≠ 9) : trK V h g L k m j = V m j := if_neg (fun z => hm z.1)
theorem trK_0 {V : VW} {h : Int32} {g : Nat → Int32} {L : LWt} : trK V h g L 0 = V := funext fun _ => funext fun _ => if_neg (fun z => absurd z.2 (Nat.not_lt_zero _))
theorem trK_at {V : VW} {h : Int32} {g : Nat → Int32} {L : LWt} {k : Nat} : trK V h g L k 9 k = V 9 k := if_neg (fun z => absurd z.2 (Nat.lt_irrefl _))
theorem trK_fin {V : VW} {h : Int32} {g : Nat → Int32} {L : LWt} {k : Nat} (hk : k = (V 1 8).toNatClampNeg) : trK V h g L k = trV V h g L := by
  subst hk
  rfl
theorem trK_env {V : VW} {h : Int32} {g : Nat → Int32} {L : LWt} {k : Nat} : ∀ j, envV (trK V h g L k) h g k j = envV V h g k j := by
  intro j
  match j with
  | 0 => rfl
  | 1 => show (trK V h g L k 1 5).toInt64 = _; rw [trK_ne (by decide)]; rfl
  | 2 => show (trK V h g L k 1 6).toInt64 = _; rw [trK_ne (by decide)]; rfl
  | 3 => show (trK V h g L k 9 k).toInt64 = _; rw [trK_at]; rfl
  | 4 =>
    have hw : wyV (trK V h g L k) h = wyV V h := by
      unfold wyV sunI
      rw [trK_ne (by decide), trK_ne (by decide)]
    show (if (wyV (trK V h g L k) h).toInt = -1 then 8 else (wyV (trK V h g L k) h).toInt64) = (if (wyV V h).toInt = -1 then (8 : Int64) else (wyV V h).toInt64)
    rw [hw]
  | j + 5 => rfl
theorem trK_step {V : VW} {h : Int32} {g g2 : Nat → Int32} {L : LWt} {k : Nat} {J J2 : MI} (e : EqV (trK V h g L k) (live J)) (hg : ∀ j, j < 8 → g2 j = g j) (hk : k < 24) (h5 : 0 ≤ (V 1 5).toInt ∧ (V 1 5).toInt ≤ 11) (hh : 0 ≤ h.toInt ∧ h.toInt < 24) (e2 : EqV (stV (live J) 9 k (slA (live J) h g2 L k (L 0 5).toNatClampNeg)) (live J2)) : EqV (trK V h g L (k + 1)) (live J2) := by
  have h5' : 0 ≤ (trK V h g L k 1 5).toInt ∧ (trK V h g L k 1 5).toInt ≤ 11 := by rw [trK_ne (by decide)]; exact h5
  have hs : slA (live J) h g2 L k (L 0 5).toNatClampNeg = slA V h g L k (L 0 5).toNatClampNeg := by
    refine slA_eq (fun j hj => (env_eq e hg hk h5' hh j hj).trans (trK_env j)) ?_ ?_
    · rw [e 9 k (by decide) (by decide) hk, trK_at]
    · rw [e 12 k (by decide) (by decide) hk, trK_ne (by decide)]
  rw [hs] at e2
  intro m j h1 h2 hj
  rw [e2 m j h1 h2 hj]
  unfold stV
  by_cases hq : m = 9 ∧ j = k
  · obtain ⟨rfl, rfl⟩ := hq
    rw [if_pos ⟨rfl, rfl⟩]
    unfold trK
    rw [if_pos ⟨rfl, Nat.lt_succ_self _⟩]
  · rw [if_neg hq, e m j h1 h2 hj]
    unfold trK
    by_cases hz : m = 9 ∧ j < k
    · rw [if_pos hz, if_pos ⟨hz.1, by omega⟩]
    · rw [if_neg hz, if_neg (fun z => by omega)]
theorem RKw.tK {V : VW} {h : Int32} {g : Nat → Int32} {L : LWt} {k : Nat} (hV : RKw V) : RKw (trK V h g L k) := by
  obtain ⟨h1, h8, h9, h10, h11⟩ := hV
  refine ⟨h1, h8, h9, fun j hj => ?_, h11⟩
  obtain ⟨g1, g2⟩ := h10 j hj
  refine ⟨?_, g2⟩
  unfold trK
  split
  · exact slA_r g1
  · exact g1
-- a day's end, mirror by mirror and yard by yard
def e14 (V : VW) (k : Nat) : VW := fun m j => if m = 14 ∧ j < k then dst (V 14 j) (V 1 7) else V m j
def e23 (V : VW) (g : Nat → Int32) (k : Nat) : VW := fun m j => if m = 23 ∧ j < k then g j else V m j
theorem e14_0 {V : VW} : e14 V 0 = V := funext fun _ => funext fun _ => if_neg (fun z => absurd z.2 (Nat.not_lt_zero _))
theorem e23_0 {V : VW} {g : Nat → Int32} : e23 V g 0 = V := funext fun _ => funext fun _ => if_neg (fun z => absurd z.2 (Nat.not_lt_zero _))
theorem e14_at {V : VW} {k : Nat} : e14 V k 14 k = V 14 k := if_neg (fun z => absurd z.2 (Nat.lt_irrefl _))
theorem e14_ne {V : VW} {k m j : Nat} (hm : m ≠ 14) : e14 V k m j = V m j := if_neg (fun z => hm z.1)
theorem e23_ne {V : VW} {g : Nat → Int32} {k m j : Nat} (hm : m ≠ 23) : e23 V g k m j = V m j := if_neg (fun z => hm z.1)
theorem e14_step {V X W : VW} {k : Nat} {v : Int32} (e : EqV (e14 V k) X) (e2 : EqV (stV X 14 k v) W) (hv : v = dst (V 14 k) (V 1 7)) : EqV (e14 V (k + 1)) W := fun m j h1 h2 hj => by
  rw [e2 m j h1 h2 hj]
  unfold stV
  by_cases hq : m = 14 ∧ j = k
  · obtain ⟨rfl, rfl⟩ := hq
    rw [if_pos ⟨rfl, rfl⟩, hv]
    unfold e14
    rw [if_pos ⟨rfl, Nat.lt_succ_self _⟩]
  · rw [if_neg hq, e m j h1 h2 hj]
    unfold e14
    by_cases hz : m = 14 ∧ j < k
    · rw [if_pos hz, if_pos ⟨hz.1, by omega⟩]
    · rw [if_neg hz, if_neg (fun z => by omega)]
theorem e23_step {V X W : VW} {g : Nat → Int32} {k : Nat} {v : Int32} (e : EqV (e23 V g k) X) (e2 : EqV (stV X 23 k v) W) (hv : v = g k) : EqV (e23 V g (k + 1)) W := fun m j h1 h2 hj => by
  rw [e2 m j h1 h2 hj]
  unfold stV
  by_cases hq : m = 23 ∧ j = k
  · obtain ⟨rfl, rfl⟩ := hq
    rw [if_pos ⟨rfl, rfl⟩, hv]
    unfold e23
    rw [if_pos ⟨rfl, Nat.lt_succ_self _⟩]
  · rw [if_neg hq, e m j h1 h2 hj]
    unfold e23
    by_cases hz : m = 23 ∧ j < k
    · rw [if_pos hz, if_pos ⟨hz.1, by omega⟩]
    · rw [if_neg hz, if_neg (fun z => by omega)]
theorem ed_fin {V : VW} {g : Nat → Int32} {a b : Nat} {v : Int32} (ha : a = (V 1 8).toNatClampNeg) (hb : b = (V 1 9).toNatClampNeg) (hv : v = V 1 6 + 1) : stV (e23 (e14 V a) g b) 1 6 v = edS (V, g) := by
  subst ha hb hv
  funext m j
  show (if m = 1 ∧ j = 6 then V 1 6 + 1 else e23 (e14 V (V 1 8).toNatClampNeg) g (V 1 9).toNatClampNeg m j) = (if m = 14 ∧ j < (V 1 8).toNatClampNeg then dst (V 14 j) (V 1 7) else if m = 23 ∧ j < (V 1 9).toNatClampNeg then g j else if m = 1 ∧ j = 6 then V 1 6 + 1 else V m j)
  by_cases c1 : m = 14 ∧ j < (V 1 8).toNatClampNeg
  · obtain ⟨rfl, h1⟩ := c1
    rw [if_neg (by simp), if_pos ⟨rfl, h1⟩, e23_ne (by decide)]
    unfold e14
    rw [if_pos ⟨rfl, h1⟩]
  · rw [if_neg c1]
    by_cases c2 : m = 23 ∧ j < (V 1 9).toNatClampNeg
    · obtain ⟨rfl, h1⟩ := c2
      rw [if_neg (by simp), if_pos ⟨rfl, h1⟩]
      unfold e23
      rw [if_pos ⟨rfl, h1⟩]
    · rw [if_neg c2]
      by_cases c3 : m = 1 ∧ j = 6
      · rw [if_pos c3, if_pos c3]
      · rw [if_neg c3, if_neg c3]
        unfold e23
        rw [if_neg c2]
        unfold e14
        rw [if_neg c1]
-- yards that have what they want
def metN (V : VW) : Nat → Int32
  | 0 => 0
  | k + 1 => metN V k + (if (V 22 k).toInt ≤ (V 23 k).toInt then 1 else 0)
def metV (V : VW) : Int32 := metN V (V 1 9).toNatClampNeg
theorem metN_y {V : VW} {k : Nat} (h : (V 22 k).toInt ≤ (V 23 k).toInt) : metN V (k + 1) = metN V k + 1 := by
  show metN V k + (if (V 22 k).toInt ≤ (V 23 k).toInt then 1 else 0) = _
  rw [if_pos h]
theorem metN_n {V : VW} {k : Nat} (h : ¬ (V 22 k).toInt ≤ (V 23 k).toInt) : metN V (k + 1) = metN V k := by
  show metN V k + (if (V 22 k).toInt ≤ (V 23 k).toInt then 1 else 0) = _
  rw [if_neg h]
  exact i_adz _
theorem metN_eq {V W : VW} (e : EqV V W) : ∀ k, k ≤ 8 → metN W k = metN V k := by
  intro k
  induction k with
  | zero => intro _; rfl
  | succ k ih =>
    intro hk
    show metN W k + (if (W 22 k).toInt ≤ (W 23 k).toInt then 1 else 0) = metN V k + (if (V 22 k).toInt ≤ (V 23 k).toInt then 1 else 0)
    rw [ih (by omega), e 22 k (by decide) (by decide) (show k < 8 by omega), e 23 k (by decide) (by decide) (show k < 8 by omega)]
theorem metV_eq {V W : VW} (e : EqV V W) (h9 : (V 1 9).toNatClampNeg ≤ 8) : metV W = metV V := by
  unfold metV
  rw [e 1 9 (by decide) (by decide) (by decide), metN_eq e _ h9]
-- two numbers by a sign, as the reference has it
def bo (k : Int) (a b : Int64) : Int64 := if k = 2 then a + b else if k = 3 then a - b else if k = 13 then a * b else if k = 14 then (if b = 0 then 0 else a / b) else if k = 4 then lb (a.toInt < b.toInt) else if k = 5 then lb (a.toInt ≤ b.toInt) else if k = 6 then lb (a.toInt = b.toInt) else if k = 7 then lb (b.toInt ≤ a.toInt) else if k = 8 then lb (b.toInt < a.toInt) else if k = 10 then a &&& b else a ||| b
def bc (k : Int) (a b : Int64) : Prop := (k = 4 ∧ a.toInt < b.toInt) ∨ (k = 5 ∧ a.toInt ≤ b.toInt) ∨ (k = 6 ∧ a.toInt = b.toInt) ∨ (k = 7 ∧ b.toInt ≤ a.toInt) ∨ (k = 8 ∧ b.toInt < a.toInt)
theorem bo_c {k : Int} {a b : Int64} (h : 4 ≤ k ∧ k ≤ 8) : (bc k a b → bo k a b = 1) ∧ (¬ bc k a b → bo k a b = 0) := by
  rcases (show k = 4 ∨ k = 5 ∨ k = 6 ∨ k = 7 ∨ k = 8 by omega) with rfl | rfl | rfl | rfl | rfl <;> simp [bo, bc, lb]
theorem bo_jn {k n : Int} {a b : Int64} (h : k ≠ 0 ∧ k ≠ 1 ∧ k ≠ 9) (hl : enc k n = -24 ∨ enc k n = -25 → (a = 0 ∨ a = 1) ∧ (b = 0 ∨ b = 1)) : bo k a b = jn (enc k n) a b := by
  by_cases h2 : k = 2
  · subst h2; simp [bo, jn, enc]
  by_cases h3 : k = 3
  · subst h3; simp [bo, jn, enc]
  by_cases h13 : k = 13
  · subst h13; simp [bo, jn, enc]
  by_cases h14 : k = 14
  · subst h14; simp [bo, jn, enc]
  by_cases h4 : k = 4
  · subst h4; simp [bo, jn, enc]
  by_cases h5 : k = 5
  · subst h5; simp [bo, jn, enc]
  by_cases h6 : k = 6
  · subst h6; simp [bo, jn, enc]
  by_cases h7 : k = 7
  · subst h7; simp [bo, jn, enc]
  by_cases h8 : k = 8
  · subst h8; simp [bo, jn, enc]
  by_cases h10 : k = 10
  · have e : enc k n = -24 := by subst h10; simp [enc]
    obtain ⟨g1, g2⟩ := hl (Or.inl e)
    rw [e, ← lg_and g1 g2]
    subst h10
    simp [bo]
  · have e : enc k n = -25 := by
      unfold enc
      rw [if_neg h.1, if_neg h.2.1, if_neg h2, if_neg h3, if_neg h13, if_neg h14, if_neg h4, if_neg h5, if_neg h6, if_neg h7, if_neg h8, if_neg h.2.2, if_neg h10]
    obtain ⟨g1, g2⟩ := hl (Or.inr e)
    rw [e, ← lg_or g1 g2]
    unfold bo
    rw [if_neg h2, if_neg h3, if_neg h13, if_neg h14, if_neg h4, if_neg h5, if_neg h6, if_neg h7, if_neg h8, if_neg h10]
theorem enc_cases {s n c : Int} (h : enc s n = c) (hc : -25 ≤ c) : (s = 0 ∧ 0 ≤ n ∧ c = n) ∨ (s = 1 ∧ 0 ≤ n ∧ n ≤ 12 ∧ c = -1 - n) ∨ (s = 9 ∧ c = -14) ∨ ((s ≠ 0 ∧ s ≠ 1 ∧ s ≠ 9) ∧ c ≤ -15) := by
  unfold enc at h
  (repeat' split at h) <;> omega
theorem EVI.lg {e : Nat → Int64} {f : Nat → Int32} {a m n : Nat} {F : Nat → Int64} {T : List Int64} {q : List Bool} (h : EVI e f a (m + 1) (stL F (n + 2)) T q) (hc : (f a).toInt = -24 ∨ (f a).toInt = -25) : (F n = 0 ∨ F n = 1) ∧ (F (n + 1) = 0 ∨ F (n + 1) = 1) := by
  obtain ⟨-, t, h2, h3, -⟩ := h
  rw [sgF_cons] at h3
  simp only [tyx] at h3
  have h2 : TYS t (F (n + 1) :: F n :: stL F n) := h2
  cases hq : ty1 (f a).toInt t with
  | none => rw [hq] at h3; cases h3
  | some t2 =>
    match t, h2, hq with
    | true :: true :: r, h2, _ => exact ⟨h2.2.1 rfl, h2.1 rfl⟩
    | [], h2, _ => exact absurd h2 (by simp [TYS])
    | [_], h2, _ => exact absurd h2.2 (by simp [TYS])
    | false :: x :: r, _, hq => rcases hc with hc | hc <;> rw [hc] at hq <;> simp [ty1] at hq
    | true :: false :: r, _, hq => rcases hc with hc | hc <;> rw [hc] at hq <;> simp [ty1] at hq
-- light of the reference's town
theorem SHH.sh {I J : MI} {h : Int32} (hx : SHH I J (I 1001 3) (I 1004 (24 * I 1001 5 + h).toNatClampNeg) (I 1005 (24 * I 1001 5 + h).toNatClampNeg)) : ∃ S2, LSM J S2 ∧ shV (live I) h = (nM J, S2) := by
  obtain ⟨S2, h1, h2⟩ := hx
  refine ⟨S2, h1, ?_⟩
  have hs : sunI (live I) h = (24 * I 1001 5 + h).toNatClampNeg := by
    show (I 1001 5 * 24 + h).toNatClampNeg = _
    rw [Int32.mul_comm]
  have b1 := Int32.le_toInt (I 1001 3)
  have b2 := Int32.toInt_lt (I 1001 3)
  unfold shV wyV
  rw [hs, ← twM_V]
  exact h2 _ _ (i32 (by show _ ≤ (I 1001 3).toInt % 24 ∧ (I 1001 3).toInt % 24 < _; omega) rfl) (i32 (by show _ ≤ (I 1001 3).toInt / 24 ∧ (I 1001 3).toInt / 24 < _; omega) rfl)
theorem wy_M {I : MI} {h : Int32} : wyV (live I) h = I 1004 (24 * I 1001 5 + h).toNatClampNeg := by
  show I 1004 (I 1001 5 * 24 + h).toNatClampNeg = _
  rw [Int32.mul_comm]
