-- a law as tables; what it asks; a mirror's slant by it
def LWt : Type := Nat → Nat → Int32
def lawC (w : Nat) (I : MI) : LWt := fun n k => I (w + n) k
def segL (L : LWt) (a b : Int32) : List Int := sgF (L 1) a.toNatClampNeg (b.toInt - a.toInt).toNat
def sunI (V : VW) (h : Int32) : Nat := (V 1 5 * 24 + h).toNatClampNeg
def wyV (V : VW) (h : Int32) : Int32 := V 4 (sunI V h)
def envV (V : VW) (h : Int32) (g : Nat → Int32) (k : Nat) : Nat → Int64 := fun j => match j with
  | 0 => h.toInt64
  | 1 => (V 1 5).toInt64
  | 2 => (V 1 6).toInt64
  | 3 => (V 9 k).toInt64
  | 4 => if (wyV V h).toInt = -1 then 8 else (wyV V h).toInt64
  | j + 5 => (g j).toInt64
def hd1 (l : List Int64) : Int64 := l.headD 0
def vtV (V : VW) (h : Int32) (g : Nat → Int32) (L : LWt) (k i : Nat) : Int64 := hd1 (evl (envV V h g k) (segL L (L 4 i) (L 5 i)) [])
def vsV (V : VW) (h : Int32) (g : Nat → Int32) (L : LWt) (k i : Nat) : Int64 := hd1 (evl (envV V h g k) (segL L (L 3 i) (L 4 i)) [])
def firV (V : VW) (h : Int32) (g : Nat → Int32) (L : LWt) (k i : Nat) : Prop := (L 2 i).toNatClampNeg = k ∧ (L 4 i = L 5 i ∨ vtV V h g L k i ≠ 0)
noncomputable def fsf (P : Nat → Prop) : Nat → Option Nat
  | 0 => none
  | n + 1 => match fsf P n with
    | some j => some j
    | none => @ite (Option Nat) (P n) (Classical.propDecidable _) (some n) none
theorem fsf_n {P : Nat → Prop} {n : Nat} (h : fsf P n = none) (hp : ¬ P n) : fsf P (n + 1) = none := by
  simp only [fsf, h]
  rw [if_neg hp]
theorem fsf_y {P : Nat → Prop} {n : Nat} (h : fsf P n = none) (hp : P n) : fsf P (n + 1) = some n := by
  simp only [fsf, h]
  rw [if_pos hp]
theorem fsf_s {P : Nat → Prop} {n j : Nat} (h : fsf P n = some j) : fsf P (n + 1) = some j := by
  simp only [fsf, h]
theorem fsf_ge {P : Nat → Prop} {n j : Nat} (h : fsf P n = some j) : ∀ d, fsf P (n + d) = some j := by
  intro d
  induction d with
  | zero => exact h
  | succ d ih => exact fsf_s ih
theorem fsf_eq {P Q : Nat → Prop} : ∀ {n : Nat}, (∀ i, i < n → (P i ↔ Q i)) → fsf P n = fsf Q n := by
  intro n
  induction n with
  | zero => intro _; rfl
  | succ n ih =>
    intro h
    have h1 := ih (fun i hi => h i (by omega))
    cases hq : fsf Q n with
    | some j => rw [fsf_s hq, fsf_s (h1.trans hq)]
    | none =>
      by_cases hp : Q n
      · rw [fsf_y hq hp, fsf_y (h1.trans hq) ((h n (by omega)).mpr hp)]
      · rw [fsf_n hq hp, fsf_n (h1.trans hq) (fun z => hp ((h n (by omega)).mp z))]
noncomputable def slA (V : VW) (h : Int32) (g : Nat → Int32) (L : LWt) (k n : Nat) : Int32 := match fsf (firV V h g L k) n with
  | none => V 9 k
  | some i => Int32.ofInt (trn (V 9 k).toInt (V 12 k).toInt (vsV V h g L k i &&& 7).toInt)
theorem slA_n {V : VW} {h : Int32} {g : Nat → Int32} {L : LWt} {k n : Nat} (e : fsf (firV V h g L k) n = none) : slA V h g L k n = V 9 k := by
  unfold slA
  rw [e]
theorem slA_s {V : VW} {h : Int32} {g : Nat → Int32} {L : LWt} {k n i : Nat} (e : fsf (firV V h g L k) n = some i) : slA V h g L k n = Int32.ofInt (trn (V 9 k).toInt (V 12 k).toInt (vsV V h g L k i &&& 7).toInt) := by
  unfold slA
  rw [e]
noncomputable def trA (V : VW) (h : Int32) (g : Nat → Int32) (L : LWt) (n : Nat) : VW := fun m k => if m = 9 ∧ k < (V 1 8).toNatClampNeg then slA V h g L k n else V m k
noncomputable def trV (V : VW) (h : Int32) (g : Nat → Int32) (L : LWt) : VW := trA V h g L (L 0 5).toNatClampNeg
theorem trA_ne {V : VW} {h : Int32} {g : Nat → Int32} {L : LWt} {n m k : Nat} (hm : m ≠ 9) : trA V h g L n m k = V m k := if_neg (by omega)
theorem trn_r (s r w : Int) : 0 ≤ trn s r w ∧ trn s r w < 8 := by
  unfold trn
  (repeat' split) <;> omega
-- words are asked for below 13 alone
theorem evl_congr {e e2 : Nat → Int64} (h : ∀ j, j < 13 → e2 j = e j) : ∀ (l : List Int) (s : List Int64), evl e2 l s = evl e l s := by
  intro l
  induction l with
  | nil => intro s; rfl
  | cons c l ih =>
    intro s
    have h1 : ev1 e2 c s = ev1 e c s := by
      unfold ev1
      by_cases hc : -14 < c
      · rw [if_pos hc, if_pos hc]
        have : vl e2 c = vl e c := by
          unfold vl
          by_cases h0 : 0 ≤ c
          · rw [if_pos h0, if_pos h0]
          · rw [if_neg h0, if_neg h0, h _ (by omega)]
        rw [this]
      · rw [if_neg hc, if_neg hc]
    show evl e2 l (ev1 e2 c s) = evl e l (ev1 e c s)
    rw [h1, ih]
-- what comes out of well typed code
def LWF (L : LWt) : Prop := (0 ≤ (L 0 5).toInt ∧ (L 0 5).toInt ≤ 12) ∧ (0 ≤ (L 0 6).toInt ∧ (L 0 6).toInt ≤ 400) ∧ ∀ i, i < (L 0 5).toNatClampNeg → (0 ≤ (L 2 i).toInt ∧ (L 2 i).toInt ≤ 23) ∧ (0 ≤ (L 3 i).toInt ∧ (L 3 i).toInt ≤ (L 4 i).toInt ∧ (L 4 i).toInt ≤ (L 5 i).toInt ∧ (L 5 i).toInt ≤ (L 0 6).toInt) ∧ (tyx (segL L (L 3 i) (L 4 i)) [] = some [false] ∧ cv (segL L (L 3 i) (L 4 i)) ≤ 60) ∧ (L 4 i ≠ L 5 i → tyx (segL L (L 4 i) (L 5 i)) [] = some [true] ∧ cv (segL L (L 4 i) (L 5 i)) ≤ 60)
theorem LWF.x {w : Nat} {I : MI} (h : LWF (lawC w I)) {i : Nat} (hi : i < (I w 5).toNatClampNeg) : LWX w I i := by
  obtain ⟨h1, h2, h3, h4⟩ := h.2.2 i hi
  exact ⟨h1, ⟨h2.2.1, h2.2.2.1⟩, h3, h4⟩
theorem ev_one {e : Nat → Int64} {l : List Int} {b : Bool} (h : tyx l [] = some [b]) : evl e l [] = [hd1 (evl e l [])] ∧ (b = true → hd1 (evl e l []) = 0 ∨ hd1 (evl e l []) = 1) := by
  have h1 := evl_ty (e := e) (q := []) (s := []) trivial h
  obtain ⟨x, r, hx, ht, hr⟩ := h1.uncons
  cases r with
  | cons y r => exact absurd hr (by simp [TYS])
  | nil =>
    rw [hx]
    exact ⟨rfl, ht⟩
-- the class's words
theorem sc5 {b : Nat} {J : MI} : cF b J 1 5 = J b 5 := rfl
theorem sc9 {b : Nat} {J : MI} : cF b J 1 9 = J b 9 := rfl
theorem cf4 {b : Nat} {J : MI} {k : Nat} : cF b J 4 k = J (b + 5) k := by
  show J (b + 5) (0 + k) = _
  rw [Nat.zero_add]
theorem cf5 {b : Nat} {J : MI} {k : Nat} : cF b J 5 k = J (b + 6) k := by
  show J (b + 6) (0 + k) = _
  rw [Nat.zero_add]
theorem cf3 {b : Nat} {J : MI} {k : Nat} : cF b J 3 k = J (b + 2) k := by
  show J (b + 2) (0 + k) = _
  rw [Nat.zero_add]
theorem eC_env {b : Nat} {J : MI} {m : Nat} (hp : 0 < (J b 0).toInt) (hh : 0 ≤ (J 20 3).toInt ∧ (J 20 3).toInt < 24) : eC b J m = envV (cF b J) (J 20 3) (J 21) m := by
  funext j
  match j with
  | 0 => rfl
  | 1 => rfl
  | 2 => rfl
  | 3 => rfl
  | 4 =>
    show @ite Int64 (0 < (J b 0).toInt ∧ Lit b J (J 20 3)) (Classical.propDecidable _) (J (b + 5) (J b 5 * 24 + J 20 3).toNatClampNeg).toInt64 8 = if (wyV (cF b J) (J 20 3)).toInt = -1 then 8 else (wyV (cF b J) (J 20 3)).toInt64
    have hw : wyV (cF b J) (J 20 3) = J (b + 5) (J b 5 * 24 + J 20 3).toNatClampNeg := by
      unfold wyV sunI
      rw [cf4, sc5]
    rw [hw]
    by_cases hq : (J (b + 5) (J b 5 * 24 + J 20 3).toNatClampNeg).toInt = -1
    · rw [if_pos hq, if_neg (fun z => z.2.2 hq)]
    · rw [if_neg hq, if_pos ⟨hp, hh, hq⟩]
  | j + 5 => rfl
-- towns that look the same ask the same
theorem sunI_r {V : VW} {h : Int32} (h5 : 0 ≤ (V 1 5).toInt ∧ (V 1 5).toInt ≤ 11) (hh : 0 ≤ h.toInt ∧ h.toInt < 24) : sunI V h < 288 ∧ (V 1 5 * 24 + h).toInt = (V 1 5).toInt * 24 + h.toInt := by
  have e1 := a_mulR (x := V 1 5) (y := 24) (c := 24) (v := V 1 5 * 24) rfl (by decide) (by omega) (by omega)
  have e2 := a_add (x := V 1 5 * 24) (y := h) (v := V 1 5 * 24 + h) rfl (by omega) (by omega)
  have t := tn (i := V 1 5 * 24 + h) (by omega)
  unfold sunI
  omega
theorem wyV_eq {V W : VW} {h : Int32} (e : EqV V W) (h5 : 0 ≤ (V 1 5).toInt ∧ (V 1 5).toInt ≤ 11) (hh : 0 ≤ h.toInt ∧ h.toInt < 24) : sunI W h = sunI V h ∧ wyV W h = wyV V h ∧ W 5 (sunI W h) = V 5 (sunI V h) := by
  have e5 : W 1 5 = V 1 5 := e 1 5 (by decide) (by decide) (by decide)
  have hs : sunI W h = sunI V h := by unfold sunI; rw [e5]
  have hl := (sunI_r h5 hh).1
  refine ⟨hs, ?_, ?_⟩
  · unfold wyV
    rw [hs]
    exact e 4 _ (by decide) (by decide) hl
  · rw [hs]
    exact e 5 _ (by decide) (by decide) hl
theorem env_eq {V W : VW} {h : Int32} {g g2 : Nat → Int32} {k : Nat} (e : EqV V W) (hg : ∀ j, j < 8 → g2 j = g j) (hk : k < 24) (h5 : 0 ≤ (V 1 5).toInt ∧ (V 1 5).toInt ≤ 11) (hh : 0 ≤ h.toInt ∧ h.toInt < 24) : ∀ j, j < 13 → envV W h g2 k j = envV V h g k j := by
  intro j hj
  match j with
  | 0 => rfl
  | 1 => show (W 1 5).toInt64 = (V 1 5).toInt64; rw [e 1 5 (by decide) (by decide) (by decide)]
  | 2 => show (W 1 6).toInt64 = (V 1 6).toInt64; rw [e 1 6 (by decide) (by decide) (by decide)]
  | 3 => show (W 9 k).toInt64 = (V 9 k).toInt64; rw [e 9 k (by decide) (by decide) hk]
  | 4 => show (if (wyV W h).toInt = -1 then 8 else (wyV W h).toInt64) = (if (wyV V h).toInt = -1 then (8 : Int64) else (wyV V h).toInt64); rw [(wyV_eq e h5 hh).2.1]
  | j + 5 => show (g2 j).toInt64 = (g j).toInt64; rw [hg j (by omega)]
theorem fir_eq {V W : VW} {h : Int32} {g g2 : Nat → Int32} {k : Nat} {L : LWt} (e : ∀ j, j < 13 → envV W h g2 k j = envV V h g k j) : (∀ i, vtV W h g2 L k i = vtV V h g L k i) ∧ (∀ i, vsV W h g2 L k i = vsV V h g L k i) ∧ ∀ n, fsf (firV W h g2 L k) n = fsf (firV V h g L k) n := by
  have h1 : ∀ i, vtV W h g2 L k i = vtV V h g L k i := fun i => by unfold vtV; rw [evl_congr e]
  refine ⟨h1, fun i => by unfold vsV; rw [evl_congr e], fun n => fsf_eq (fun i _ => ?_)⟩
  unfold firV
  rw [h1 i]
theorem slA_eq {V W : VW} {h : Int32} {g g2 : Nat → Int32} {k n : Nat} {L : LWt} (e : ∀ j, j < 13 → envV W h g2 k j = envV V h g k j) (h9 : W 9 k = V 9 k) (h12 : W 12 k = V 12 k) : slA W h g2 L k n = slA V h g L k n := by
  obtain ⟨h1, h2, h3⟩ := fir_eq (L := L) e
  cases hq : fsf (firV V h g L k) n with
  | none => rw [slA_n hq, slA_n ((h3 n).trans hq), h9]
  | some i => rw [slA_s hq, slA_s ((h3 n).trans hq), h9, h12, h2]
theorem trA_eq {V W : VW} {h : Int32} {g g2 : Nat → Int32} {n : Nat} {L : LWt} (e : EqV V W) (hg : ∀ j, j < 8 → g2 j = g j) (h5 : 0 ≤ (V 1 5).toInt ∧ (V 1 5).toInt ≤ 11) (hh : 0 ≤ h.toInt ∧ h.toInt < 24) : EqV (trA V h g L n) (trA W h g2 L n) := fun m k h1 h2 hk => by
  have e8 : W 1 8 = V 1 8 := e 1 8 (by decide) (by decide) (by decide)
  unfold trA
  rw [e8]
  by_cases hq : m = 9 ∧ k < (V 1 8).toNatClampNeg
  · rw [if_pos hq, if_pos hq]
    obtain ⟨rfl, -⟩ := hq
    exact slA_eq (env_eq e hg hk h5 hh) (e 9 k (by decide) (by decide) hk) (e 12 k (by decide) (by decide) hk)
  · rw [if_neg hq, if_neg hq]
    exact e m k h1 h2 hk
-- a mirror that is not turned yet asks as at the beginning
theorem env_st {V : VW} {h : Int32} {g : Nat → Int32} {L : LWt} {k n : Nat} (hn : fsf (firV V h g L k) n = none ∨ ¬ k < (V 1 8).toNatClampNeg) : ∀ j, envV (trA V h g L n) h g k j = envV V h g k j := by
  intro j
  match j with
  | 0 => rfl
  | 1 => show (trA V h g L n 1 5).toInt64 = _; rw [trA_ne (by decide)]; rfl
  | 2 => show (trA V h g L n 1 6).toInt64 = _; rw [trA_ne (by decide)]; rfl
  | 3 =>
    show (trA V h g L n 9 k).toInt64 = (V 9 k).toInt64
    unfold trA
    by_cases hq : k < (V 1 8).toNatClampNeg
    · rw [if_pos ⟨rfl, hq⟩, slA_n (hn.resolve_right (fun z => z hq))]
    · rw [if_neg (fun z => hq z.2)]
  | 4 =>
    have hw : wyV (trA V h g L n) h = wyV V h := by
      unfold wyV sunI
      rw [trA_ne (by decide), trA_ne (by decide)]
    show (if (wyV (trA V h g L n) h).toInt = -1 then 8 else (wyV (trA V h g L n) h).toInt64) = (if (wyV V h).toInt = -1 then (8 : Int64) else (wyV V h).toInt64)
    rw [hw]
  | j + 5 => rfl
-- clause by clause
def TMX (V : VW) (h : Int32) (g : Nat → Int32) (L : LWt) (n b : Nat) (J : MI) (t : Int32) : Prop := EqV (trA V h g L n) (cF b J) ∧ ∀ k, k < 24 → (bitA t k ↔ k < (V 1 8).toNatClampNeg ∧ fsf (firV V h g L k) n ≠ none)
theorem TMX.z {V : VW} {h : Int32} {g : Nat → Int32} {L : LWt} {b : Nat} {J : MI} (e : EqV V (cF b J)) : TMX V h g L 0 b J 0 := by
  refine ⟨fun m k h1 h2 hk => ?_, fun k _ => ⟨fun z => absurd z (bit_0 k), fun z => absurd rfl z.2⟩⟩
  rw [e m k h1 h2 hk]
  unfold trA
  by_cases hq : m = 9 ∧ k < (V 1 8).toNatClampNeg
  · rw [if_pos hq, slA_n rfl, hq.1]
  · rw [if_neg hq]
theorem TMX.skip {V : VW} {h : Int32} {g : Nat → Int32} {L : LWt} {n b : Nat} {J : MI} {t : Int32} (hT : TMX V h g L n b J t) (hq : ∀ k, k < 24 → k < (V 1 8).toNatClampNeg → fsf (firV V h g L k) n = none → ¬ firV V h g L k n) (h8 : (V 1 8).toNatClampNeg ≤ 24) : TMX V h g L (n + 1) b J t := by
  have hs : ∀ k, k < (V 1 8).toNatClampNeg → fsf (firV V h g L k) (n + 1) = fsf (firV V h g L k) n := fun k hk => by
    cases e : fsf (firV V h g L k) n with
    | some j => exact fsf_s e
    | none => exact fsf_n e (hq k (by omega) hk e)
  refine ⟨fun m k h1 h2 hk => ?_, fun k hk => ?_⟩
  · rw [hT.1 m k h1 h2 hk]
    unfold trA
    by_cases hz : m = 9 ∧ k < (V 1 8).toNatClampNeg
    · rw [if_pos hz, if_pos hz]
      unfold slA
      rw [hs k hz.2]
    · rw [if_neg hz, if_neg hz]
  · rw [hT.2 k hk]
    by_cases hz : k < (V 1 8).toNatClampNeg
    · rw [hs k hz]
    · exact ⟨fun z => absurd z.1 hz, fun z => absurd z.1 hz⟩
theorem TMX.turn {V : VW} {h : Int32} {g : Nat → Int32} {L : LWt} {n b m : Nat} {J J2 : MI} {t t2 x : Int32} {a : Int} (hT : TMX V h g L n b J t) (hm : m < (V 1 8).toNatClampNeg) (hm24 : m < 24) (h0 : fsf (firV V h g L m) n = none) (hf : firV V h g L m n) (ha : a = (vsV V h g L m n &&& 7).toInt) (he : EqV (stV (cF b J) 9 m (Int32.ofInt (trn (cF b J 9 m).toInt (cF b J 12 m).toInt a))) (cF b J2)) (hx : x.toNatClampNeg = m ∧ 0 ≤ x.toInt ∧ x.toInt < 32) (ht : t2 = t ||| (1 <<< (x &&& 31))) : TMX V h g L (n + 1) b J2 t2 := by
  have hs : ∀ k, k ≠ m → fsf (firV V h g L k) (n + 1) = fsf (firV V h g L k) n := fun k hk => by
    cases e : fsf (firV V h g L k) n with
    | some j => exact fsf_s e
    | none => exact fsf_n e (fun z => hk (z.1.symm.trans hf.1))
  have e9 : cF b J 9 m = V 9 m := by
    rw [hT.1 9 m (by decide) (by decide) hm24]
    unfold trA
    rw [if_pos ⟨rfl, hm⟩, slA_n h0]
  have e12 : cF b J 12 m = V 12 m := by
    rw [hT.1 12 m (by decide) (by decide) hm24]
    exact trA_ne (by decide)
  rw [e9, e12, ha] at he
  have hsm := slA_s (fsf_y h0 hf)
  refine ⟨fun i k h1 h2 hk => ?_, fun k hk => ?_⟩
  · rw [he i k h1 h2 hk]
    unfold stV
    by_cases hz : i = 9 ∧ k = m
    · obtain ⟨rfl, rfl⟩ := hz
      rw [if_pos ⟨rfl, rfl⟩]
      unfold trA
      rw [if_pos ⟨rfl, hm⟩, hsm]
    · rw [if_neg hz, hT.1 i k h1 h2 hk]
      unfold trA
      by_cases hy : i = 9 ∧ k < (V 1 8).toNatClampNeg
      · rw [if_pos hy, if_pos hy]
        unfold slA
        rw [hs k (fun q => hz ⟨hy.1, q⟩)]
      · rw [if_neg hy, if_neg hy]
  · rw [ht, bit_or hx.2.1 hx.2.2 (by omega), hT.2 k hk, hx.1]
    by_cases hz : k = m
    · subst hz
      exact ⟨fun _ => ⟨hm, by rw [fsf_y h0 hf]; exact fun q => by cases q⟩, fun _ => Or.inr rfl⟩
    · rw [hs k hz]
      exact ⟨fun z => z.resolve_right hz, fun z => Or.inl z⟩
theorem TMX.fin {V : VW} {h : Int32} {g : Nat → Int32} {L : LWt} {n b : Nat} {J : MI} {t : Int32} (hT : TMX V h g L n b J t) (hn : n = (L 0 5).toNatClampNeg) : EqV (trV V h g L) (cF b J) := by
  unfold trV
  rw [← hn]
  exact hT.1
theorem i7 (x : Int64) : (x &&& 7).toInt = ((x &&& 7).toInt32).toInt ∧ 0 ≤ ((x &&& 7).toInt32).toInt ∧ ((x &&& 7).toInt32).toInt ≤ 7 := by
  have hb : (x &&& 7).toInt = ((x.toBitVec &&& 7#64).toNat : Int) ∧ (x.toBitVec &&& 7#64).toNat ≤ 7 := by
    have h1 : (x.toBitVec &&& 7#64).toNat ≤ 7 := by
      rw [BitVec.toNat_and]
      exact Nat.and_le_right
    refine ⟨?_, h1⟩
    show (x.toBitVec &&& 7#64).toInt = _
    rw [BitVec.toInt_eq_toNat_of_lt (by omega)]
  have h2 : ((x &&& 7).toInt32).toInt = (x &&& 7).toInt := by
    rw [Int64.toInt_toInt32]
    exact Int.bmod_eq_of_le (by rw [hb.1]; omega) (by rw [hb.1]; omega)
  rw [h2]
  exact ⟨rfl, by omega, by omega⟩
theorem lawC_kp {w : Nat} {R P : List (Nat × Nat)} {I I2 : MI} (hw : w ∈ lB) (hK : Kp R P I I2) (hR : (R.all (fun r => decide (r.2 ≤ 200) || decide (300 ≤ r.1))) = true) (hP : (P.all (fun q => decide (q.1 < 200) || decide (300 ≤ q.1))) = true) : ∀ n, n < 6 → lawC w I2 n = lawC w I n := fun n hn => funext fun k => by
  have := lbw hw
  exact hK.getW (w + n) k hR hP (by omega)
theorem HOLD.fir {b w i m : Nat} {J : MI} {V : VW} {h : Int32} {g : Nat → Int32} {L : LWt} (hx : LWX w J i) (hL : ∀ n, n < 6 → lawC w J n = L n) (hm : m = (L 2 i).toNatClampNeg) (he : ∀ j, j < 13 → eC b J m j = envV V h g m j) : (HOLD b w J i ↔ firV V h g L m i) ∧ ∀ r, evl (eC b J m) (sgC w J (J (w + 3) i) (J (w + 4) i)) [] = [r] → r = vsV V h g L m i := by
  have hee : ∀ l, evl (eC b J m) l [] = evl (envV V h g m) l [] := fun l => evl_congr he l []
  have e1 : J (w + 1) = L 1 := hL 1 (by decide)
  have e2 : J (w + 2) i = L 2 i := congrFun (hL 2 (by decide)) i
  have e3 : J (w + 3) i = L 3 i := congrFun (hL 3 (by decide)) i
  have e4 : J (w + 4) i = L 4 i := congrFun (hL 4 (by decide)) i
  have e5 : J (w + 5) i = L 5 i := congrFun (hL 5 (by decide)) i
  have hsg : ∀ a b2, sgC w J a b2 = segL L a b2 := fun a b2 => by unfold sgC segL; rw [e1]
  have ht := hx.2.2.2
  rw [e4, e5, hsg] at ht
  constructor
  · unfold HOLD firV
    rw [e2, e4, e5, hsg, ← hm, hee]
    by_cases hq : L 4 i = L 5 i
    · exact ⟨fun _ => ⟨rfl, Or.inl hq⟩, fun _ => Or.inl hq⟩
    · have h1 := (ev_one (e := envV V h g m) (ht hq).1).1
      constructor
      · rintro (z | ⟨v, h2, h3⟩)
        · exact absurd z hq
        · refine ⟨rfl, Or.inr ?_⟩
          unfold vtV
          rw [h2]
          exact h3
      · rintro ⟨-, z | z⟩
        · exact absurd z hq
        · exact Or.inr ⟨_, h1, z⟩
  · intro r hr
    rw [e3, e4, hsg, hee] at hr
    unfold vsV
    rw [hr]
    rfl
-- segments of code
theorem sgF_len (f : Nat → Int32) (a n : Nat) : (sgF f a n).length = n := by simp [sgF]
theorem sgF_snoc (f : Nat → Int32) (a n : Nat) : sgF f a (n + 1) = sgF f a n ++ [(f (a + n)).toInt] := by
  unfold sgF
  rw [List.range_succ, List.map_append]
  rfl
theorem sgF_app (f : Nat → Int32) (a n : Nat) : ∀ m, sgF f a (n + m) = sgF f a n ++ sgF f (a + n) m := by
  intro m
  induction m with
  | zero => simp [sgF]
  | succ m ih => rw [← Nat.add_assoc, sgF_snoc, ih, sgF_snoc, List.append_assoc, Nat.add_assoc]
theorem cdl_sg (f : Nat → Int32) : ∀ n, cdl f n = sgF f 0 n := by
  intro n
  induction n with
  | zero => rfl
  | succ n ih => rw [cdl, ih, sgF_snoc, Nat.zero_add]
theorem cdl_cut (f : Nat → Int32) {n a b : Nat} (h : a ≤ b) (h2 : b ≤ n) : cdl f n = sgF f 0 a ++ (sgF f a (b - a) ++ sgF f b (n - b)) := by
  have e1 : sgF f 0 (a + (n - a)) = sgF f 0 a ++ sgF f (0 + a) (n - a) := sgF_app f 0 a (n - a)
  have e2 : sgF f a ((b - a) + (n - b)) = sgF f a (b - a) ++ sgF f (a + (b - a)) (n - b) := sgF_app f a (b - a) (n - b)
  rw [show a + (n - a) = n from by omega, Nat.zero_add] at e1
  rw [show (b - a) + (n - b) = n - a from by omega, show a + (b - a) = b from by omega] at e2
  rw [cdl_sg, e1, e2]
theorem sgm_sg (f : Nat → Int32) {n a b : Nat} (h : a ≤ b) (h2 : b ≤ n) : sgm (cdl f n) a b = sgF f a (b - a) ∧ cv (sgF f a (b - a)) ≤ cv (cdl f n) := by
  have e := cdl_cut f h h2
  constructor
  · unfold sgm
    rw [e, List.drop_left' (sgF_len f 0 a), List.take_left' (sgF_len f a (b - a))]
  · rw [e, cv_app, cv_app]
    omega
-- a law of the class as the reference holds it
def LRL (L : LWt) (J : MI) (r : Nat) : Prop := J 1037 r = L 0 5 ∧ (∀ i, i < (L 0 5).toNatClampNeg → J 1038 (12 * r + i) = L 2 i ∧ J 1039 (12 * r + i) = L 3 i ∧ J 1040 (12 * r + i) = L 4 i ∧ J 1041 (12 * r + i) = L 5 i) ∧ (L 0 6).toNatClampNeg ≤ 300 ∧ ∀ i, i < (L 0 6).toNatClampNeg → enc (J 1035 (300 * r + i)).toInt (J 1036 (300 * r + i)).toInt = (L 1 i).toInt
theorem rcl_cdl {f g h : Nat → Int32} {b : Nat} : ∀ k, rcl f g b k = cdl h k → ∀ i, i < k → enc (f (b + i)).toInt (g (b + i)).toInt = (h i).toInt := by
  intro k
  induction k with
  | zero => intro _ i hi; exact absurd hi (Nat.not_lt_zero i)
  | succ k ih =>
    intro e i hi
    rw [rcl, cdl] at e
    obtain ⟨e1, e2⟩ := List.append_inj e (by rw [rcl_len, cdl_len])
    by_cases hq : i = k
    · rw [hq]
      exact (List.cons.inj e2).1
    · exact ih e1 i (by omega)
theorem LRL.mk {w s : Nat} {I J : MI} {F : RES} (hcod : COD I w = F.2.1) (hcls : CLS I w = F.2.2) (hm : LTM J s F) (h5 : 0 ≤ (I w 5).toInt) : LRL (lawC w I) J s := by
  obtain ⟨m1, m2, m3, m4⟩ := hm
  rw [← hcls] at m1 m4
  rw [← hcod, COD_len] at m2 m3
  refine ⟨Int32.toInt_inj.mp (m1.trans (tn h5)), fun i hi => ?_, m3, fun i hi => rcl_cdl _ m2 i hi⟩
  obtain ⟨g1, g2, g3, g4⟩ := m4 i hi
  exact ⟨Int32.toInt_inj.mp g1, Int32.toInt_inj.mp g2, Int32.toInt_inj.mp g3, Int32.toInt_inj.mp g4⟩
theorem LRL.ext {L : LWt} {I J : MI} {r : Nat} (h : LRL L I r) (h5 : (L 0 5).toNatClampNeg ≤ 12) (h37 : J 1037 r = I 1037 r) (hc : ∀ j : Nat, j < 300 → J 1035 (300 * r + j) = I 1035 (300 * r + j) ∧ J 1036 (300 * r + j) = I 1036 (300 * r + j)) (ht : ∀ i : Nat, i < 12 → J 1038 (12 * r + i) = I 1038 (12 * r + i) ∧ J 1039 (12 * r + i) = I 1039 (12 * r + i) ∧ J 1040 (12 * r + i) = I 1040 (12 * r + i) ∧ J 1041 (12 * r + i) = I 1041 (12 * r + i)) : LRL L J r := by
  obtain ⟨h1, h2, h3, h4⟩ := h
  refine ⟨h37.trans h1, fun i hi => ?_, h3, fun i hi => ?_⟩
  · obtain ⟨g1, g2, g3, g4⟩ := ht i (by omega)
    rw [g1, g2, g3, g4]
    exact h2 i hi
  · obtain ⟨g1, g2⟩ := hc i (by omega)
    rw [g1, g2]
    exact h4 i hi
theorem LRL.of {L : LWt} {I J : MI} {r : Nat} (h : LRL L I r) (e : ∀ n, 1035 ≤ n → n ≤ 1041 → J n = I n) : LRL L J r := by
  unfold LRL
  rw [e 1035 (by decide) (by decide), e 1036 (by decide) (by decide), e 1037 (by decide) (by decide), e 1038 (by decide) (by decide), e 1039 (by decide) (by decide), e 1040 (by decide) (by decide), e 1041 (by decide) (by decide)]
  exact h
def apl (R P : List (Nat × Nat)) : Bool := R.all (fun r => decide (r.2 ≤ 1035) || decide (1042 ≤ r.1)) && P.all (fun q => decide (q.1 < 1035) || decide (1042 ≤ q.1))
theorem LRL.kp {L : LWt} {R P : List (Nat × Nat)} {I J : MI} {r : Nat} (h : LRL L I r) (hK : Kp R P I J) (hc : apl R P = true) : LRL L J r := h.of (fun n h1 h2 => funext fun k => by
  simp only [apl, Bool.and_eq_true, List.all_eq_true, Bool.or_eq_true, decide_eq_true_eq] at hc
  refine hK n k ?_ ?_
  · cases hq : inR R n with
    | false => rfl
    | true =>
      exfalso
      obtain ⟨a, ha, hb⟩ := List.any_eq_true.mp hq
      have := hc.1 a ha
      simp only [Bool.and_eq_true, decide_eq_true_eq] at hb
      omega
  · cases hq : P.contains (n, k) with
    | false => rfl
    | true =>
      exfalso
      have h3 : (n, k) ∈ P := by simpa using hq
      have := hc.2 (n, k) h3
      simp only at this
      omega)
theorem LWF.mk {w : Nat} {I : MI} {F : RES} (hcod : COD I w = F.2.1) (hcls : CLS I w = F.2.2) (hw : WTR F) (h0 : F.1 = 0) (h5 : 0 ≤ (I w 5).toInt) (h6 : 0 ≤ (I w 6).toInt) : LWF (lawC w I) := by
  obtain ⟨w1, w2, w3, w4⟩ := hw h0
  rw [← hcls] at w1 w4
  rw [← hcod] at w1 w2 w3
  rw [COD_len] at w3
  have t5 := tn h5
  have t6 := tn h6
  have w4 : (I w 5).toNatClampNeg ≤ 12 := w4
  refine ⟨⟨h5, by show (I w 5).toInt ≤ 12; omega⟩, ⟨h6, by show (I w 6).toInt ≤ 400; omega⟩, fun i hi => ?_⟩
  obtain ⟨g1, a, b, e, ga, gb, ge, hab, hbe, hel, ht1, ht2⟩ := w1 i hi
  have ga : (I (w + 3) i).toInt = a := ga
  have gb : (I (w + 4) i).toInt = b := gb
  have ge : (I (w + 5) i).toInt = e := ge
  have g1 : 0 ≤ (I (w + 2) i).toInt ∧ (I (w + 2) i).toInt < 24 := g1
  rw [COD_len] at hel
  have s1 := sgm_sg (I (w + 1)) (n := (I w 6).toNatClampNeg) hab (by omega)
  have s2 := sgm_sg (I (w + 1)) (n := (I w 6).toNatClampNeg) hbe hel
  have na := tn (i := I (w + 3) i) (by omega)
  have nb := tn (i := I (w + 4) i) (by omega)
  have ha' : (I (w + 3) i).toNatClampNeg = a := by omega
  have hb' : (I (w + 4) i).toNatClampNeg = b := by omega
  have k1 : segL (lawC w I) (I (w + 3) i) (I (w + 4) i) = sgF (I (w + 1)) a (b - a) := by
    show sgF (I (w + 1)) (I (w + 3) i).toNatClampNeg ((I (w + 4) i).toInt - (I (w + 3) i).toInt).toNat = _
    rw [ha', ga, gb, show ((b : Int) - (a : Int)).toNat = b - a from by omega]
  have k2 : segL (lawC w I) (I (w + 4) i) (I (w + 5) i) = sgF (I (w + 1)) b (e - b) := by
    show sgF (I (w + 1)) (I (w + 4) i).toNatClampNeg ((I (w + 5) i).toInt - (I (w + 4) i).toInt).toNat = _
    rw [hb', gb, ge, show ((e : Int) - (b : Int)).toNat = e - b from by omega]
  refine ⟨⟨g1.1, by show (I (w + 2) i).toInt ≤ 23; omega⟩, ⟨by show 0 ≤ (I (w + 3) i).toInt; omega, by show (I (w + 3) i).toInt ≤ (I (w + 4) i).toInt; omega, by show (I (w + 4) i).toInt ≤ (I (w + 5) i).toInt; omega, by show (I (w + 5) i).toInt ≤ (I w 6).toInt; omega⟩, ?_, fun hne => ?_⟩
  · show tyx (segL (lawC w I) (I (w + 3) i) (I (w + 4) i)) [] = some [false] ∧ cv (segL (lawC w I) (I (w + 3) i) (I (w + 4) i)) ≤ 60
    rw [k1]
    exact ⟨by rw [← s1.1]; exact ht1, Nat.le_trans s1.2 w2⟩
  · show tyx (segL (lawC w I) (I (w + 4) i) (I (w + 5) i)) [] = some [true] ∧ cv (segL (lawC w I) (I (w + 4) i) (I (w + 5) i)) ≤ 60
    rw [k2]
    refine ⟨?_, Nat.le_trans s2.2 w2⟩
    rw [← s2.1]
    rcases ht2 with z | z
    · exact absurd (Int32.toInt_inj.mp (show (I (w + 4) i).toInt = (I (w + 5) i).toInt by omega)) hne
    · exact z
