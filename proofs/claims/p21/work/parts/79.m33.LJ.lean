-- words of a law as the class reads them; its stack
noncomputable def eC (b : Nat) (I : MI) (m : Nat) : Nat → Int64 := fun k => match k with
  | 0 => (I 20 3).toInt64
  | 1 => (I b 5).toInt64
  | 2 => (I b 6).toInt64
  | 3 => (I (b + 7) (48 + m)).toInt64
  | 4 => @ite Int64 (0 < (I b 0).toInt ∧ Lit b I (I 20 3)) (Classical.propDecidable _) (I (b + 5) (I b 5 * 24 + I 20 3).toNatClampNeg).toInt64 8
  | k + 5 => (I 21 k).toInt64
def stL (f : Nat → Int64) : Nat → List Int64
  | 0 => []
  | n + 1 => f n :: stL f n
theorem stL_len (f : Nat → Int64) (n : Nat) : (stL f n).length = n := by
  induction n with
  | zero => rfl
  | succ n ih => simp [stL, ih]
theorem stL_of {f g : Nat → Int64} : ∀ {n : Nat}, (∀ i, i < n → g i = f i) → stL g n = stL f n := by
  intro n
  induction n with
  | zero => intro _; rfl
  | succ n ih => intro h; simp only [stL]; rw [h n (by omega), ih (fun i hi => h i (by omega))]
theorem stL_put {L : ML} {a n k : Nat} {v : Int64} (h : n ≤ k) : stL (u2 L a k v a) n = stL (L a) n := stL_of (fun i hi => by rw [u2_v, if_neg (by omega)])
def sgF (f : Nat → Int32) (a n : Nat) : List Int := (List.range n).map (fun i => (f (a + i)).toInt)
theorem sgF_cons (f : Nat → Int32) (a n : Nat) : sgF f a (n + 1) = (f a).toInt :: sgF f (a + 1) n := by
  unfold sgF
  rw [List.range_succ_eq_map, List.map_cons, List.map_map]
  congr 1
  refine List.map_congr_left (fun i _ => ?_)
  show (f (a + (i + 1))).toInt = (f (a + 1 + i)).toInt
  rw [show a + (i + 1) = a + 1 + i from by omega]
def EVI (e : Nat → Int64) (f : Nat → Int32) (a n : Nat) (s : List Int64) (T : List Int64) (q : List Bool) : Prop := evl e (sgF f a n) s = T ∧ ∃ t, TYS t s ∧ tyx (sgF f a n) t = some q ∧ s.length + cv (sgF f a n) ≤ 60
theorem EVI.z {e : Nat → Int64} {f : Nat → Int32} {a n : Nat} {q : List Bool} (h : tyx (sgF f a n) [] = some q) (hc : cv (sgF f a n) ≤ 60) : EVI e f a n [] (evl e (sgF f a n) []) q := ⟨rfl, [], trivial, h, by simpa using hc⟩
theorem EVI.fin {e : Nat → Int64} {f : Nat → Int32} {a : Nat} {s T : List Int64} {t : Bool} (h : EVI e f a 0 s T [t]) : T = s ∧ s.length = 1 := by
  obtain ⟨h1, q, h2, h3, -⟩ := h
  have h3 : some q = some [t] := h3
  cases h3
  exact ⟨h1.symm, h2.len⟩
theorem EVI.head {e : Nat → Int64} {f : Nat → Int32} {a n : Nat} {s T : List Int64} {q : List Bool} (h : EVI e f a (n + 1) s T q) : EVI e f (a + 1) n (ev1 e (f a).toInt s) T q ∧ (-14 < (f a).toInt → s.length < 60) ∧ ((f a).toInt = -14 → 1 ≤ s.length) ∧ ((f a).toInt < -14 → 2 ≤ s.length) ∧ -25 ≤ (f a).toInt := by
  obtain ⟨h1, t, h2, h3, h4⟩ := h
  rw [sgF_cons] at h1 h3 h4
  simp only [tyx] at h3
  cases hq : ty1 (f a).toInt t with
  | none => rw [hq] at h3; cases h3
  | some t2 =>
    rw [hq] at h3
    have hl := ty_len hq
    have hs := h2.len
    have hs2 := (ev_ty (e := e) h2 hq).len
    rw [cv] at h4
    refine ⟨⟨h1, t2, ev_ty h2 hq, h3, by omega⟩, fun z => by rw [if_pos z] at h4; omega, fun z => ?_, fun z => ?_, ty_ge hq⟩
    · rw [z] at hq
      match t, hq, hs with
      | true :: _, _, hs => rw [hs]; simp
      | [], hq, _ => cases hq
      | false :: _, hq, _ => cases hq
    · unfold ty1 at hq
      rw [if_neg (by omega), if_neg (by omega)] at hq
      match t, hq, hs with
      | _ :: _ :: _, _, hs => rw [hs]; simp
      | [], hq, _ => split at hq <;> first | cases hq | (split at hq <;> first | cases hq | (split at hq <;> cases hq))
      | [true], hq, _ => split at hq <;> first | cases hq | (split at hq <;> first | cases hq | (split at hq <;> cases hq))
      | [false], hq, _ => split at hq <;> first | cases hq | (split at hq <;> first | cases hq | (split at hq <;> cases hq))
theorem i64_of (x : Int32) : x.toInt64 = Int64.ofInt x.toInt := by
  apply Int64.toInt_inj.mp
  rw [Int32.toInt_toInt64, Int64.toInt_ofInt]
  have h1 := Int32.le_toInt x
  have h2 := Int32.toInt_lt x
  exact (Int.bmod_eq_of_le (by rw [show (Int64.size : Nat) = 18446744073709551616 from rfl]; omega) (by rw [show (Int64.size : Nat) = 18446744073709551616 from rfl]; omega)).symm
theorem ev_push {e : Nat → Int64} {c : Int} {L : ML} {v : Int64} {a n : Nat} (hc : -14 < c) (hv : v = vl e c) : stL (u2 L a n v a) (n + 1) = ev1 e c (stL (L a) n) := by
  unfold ev1
  rw [if_pos hc, ← hv]
  simp only [stL]
  rw [u2_self, stL_put (Nat.le_refl _)]
theorem ev_not {e : Nat → Int64} {L : ML} {v : Int64} {a n : Nat} (hv : v = 1 - L a n) : stL (u2 L a n v a) (n + 1) = ev1 e (-14) (stL (L a) (n + 1)) := by
  show u2 L a n v a n :: stL (u2 L a n v a) n = (1 - L a n) :: stL (L a) n
  rw [u2_self, stL_put (Nat.le_refl _), hv]
theorem ev_jn {e : Nat → Int64} {c : Int} {L : ML} {v : Int64} {a n : Nat} (hc : c < -14) (hv : v = jn c (L a n) (L a (n + 1))) : stL (u2 L a n v a) (n + 1) = ev1 e c (stL (L a) (n + 2)) := by
  unfold ev1
  rw [if_neg (by omega), if_neg (by omega)]
  show u2 L a n v a n :: stL (u2 L a n v a) n = jn c (L a n) (L a (n + 1)) :: stL (L a) n
  rw [u2_self, stL_put (Nat.le_refl _), hv]
-- a clause of a law of the class, well typed; whether its test holds
def sgC (w : Nat) (I : MI) (a b : Int32) : List Int := sgF (I (w + 1)) a.toNatClampNeg (b.toInt - a.toInt).toNat
def LWX (w : Nat) (I : MI) (c : Nat) : Prop := (0 ≤ (I (w + 2) c).toInt ∧ (I (w + 2) c).toInt ≤ 23) ∧ ((I (w + 3) c).toInt ≤ (I (w + 4) c).toInt ∧ (I (w + 4) c).toInt ≤ (I (w + 5) c).toInt) ∧ (tyx (sgC w I (I (w + 3) c) (I (w + 4) c)) [] = some [false] ∧ cv (sgC w I (I (w + 3) c) (I (w + 4) c)) ≤ 60) ∧ (I (w + 4) c ≠ I (w + 5) c → tyx (sgC w I (I (w + 4) c) (I (w + 5) c)) [] = some [true] ∧ cv (sgC w I (I (w + 4) c) (I (w + 5) c)) ≤ 60)
def HOLD (b w : Nat) (I : MI) (c : Nat) : Prop := I (w + 4) c = I (w + 5) c ∨ ∃ v, evl (eC b I (I (w + 2) c).toNatClampNeg) (sgC w I (I (w + 4) c) (I (w + 5) c)) [] = [v] ∧ v ≠ 0
