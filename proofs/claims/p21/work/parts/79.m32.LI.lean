-- what the code of a law answers
def lb (p : Prop) [Decidable p] : Int64 := if p then 1 else 0
def jn (c : Int) (a b : Int64) : Int64 := if c = -15 then a + b else if c = -16 then a - b else if c = -17 then a * b else if c = -18 then (if b = 0 then 0 else a / b) else if c = -19 then lb (a.toInt < b.toInt) else if c = -20 then lb (a.toInt ≤ b.toInt) else if c = -21 then lb (a.toInt = b.toInt) else if c = -22 then lb (b.toInt ≤ a.toInt) else if c = -23 then lb (b.toInt < a.toInt) else if c = -24 then lb (a ≠ 0 ∧ b ≠ 0) else lb (a ≠ 0 ∨ b ≠ 0)
def vl (e : Nat → Int64) (c : Int) : Int64 := if 0 ≤ c then Int64.ofInt c else e (-1 - c).toNat
def ev1 (e : Nat → Int64) (c : Int) (s : List Int64) : List Int64 :=
  if -14 < c then vl e c :: s
  else if c = -14 then (match s with | x :: r => (1 - x) :: r | [] => [])
  else (match s with | b :: a :: r => jn c a b :: r | _ => s)
def evl (e : Nat → Int64) : List Int → List Int64 → List Int64
  | [], s => s
  | c :: l, s => evl e l (ev1 e c s)
def TYS : List Bool → List Int64 → Prop
  | [], [] => True
  | t :: q, x :: s => (t = true → x = 0 ∨ x = 1) ∧ TYS q s
  | _, _ => False
theorem TYS.len : ∀ {q : List Bool} {s : List Int64}, TYS q s → s.length = q.length := by
  intro q
  induction q with
  | nil => intro s h; cases s with
    | nil => rfl
    | cons x s => exact absurd h (by simp [TYS])
  | cons t q ih => intro s h; cases s with
    | nil => exact absurd h (by simp [TYS])
    | cons x s => simp only [List.length_cons]; rw [ih h.2]
theorem lb_01 (p : Prop) [Decidable p] : lb p = 0 ∨ lb p = 1 := by
  unfold lb
  split
  · exact Or.inr rfl
  · exact Or.inl rfl
theorem jn_t {c : Int} (h : c ≤ -19) (a b : Int64) : jn c a b = 0 ∨ jn c a b = 1 := by
  unfold jn
  rw [if_neg (by omega), if_neg (by omega), if_neg (by omega), if_neg (by omega)]
  repeat' split
  all_goals exact lb_01 _
theorem TYS.uncons {t : Bool} {q : List Bool} {s : List Int64} (h : TYS (t :: q) s) : ∃ x r, s = x :: r ∧ (t = true → x = 0 ∨ x = 1) ∧ TYS q r := by
  cases s with
  | nil => exact absurd h (by simp [TYS])
  | cons x r => exact ⟨x, r, rfl, h.1, h.2⟩
-- one sign: what stood on the stack, and what stands there then
theorem ev_ty {e : Nat → Int64} {c : Int} {q q2 : List Bool} {s : List Int64} (h : TYS q s) (ht : ty1 c q = some q2) : TYS q2 (ev1 e c s) := by
  unfold ty1 at ht
  unfold ev1
  by_cases h1 : -14 < c
  · rw [if_pos h1] at ht ⊢
    cases ht
    exact ⟨fun z => (by cases z), h⟩
  rw [if_neg h1] at ht ⊢
  by_cases h2 : c = -14
  · rw [if_pos h2] at ht ⊢
    match q, h, ht with
    | true :: q, h, ht =>
      obtain ⟨x, r, rfl, h3, h4⟩ := h.uncons
      cases ht
      refine ⟨fun _ => ?_, h4⟩
      rcases h3 rfl with z | z <;> rw [z]
      · exact Or.inr rfl
      · exact Or.inl rfl
    | false :: q, h, ht => cases ht
    | [], h, ht => cases ht
  rw [if_neg h2] at ht ⊢
  by_cases h3 : -18 ≤ c
  · rw [if_pos h3] at ht
    match q, h, ht with
    | false :: false :: q, h, ht =>
      obtain ⟨x, r, rfl, -, h4⟩ := h.uncons
      obtain ⟨y, r2, rfl, -, h5⟩ := h4.uncons
      cases ht
      exact ⟨fun z => (by cases z), h5⟩
    | [], h, ht => cases ht
    | true :: q, h, ht => cases ht
    | [false], h, ht => cases ht
    | false :: true :: q, h, ht => cases ht
  rw [if_neg h3] at ht
  by_cases h6 : -23 ≤ c
  · rw [if_pos h6] at ht
    match q, h, ht with
    | false :: false :: q, h, ht =>
      obtain ⟨x, r, rfl, -, h4⟩ := h.uncons
      obtain ⟨y, r2, rfl, -, h5⟩ := h4.uncons
      cases ht
      exact ⟨fun _ => jn_t (by omega) _ _, h5⟩
    | [], h, ht => cases ht
    | true :: q, h, ht => cases ht
    | [false], h, ht => cases ht
    | false :: true :: q, h, ht => cases ht
  rw [if_neg h6] at ht
  by_cases h7 : -25 ≤ c
  case neg => rw [if_neg h7] at ht; cases ht
  rw [if_pos h7] at ht
  match q, h, ht with
  | true :: true :: q, h, ht =>
    obtain ⟨x, r, rfl, -, h4⟩ := h.uncons
    obtain ⟨y, r2, rfl, -, h5⟩ := h4.uncons
    cases ht
    exact ⟨fun _ => jn_t (by omega) _ _, h5⟩
  | [], h, ht => cases ht
  | false :: q, h, ht => cases ht
  | [true], h, ht => cases ht
  | true :: false :: q, h, ht => cases ht
theorem evl_ty {e : Nat → Int64} : ∀ {l : List Int} {q q2 : List Bool} {s : List Int64}, TYS q s → tyx l q = some q2 → TYS q2 (evl e l s) := by
  intro l
  induction l with
  | nil => intro q q2 s h ht; cases ht; exact h
  | cons c l ih =>
    intro q q2 s h ht
    simp only [tyx] at ht
    cases hq : ty1 c q with
    | none => rw [hq] at ht; cases ht
    | some q1 => rw [hq] at ht; exact ih (ev_ty h hq) ht
-- so many on the stack as there are values at most
theorem ty_len {c : Int} {q q2 : List Bool} (h : ty1 c q = some q2) : q2.length ≤ q.length + (if -14 < c then 1 else 0) := by
  unfold ty1 at h
  by_cases h1 : -14 < c
  · rw [if_pos h1] at h ⊢; cases h; simp
  rw [if_neg h1] at h ⊢
  by_cases h2 : c = -14
  · rw [if_pos h2] at h
    match q, h with
    | true :: q, h => cases h; simp
    | false :: q, h => cases h
    | [], h => cases h
  rw [if_neg h2] at h
  by_cases h3 : -18 ≤ c
  · rw [if_pos h3] at h
    match q, h with
    | false :: false :: q, h => cases h; simp
    | [], h => cases h
    | true :: q, h => cases h
    | [false], h => cases h
    | false :: true :: q, h => cases h
  rw [if_neg h3] at h
  by_cases h6 : -23 ≤ c
  · rw [if_pos h6] at h
    match q, h with
    | false :: false :: q, h => cases h; simp
    | [], h => cases h
    | true :: q, h => cases h
    | [false], h => cases h
    | false :: true :: q, h => cases h
  rw [if_neg h6] at h
  by_cases h7 : -25 ≤ c
  case neg => rw [if_neg h7] at h; cases h
  rw [if_pos h7] at h
  match q, h with
  | true :: true :: q, h => cases h; simp
  | [], h => cases h
  | false :: q, h => cases h
  | [true], h => cases h
  | true :: false :: q, h => cases h
-- truth values: bit by bit is as well
theorem lg_and {a b : Int64} (ha : a = 0 ∨ a = 1) (hb : b = 0 ∨ b = 1) : a &&& b = jn (-24) a b := by
  rcases ha with rfl | rfl <;> rcases hb with rfl | rfl <;> decide
theorem lg_or {a b : Int64} (ha : a = 0 ∨ a = 1) (hb : b = 0 ∨ b = 1) : a ||| b = jn (-25) a b := by
  rcases ha with rfl | rfl <;> rcases hb with rfl | rfl <;> decide
