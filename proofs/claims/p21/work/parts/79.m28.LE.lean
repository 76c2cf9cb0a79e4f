-- the code of a law is well typed: false a number, true a truth value
def ty1 (c : Int) (t : List Bool) : Option (List Bool) :=
  if -14 < c then some (false :: t)
  else if c = -14 then (match t with | true :: r => some (true :: r) | _ => none)
  else if -18 ≤ c then (match t with | false :: false :: r => some (false :: r) | _ => none)
  else if -23 ≤ c then (match t with | false :: false :: r => some (true :: r) | _ => none)
  else if -25 ≤ c then (match t with | true :: true :: r => some (true :: r) | _ => none)
  else none
def tyx : List Int → List Bool → Option (List Bool)
  | [], t => some t
  | c :: cs, t => (ty1 c t).bind (tyx cs)
theorem tyx_app (a b : List Int) : ∀ t, tyx (a ++ b) t = (tyx a t).bind (tyx b) := by
  induction a with
  | nil => intro t; rfl
  | cons c a ih =>
    intro t
    simp only [List.cons_append, tyx]
    cases ty1 c t with
    | none => rfl
    | some r => exact ih r
theorem tyx_1 {a : List Int} {c : Int} {t r q : List Bool} (h : tyx a t = some r) (h2 : ty1 c r = some q) : tyx (a ++ [c]) t = some q := by
  rw [tyx_app, h]
  simp only [Option.bind_some, tyx, h2]
theorem tyx_2 {a b : List Int} {t r q : List Bool} (h : tyx a t = some r) (h2 : tyx b r = some q) : tyx (a ++ b) t = some q := by
  rw [tyx_app, h]
  exact h2
theorem ty_val {c : Int} {t : List Bool} (h : -14 < c) : ty1 c t = some (false :: t) := if_pos h
theorem ty_not {r : List Bool} : ty1 (-14) (true :: r) = some (true :: r) := rfl
theorem ty_ar {c : Int} {r : List Bool} (h : -18 ≤ c ∧ c ≤ -15) : ty1 c (false :: false :: r) = some (false :: r) := by
  unfold ty1
  rw [if_neg (by omega), if_neg (by omega), if_pos (by omega)]
theorem ty_cm {c : Int} {r : List Bool} (h : -23 ≤ c ∧ c ≤ -19) : ty1 c (false :: false :: r) = some (true :: r) := by
  unfold ty1
  rw [if_neg (by omega), if_neg (by omega), if_neg (by omega), if_pos (by omega)]
theorem ty_lg {c : Int} {r : List Bool} (h : c = -24 ∨ c = -25) : ty1 c (true :: true :: r) = some (true :: r) := by
  unfold ty1
  rw [if_neg (by omega), if_neg (by omega), if_neg (by omega), if_neg (by omega), if_pos (by omega)]
theorem ty_ge {c : Int} {t q : List Bool} (h : ty1 c t = some q) : -25 ≤ c := by
  by_cases hc : -25 ≤ c
  · exact hc
  · unfold ty1 at h
    rw [if_neg (by omega), if_neg (by omega), if_neg (by omega), if_neg (by omega), if_neg hc] at h
    cases h
def nN (n : Nat) : List Bool := List.replicate n false
def nT (n : Nat) : List Bool := List.replicate n true
def ao : List Int → Nat
  | [] => 0
  | t :: s => (if t = -24 ∨ t = -25 then 1 else 0) + ao s
-- what popc takes and leaves
theorem popc_split {r : Int} : ∀ {s : List Int} {d : Int32} {co : List Int}, co.length + s.length ≤ 400 → ∃ P, s = P ++ (popc r s d co).1 ∧ (popc r s d co).2.2 = co ++ P ∧ (∀ x, x ∈ P → x ≠ -42 ∧ r ≤ rk x) ∧ LOW r (popc r s d co).1 := by
  intro s
  induction s with
  | nil => intro d co _; exact ⟨[], rfl, by simp [popc], fun x hx => (by cases hx), fun x l e => (by cases e)⟩
  | cons t s ih =>
    intro d co hl
    simp only [List.length_cons] at hl
    by_cases h : t ≠ -42 ∧ r ≤ rk t
    · rw [popc_y h (by omega)]
      obtain ⟨P, h1, h2, h3, h4⟩ := ih (d := if t = -14 then d - 1 else d) (co := co ++ [t]) (by simp only [List.length_append, List.length_cons, List.length_nil]; omega)
      refine ⟨t :: P, ?_, ?_, ?_, h4⟩
      · rw [List.cons_append, ← h1]
      · rw [h2, List.append_assoc]; rfl
      · intro x hx
        rcases List.mem_cons.mp hx with e | e
        · rw [e]; exact h
        · exact h3 x e
    · rw [popc, if_neg h]
      refine ⟨[], rfl, by simp, fun x hx => (by cases hx), fun x l e => ?_⟩
      cases e
      by_cases hq : t = -42
      · exact Or.inl hq
      · right
        have : ¬ r ≤ rk t := fun z => h ⟨hq, z⟩
        omega
theorem popc_dp {r : Int} : ∀ {s : List Int} {d : Int32} {co : List Int}, d.toInt = dpt s → dpt s ≤ 10 → (popc r s d co).2.1.toInt = dpt (popc r s d co).1 ∧ dpt (popc r s d co).1 ≤ dpt s ∧ brk (popc r s d co).1 = brk s := by
  intro s
  induction s with
  | nil => intro d co h _; exact ⟨h, Int.le_refl _, rfl⟩
  | cons t s ih =>
    intro d co h h10
    by_cases hq : t ≠ -42 ∧ r ≤ rk t
    · rw [popc, if_pos hq, brk_n hq.1]
      have hb := dpt_b s
      by_cases h14 : t = -14
      · rw [dpt_n (Or.inl h14)] at h h10 ⊢
        have e1 : (d - 1).toInt = d.toInt - 1 := a_sub rfl (by rw [show (1 : Int32).toInt = 1 from rfl]; omega) (by rw [show (1 : Int32).toInt = 1 from rfl]; omega)
        rw [if_pos h14]
        have := ih (d := d - 1) (co := adl co t) (by omega) (by omega)
        exact ⟨this.1, by omega, this.2.2⟩
      · have h2 : ¬ (t = -14 ∨ t = -42) := fun z => z.elim h14 hq.1
        rw [dpt_o h2] at h h10 ⊢
        rw [if_neg h14]
        exact ih h h10
    · rw [popc, if_neg hq]
      exact ⟨h, Int.le_refl _, rfl⟩
theorem WST.drop : ∀ {P B : List Int}, WST (P ++ B) → WST B := by
  intro P
  induction P with
  | nil => intro B h; exact h
  | cons t P ih => intro B h; exact ih h.2
theorem ty_popB : ∀ {P B : List Int}, WST (P ++ B) → (∀ x, x ∈ P → x ≠ -42) → tyx P (true :: nT (ao (P ++ B))) = some (true :: nT (ao B)) := by
  intro P
  induction P with
  | nil => intro B _ _; rfl
  | cons t P ih =>
    intro B h hn
    have h1 := wst_t h
    have ht := hn t (by simp)
    have hi := ih h.2 (fun x hx => hn x (by simp [hx]))
    simp only [List.cons_append, tyx, ao]
    by_cases h2 : t = -24 ∨ t = -25
    · rw [if_pos h2, Nat.add_comm 1, show nT (ao (P ++ B) + 1) = true :: nT (ao (P ++ B)) from rfl, ty_lg h2]
      exact hi
    · rw [if_neg h2, Nat.zero_add, show t = -14 from by omega, ty_not]
      exact hi
def AR (A : List Int) : Prop := ∀ x, x ∈ A → -18 ≤ x ∧ x ≤ -15
def CM (A : List Int) : Prop := ∃ A1 c, A = A1 ++ [c] ∧ AR A1 ∧ -23 ≤ c ∧ c ≤ -19
theorem ty_popA : ∀ {A : List Int} {k : Nat} {q : List Bool}, AR A → tyx A (nN (A.length + k + 1) ++ q) = some (nN (k + 1) ++ q) := by
  intro A
  induction A with
  | nil => intro k q _; simp [tyx]
  | cons t A ih =>
    intro k q h
    have ht := h t (by simp)
    have e : nN ((t :: A).length + k + 1) ++ q = false :: false :: (nN (A.length + k) ++ q) := by
      rw [show (t :: A).length + k + 1 = A.length + k + 1 + 1 from by simp only [List.length_cons]; omega]
      rfl
    rw [e]
    simp only [tyx, ty_ar ht]
    exact ih (fun x hx => h x (by simp [hx]))
theorem ty_popC {A : List Int} {q : List Bool} (h : CM A) : tyx A (nN (A.length + 1) ++ q) = some (true :: q) := by
  obtain ⟨A1, c, rfl, h1, h2⟩ := h
  have e := ty_popA (A := A1) (k := 1) (q := q) h1
  rw [show (A1 ++ [c]).length + 1 = A1.length + 1 + 1 from by simp]
  exact tyx_1 e (ty_cm h2)
-- ranks fall from the top
def FALL (A : List Int) : Prop := List.Pairwise (fun x y => rk y < rk x) A
theorem ar_rk {x : Int} (h : -18 ≤ x ∧ x ≤ -15) : 5 ≤ rk x := by
  rcases (show x = -18 ∨ x = -17 ∨ x = -16 ∨ x = -15 by omega) with rfl | rfl | rfl | rfl <;> decide
theorem cm_rk {x : Int} (h : -23 ≤ x ∧ x ≤ -19) : rk x = 4 := by
  rcases (show x = -23 ∨ x = -22 ∨ x = -21 ∨ x = -20 ∨ x = -19 by omega) with rfl | rfl | rfl | rfl | rfl <;> decide
theorem FALL.len {A : List Int} (h : FALL A) (h4 : ∀ x, x ∈ A → 4 ≤ rk x) : A.length ≤ 3 := by
  match A, h with
  | [], _ => simp
  | [_], _ => simp
  | [_, _], _ => simp
  | [_, _, _], _ => simp
  | a :: b :: c :: d :: l, h =>
    exfalso
    have h1 := List.pairwise_cons.mp h
    have h2 := List.pairwise_cons.mp h1.2
    have h3 := List.pairwise_cons.mp h2.2
    have e1 := h1.1 b (by simp)
    have e2 := h2.1 c (by simp)
    have e3 := h3.1 d (by simp)
    have e4 := h4 d (by simp)
    have e5 := rk_b a
    omega
