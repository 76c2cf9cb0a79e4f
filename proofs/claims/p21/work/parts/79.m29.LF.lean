-- what waits and what was made, token by token
def KD (pt : Int) (A B : List Int) : Prop := (pt = 0 ∧ B = [] ∧ AR A) ∨ (pt = 1 ∧ AR A) ∨ (pt = 2 ∧ CM A)
def SG (aw pt : Int) (A B seg : List Int) : Prop := (aw = 3 ∧ KD pt A B ∧ tyx seg [] = some (nN A.length ++ nT (ao B))) ∨ (aw = 4 ∧ KD pt A B ∧ tyx seg [] = some (nN (A.length + 1) ++ nT (ao B))) ∨ (aw = 2 ∧ A = [] ∧ tyx seg [] = some (nT (ao B))) ∨ (aw = 4 ∧ pt = 3 ∧ A = [] ∧ tyx seg [] = some (true :: nT (ao B)))
theorem KD.in {pt : Int} {A B : List Int} (h : KD pt A B) : ∀ x, x ∈ A → (-23 ≤ x ∧ x ≤ -15) ∧ 4 ≤ rk x := by
  intro x hx
  rcases h with ⟨-, -, h⟩ | ⟨-, h⟩ | ⟨-, A1, c, e, h1, h2⟩
  · have := h x hx; exact ⟨by omega, by have := ar_rk this; omega⟩
  · have := h x hx; exact ⟨by omega, by have := ar_rk this; omega⟩
  · rw [e] at hx
    rcases List.mem_append.mp hx with q | q
    · have := h1 x q; exact ⟨by omega, by have := ar_rk this; omega⟩
    · have : x = c := by simpa using q
      rw [this]; exact ⟨by omega, by have := cm_rk h2; omega⟩
theorem dpt_A : ∀ {A B : List Int}, (∀ x, x ∈ A → -23 ≤ x ∧ x ≤ -15) → dpt (A ++ B) = dpt B ∧ brk (A ++ B) = brk B := by
  intro A
  induction A with
  | nil => intro B _; exact ⟨rfl, rfl⟩
  | cons t A ih =>
    intro B h
    have ht := h t (by simp)
    have hi := ih (B := B) (fun x hx => h x (by simp [hx]))
    rw [List.cons_append, dpt_o (by omega), brk_n (by omega)]
    exact hi
theorem wst_rk : ∀ {B : List Int}, WST B → ∀ x, x ∈ B → x = -42 ∨ rk x ≤ 3 := by
  intro B
  induction B with
  | nil => intro _ x hx; cases hx
  | cons t B ih =>
    intro h x hx
    rcases List.mem_cons.mp hx with e | e
    · subst e
      rcases wst_t h with h1 | h1 | h1 | h1
      · right; rw [h1]; decide
      · exact Or.inl h1
      · right; rw [h1]; decide
      · right; rw [h1]; decide
    · exact ih h.2 x e
-- signs that bind more than facts do go from A alone
theorem cut_A {r : Int} {A B P R : List Int} (hr : 4 ≤ r) (hw : WST B) (e : A ++ B = P ++ R) (hP : ∀ x, x ∈ P → x ≠ -42 ∧ r ≤ rk x) : ∃ A2, A = P ++ A2 ∧ R = A2 ++ B := by
  rcases List.append_eq_append_iff.mp e with ⟨C, h1, h2⟩ | ⟨C, h1, h2⟩
  · cases C with
    | nil => exact ⟨[], by simpa using h1.symm, by simpa using h2.symm⟩
    | cons x C =>
      exfalso
      have g1 := hP x (by rw [h1]; simp)
      have g2 := wst_rk hw x (by rw [h2]; simp)
      omega
  · exact ⟨C, h1, h2⟩
theorem sg_val {aw pt t : Int} {A B seg : List Int} (h : SG aw pt A B seg) (ha : aw = 3) (ht : -14 < t) : SG 4 pt A B (seg ++ [t]) := by
  rcases h with ⟨h1, h2, h3⟩ | ⟨h1, -⟩ | ⟨h1, -⟩ | ⟨h1, -⟩
  · exact Or.inr (Or.inl ⟨rfl, h2, tyx_1 h3 (ty_val ht)⟩)
  · omega
  · omega
  · omega
theorem sg_val2 {pt t : Int} {A B seg : List Int} (h : SG 2 pt A B seg) (ht : -14 < t) : SG 4 1 A B (seg ++ [t]) := by
  rcases h with ⟨h1, -⟩ | ⟨h1, -⟩ | ⟨-, h2, h3⟩ | ⟨h1, -⟩
  · omega
  · omega
  · subst h2
    exact Or.inr (Or.inl ⟨rfl, Or.inr (Or.inl ⟨rfl, fun x hx => (by cases hx)⟩), tyx_1 h3 (ty_val ht)⟩)
  · omega
theorem sg_kd {pt : Int} {A B seg : List Int} (h : SG 4 pt A B seg) (hp : pt ≠ 3) : KD pt A B ∧ tyx seg [] = some (nN (A.length + 1) ++ nT (ao B)) := by
  rcases h with ⟨h1, -⟩ | ⟨-, h2, h3⟩ | ⟨h1, -⟩ | ⟨-, h2, -⟩
  · omega
  · exact ⟨h2, h3⟩
  · omega
  · exact absurd h2 hp
theorem FALL.drop : ∀ {P A : List Int}, FALL (P ++ A) → FALL A := by
  intro P
  induction P with
  | nil => intro A h; exact h
  | cons t P ih => intro A h; exact ih (List.pairwise_cons.mp h).2
theorem FALL.cons {t : Int} {A B : List Int} (h : FALL A) (hl : LOW (rk t) (A ++ B)) (hA : ∀ x, x ∈ A → -23 ≤ x ∧ x ≤ -15) : FALL (t :: A) := by
  refine List.pairwise_cons.mpr ⟨?_, h⟩
  cases A with
  | nil => intro x hx; cases hx
  | cons a A =>
    have h1 := hl a (A ++ B) rfl
    have h2 := hA a (by simp)
    have h3 := List.pairwise_cons.mp h
    intro x hx
    rcases List.mem_cons.mp hx with e | e
    · rw [e]; omega
    · have := h3.1 x e; omega
-- a sign of numbers
theorem sg_ar {pt t : Int} {A B P R seg : List Int} (h : SG 4 pt A B seg) (hp : pt ≠ 3) (ht : -18 ≤ t ∧ t ≤ -15) (hw : WST B) (hf : FALL A) (e : A ++ B = P ++ R) (hP : ∀ x, x ∈ P → x ≠ -42 ∧ rk t ≤ rk x) (hl : LOW (rk t) R) : ∃ A2, t :: R = (t :: A2) ++ B ∧ FALL (t :: A2) ∧ SG 3 pt (t :: A2) B (seg ++ P) := by
  obtain ⟨hk, hty⟩ := sg_kd h hp
  have h5 := ar_rk ht
  obtain ⟨A2, e1, e2⟩ := cut_A (by omega) hw e hP
  have hin := hk.in
  have hPar : AR P := fun x hx => by
    have g1 := (hin x (by rw [e1]; simp [hx])).1
    have g2 := hP x hx
    by_cases hq : x ≤ -19
    · have := cm_rk (x := x) (by omega); omega
    · omega
  have hk2 : KD pt (t :: A2) B := by
    rcases hk with ⟨k1, k2, k3⟩ | ⟨k1, k3⟩ | ⟨k1, A1, c, k2, k3, k4⟩
    · exact Or.inl ⟨k1, k2, fun x hx => by
        rcases List.mem_cons.mp hx with q | q
        · rw [q]; exact ht
        · exact k3 x (by rw [e1]; simp [q])⟩
    · exact Or.inr (Or.inl ⟨k1, fun x hx => by
        rcases List.mem_cons.mp hx with q | q
        · rw [q]; exact ht
        · exact k3 x (by rw [e1]; simp [q])⟩)
    · right; right
      refine ⟨k1, ?_⟩
      rw [k2] at e1
      rcases List.append_eq_append_iff.mp e1 with ⟨C, g1, g2⟩ | ⟨C, g1, g2⟩
      · -- P reaches over the comparison
        cases C with
        | nil =>
          refine ⟨[t], c, ?_, fun x hx => ?_, k4⟩
          · have : A2 = [c] := by simpa using g2.symm
            rw [this]; rfl
          · have : x = t := by simpa using hx
            rw [this]; exact ht
        | cons y C =>
          exfalso
          have gy : y = c := by have := congrArg List.head? g2; simpa using this.symm
          have := hP y (by rw [g1]; simp)
          have := cm_rk k4
          rw [gy] at *
          omega
      · exact ⟨t :: C, c, by rw [g2]; rfl, fun x hx => by
          rcases List.mem_cons.mp hx with q | q
          · rw [q]; exact ht
          · exact k3 x (by rw [g1]; simp [q]), k4⟩
  refine ⟨A2, by rw [e2]; rfl, ?_, Or.inl ⟨rfl, hk2, ?_⟩⟩
  · rw [e1] at hf
    exact hf.drop.cons (by rw [← e2]; exact hl) (fun x hx => (hin x (by rw [e1]; simp [hx])).1)
  · refine tyx_2 hty ?_
    rw [e1, List.length_append]
    exact ty_popA (k := A2.length) hPar
-- a comparison
theorem sg_cm {t : Int} {A B P R seg : List Int} (h : SG 4 1 A B seg) (ht : -23 ≤ t ∧ t ≤ -19) (hw : WST B) (e : A ++ B = P ++ R) (hP : ∀ x, x ∈ P → x ≠ -42 ∧ rk t ≤ rk x) (hl : LOW (rk t) R) : R = B ∧ SG 3 2 [t] B (seg ++ P) := by
  obtain ⟨hk, hty⟩ := sg_kd h (by decide)
  have h4 := cm_rk ht
  rw [h4] at hP hl
  obtain ⟨A2, e1, e2⟩ := cut_A (Int.le_refl 4) hw e hP
  have hin := hk.in
  have h2 : A2 = [] := by
    cases A2 with
    | nil => rfl
    | cons a A2 =>
      exfalso
      have g1 := hl a (A2 ++ B) (by rw [e2]; rfl)
      have g2 := hin a (by rw [e1]; simp)
      omega
  subst h2
  rw [List.append_nil] at e1
  subst e1
  have har : AR A := by
    rcases hk with ⟨k1, -⟩ | ⟨-, k⟩ | ⟨k1, -⟩
    · omega
    · exact k
    · omega
  refine ⟨by simpa using e2, Or.inl ⟨rfl, Or.inr (Or.inr ⟨rfl, [], t, rfl, fun x hx => (by cases hx), ht⟩), tyx_2 hty ?_⟩⟩
  exact ty_popA (k := 0) har
-- a fact is whole: what waits of the facts before
theorem sg_fact {pt r : Int} {A B P R seg : List Int} (h : SG 4 pt A B seg) (hp : pt = 2 ∨ pt = 3) (hr : r ≤ 3) (hw : WST B) (e : A ++ B = P ++ R) (hP : ∀ x, x ∈ P → x ≠ -42 ∧ r ≤ rk x) (hl : LOW r R) : (∃ P2, B = P2 ++ R) ∧ WST R ∧ tyx (seg ++ P) [] = some (true :: nT (ao R)) := by
  have hty : ∃ A', A' = A ∧ (∀ x, x ∈ A → (-23 ≤ x ∧ x ≤ -15) ∧ 4 ≤ rk x) ∧ tyx (seg ++ A) [] = some (true :: nT (ao B)) := by
    rcases h with ⟨h1, -⟩ | ⟨-, h2, h3⟩ | ⟨h1, -⟩ | ⟨-, h2, h3, h4⟩
    · omega
    · rcases h2 with ⟨k1, -⟩ | ⟨k1, -⟩ | ⟨k1, k2⟩
      · omega
      · omega
      · exact ⟨A, rfl, KD.in (B := B) (Or.inr (Or.inr ⟨k1, k2⟩)), tyx_2 h3 (ty_popC k2)⟩
    · omega
    · subst h3
      exact ⟨[], rfl, fun x hx => (by cases hx), by rw [List.append_nil]; exact h4⟩
  obtain ⟨A', -, hin, hty⟩ := hty
  rcases List.append_eq_append_iff.mp e with ⟨C, h1, h2⟩ | ⟨C, h1, h2⟩
  · refine ⟨⟨C, h2⟩, (by rw [h2] at hw; exact hw.drop), ?_⟩
    rw [h1, ← List.append_assoc]
    refine tyx_2 hty ?_
    rw [h2] at hw ⊢
    exact ty_popB hw (fun x hx => (hP x (by rw [h1]; simp [hx])).1)
  · cases C with
    | nil =>
      have hPA : P = A := by simpa using h1.symm
      have hRB : R = B := by simpa using h2
      rw [hPA, hRB]
      exact ⟨⟨[], rfl⟩, hw, hty⟩
    | cons x C =>
      exfalso
      have g1 := hl x (C ++ B) (by rw [h2]; rfl)
      have g2 := hin x (by rw [h1]; simp)
      omega
theorem sg_sum {r : Int} {A B P R seg : List Int} (h : SG 4 0 A B seg) (hr : r ≤ 3) (e : A ++ B = P ++ R) (hP : ∀ x, x ∈ P → x ≠ -42 ∧ r ≤ rk x) (hl : LOW r R) : R = [] ∧ tyx (seg ++ P) [] = some [false] := by
  obtain ⟨hk, hty⟩ := sg_kd h (by decide)
  have hin := hk.in
  rcases hk with ⟨-, hB, har⟩ | ⟨k1, -⟩ | ⟨k1, -⟩
  · subst hB
    rw [List.append_nil] at e
    have hR : R = [] := by
      cases R with
      | nil => rfl
      | cons x R =>
        exfalso
        have g1 := hl x R rfl
        have g2 := hin x (by rw [e]; simp)
        omega
    subst hR
    rw [List.append_nil] at e
    subst e
    exact ⟨rfl, tyx_2 hty (ty_popA (k := 0) har)⟩
  · omega
  · omega
