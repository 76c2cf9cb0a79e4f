theorem tk_ar {T : Nat → Int} (hT : OKT T) {q : Nat} (h0 : tkv T q ≤ -15 ∧ -18 ≤ tkv T q) : ((T q = 43 ∧ tkv T q = -15) ∨ (T q = 45 ∧ tkv T q = -16) ∨ (T q = 42 ∧ tkv T q = -17) ∨ (T q = 47 ∧ tkv T q = -18)) ∧ tkn T q = 1 := by
  have h := tkc hT q
  unfold TKC sgs at h
  rcases h with h | h | h | h | h | h
  · omega
  · omega
  · omega
  · obtain ⟨hr, hs, hn⟩ := h
    rcases hs with hs | hs | hs | hs | hs | hs | hs | hs | hs | hs | hs | hs | hs <;> (omega)
  · obtain ⟨hr, hn, hw⟩ := h
    rcases hw with hw | hw | hw | hw | hw | hw | hw | hw | hw | hw <;> (omega)
  · omega
theorem tk_ar2 {T : Nat → Int} (hT : OKT T) {q : Nat} (h0 : T q = 43 ∨ T q = 45 ∨ T q = 42 ∨ T q = 47) : ((T q = 43 ∧ tkv T q = -15) ∨ (T q = 45 ∧ tkv T q = -16) ∨ (T q = 42 ∧ tkv T q = -17) ∨ (T q = 47 ∧ tkv T q = -18)) ∧ tkn T q = 1 := by
  have h := tkc hT q
  unfold TKC sgs at h
  rcases h with h | h | h | h | h | h
  · omega
  · omega
  · omega
  · obtain ⟨hr, hs, hn⟩ := h
    rcases hs with hs | hs | hs | hs | hs | hs | hs | hs | hs | hs | hs | hs | hs <;> (omega)
  · obtain ⟨hr, hn, hw⟩ := h
    rcases hw with hw | hw | hw | hw | hw | hw | hw | hw | hw | hw <;> (omega)
  · omega
theorem tk_cm {T : Nat → Int} (hT : OKT T) {q : Nat} (h0 : tkv T q ≤ -19 ∧ -23 ≤ tkv T q) : T q = 60 ∨ T q = 61 ∨ T q = 62 := by
  have h := tkc hT q
  unfold TKC sgs at h
  rcases h with h | h | h | h | h | h
  · omega
  · omega
  · omega
  · obtain ⟨hr, hs, hn⟩ := h
    rcases hs with hs | hs | hs | hs | hs | hs | hs | hs | hs | hs | hs | hs | hs <;> (omega)
  · obtain ⟨hr, hn, hw⟩ := h
    rcases hw with hw | hw | hw | hw | hw | hw | hw | hw | hw | hw <;> (omega)
  · omega
theorem tk_cm2 {T : Nat → Int} {q : Nat} (h0 : T q = 60 ∨ T q = 61 ∨ T q = 62) : (T q = 61 ∧ tkv T q = -21 ∧ tkn T q = 1) ∨ (T q = 60 ∧ T (q + 1) = 61 ∧ tkv T q = -20 ∧ tkn T q = 2) ∨ (T q = 60 ∧ T (q + 1) ≠ 61 ∧ tkv T q = -19 ∧ tkn T q = 1) ∨ (T q = 62 ∧ T (q + 1) = 61 ∧ tkv T q = -22 ∧ tkn T q = 2) ∨ (T q = 62 ∧ T (q + 1) ≠ 61 ∧ tkv T q = -23 ∧ tkn T q = 1) := by
  have h1 := tk_S (T := T) (q := q) (by omega) (by omega) (by omega)
  rcases h0 with e | e | e
  · by_cases e2 : T (q + 1) = 61
    · rw [if_pos ⟨Or.inl e, e2⟩] at h1
      exact Or.inr (Or.inl ⟨e, e2, h1.1.trans (by unfold sgv; rw [if_pos e, if_pos e2]), h1.2⟩)
    · rw [if_neg (fun z => e2 z.2)] at h1
      exact Or.inr (Or.inr (Or.inl ⟨e, e2, h1.1.trans (by unfold sgv; rw [if_pos e, if_neg e2]), h1.2⟩))
  · rw [if_neg (by omega)] at h1
    exact Or.inl ⟨e, h1.1.trans (by unfold sgv; rw [if_neg (show ¬ T q = 60 by omega), if_neg (show ¬ T q = 62 by omega), if_neg (show ¬ T q = 43 by omega), if_neg (show ¬ T q = 45 by omega), if_neg (show ¬ T q = 42 by omega), if_neg (show ¬ T q = 47 by omega), if_pos e]), h1.2⟩
  · by_cases e2 : T (q + 1) = 61
    · rw [if_pos ⟨Or.inr e, e2⟩] at h1
      exact Or.inr (Or.inr (Or.inr (Or.inl ⟨e, e2, h1.1.trans (by unfold sgv; rw [if_neg (show ¬ T q = 60 by omega), if_pos e, if_pos e2]), h1.2⟩)))
    · rw [if_neg (fun z => e2 z.2)] at h1
      exact Or.inr (Or.inr (Or.inr (Or.inr ⟨e, e2, h1.1.trans (by unfold sgv; rw [if_neg (show ¬ T q = 60 by omega), if_pos e, if_neg e2]), h1.2⟩)))
theorem tk_op {T : Nat → Int} (hT : OKT T) {q : Nat} (h0 : T q = 91) : tkv T q = -42 ∧ tkn T q = 1 := by
  have h := tkc hT q
  unfold TKC sgs at h
  rcases h with h | h | h | h | h | h
  · omega
  · omega
  · omega
  · obtain ⟨hr, hs, hn⟩ := h
    rcases hs with hs | hs | hs | hs | hs | hs | hs | hs | hs | hs | hs | hs | hs <;> (omega)
  · obtain ⟨hr, hn, hw⟩ := h
    rcases hw with hw | hw | hw | hw | hw | hw | hw | hw | hw | hw <;> (omega)
  · omega
theorem tk_op2 {T : Nat → Int} (hT : OKT T) {q : Nat} (h0 : tkv T q = -42) : T q = 91 := by
  have h := tkc hT q
  unfold TKC sgs at h
  rcases h with h | h | h | h | h | h
  · omega
  · omega
  · omega
  · obtain ⟨hr, hs, hn⟩ := h
    rcases hs with hs | hs | hs | hs | hs | hs | hs | hs | hs | hs | hs | hs | hs <;> (omega)
  · obtain ⟨hr, hn, hw⟩ := h
    rcases hw with hw | hw | hw | hw | hw | hw | hw | hw | hw | hw <;> (omega)
  · omega
theorem tk_cl {T : Nat → Int} (hT : OKT T) {q : Nat} (h0 : T q = 93) : tkv T q = -43 ∧ tkn T q = 1 := by
  have h := tkc hT q
  unfold TKC sgs at h
  rcases h with h | h | h | h | h | h
  · omega
  · omega
  · omega
  · obtain ⟨hr, hs, hn⟩ := h
    rcases hs with hs | hs | hs | hs | hs | hs | hs | hs | hs | hs | hs | hs | hs <;> (omega)
  · obtain ⟨hr, hn, hw⟩ := h
    rcases hw with hw | hw | hw | hw | hw | hw | hw | hw | hw | hw <;> (omega)
  · omega
theorem tk_cl2 {T : Nat → Int} (hT : OKT T) {q : Nat} (h0 : tkv T q = -43) : T q = 93 := by
  have h := tkc hT q
  unfold TKC sgs at h
  rcases h with h | h | h | h | h | h
  · omega
  · omega
  · omega
  · obtain ⟨hr, hs, hn⟩ := h
    rcases hs with hs | hs | hs | hs | hs | hs | hs | hs | hs | hs | hs | hs | hs <;> (omega)
  · obtain ⟨hr, hn, hw⟩ := h
    rcases hw with hw | hw | hw | hw | hw | hw | hw | hw | hw | hw <;> (omega)
  · omega
theorem tk_nx {T : Nat → Int} (hT : OKT T) {q : Nat} (h0 : T q = 59) : tkv T q = -44 ∧ tkn T q = 1 := by
  have h := tkc hT q
  unfold TKC sgs at h
  rcases h with h | h | h | h | h | h
  · omega
  · omega
  · omega
  · obtain ⟨hr, hs, hn⟩ := h
    rcases hs with hs | hs | hs | hs | hs | hs | hs | hs | hs | hs | hs | hs | hs <;> (omega)
  · obtain ⟨hr, hn, hw⟩ := h
    rcases hw with hw | hw | hw | hw | hw | hw | hw | hw | hw | hw <;> (omega)
  · omega
theorem tk_nx2 {T : Nat → Int} (hT : OKT T) {q : Nat} (h0 : tkv T q = -44) : T q = 59 := by
  have h := tkc hT q
  unfold TKC sgs at h
  rcases h with h | h | h | h | h | h
  · omega
  · omega
  · omega
  · obtain ⟨hr, hs, hn⟩ := h
    rcases hs with hs | hs | hs | hs | hs | hs | hs | hs | hs | hs | hs | hs | hs <;> (omega)
  · obtain ⟨hr, hn, hw⟩ := h
    rcases hw with hw | hw | hw | hw | hw | hw | hw | hw | hw | hw <;> (omega)
  · omega
theorem tk_nd {T : Nat → Int} (hT : OKT T) {q : Nat} (h0 : ¬ (48 ≤ T q ∧ T q ≤ 57)) : tkv T q < 0 ∧ tkv T q ≠ -46 := by
  have h := tkc hT q
  unfold TKC sgs at h
  rcases h with h | h | h | h | h | h
  · omega
  · omega
  · omega
  · obtain ⟨hr, hs, hn⟩ := h
    rcases hs with hs | hs | hs | hs | hs | hs | hs | hs | hs | hs | hs | hs | hs <;> (omega)
  · obtain ⟨hr, hn, hw⟩ := h
    rcases hw with hw | hw | hw | hw | hw | hw | hw | hw | hw | hw <;> (omega)
  · omega
theorem tk_en2 {T : Nat → Int} (hT : OKT T) {q : Nat} (h0 : tkv T q = -45) : T q = -45 := by
  have h := tkc hT q
  unfold TKC sgs at h
  rcases h with h | h | h | h | h | h
  · omega
  · omega
  · omega
  · obtain ⟨hr, hs, hn⟩ := h
    rcases hs with hs | hs | hs | hs | hs | hs | hs | hs | hs | hs | hs | hs | hs <;> (omega)
  · obtain ⟨hr, hn, hw⟩ := h
    rcases hw with hw | hw | hw | hw | hw | hw | hw | hw | hw | hw <;> (omega)
  · omega
theorem tk_and2 {T : Nat → Int} (hT : OKT T) {q : Nat} (h0 : tkv T q = -24) : wq T q [97, 110, 100] = true := by
  have h := tkc hT q
  unfold TKC sgs at h
  rcases h with h | h | h | h | h | h
  · first | omega | exact hw.1
  · first | omega | exact hw.1
  · first | omega | exact hw.1
  · obtain ⟨hr, hs, hn⟩ := h
    rcases hs with hs | hs | hs | hs | hs | hs | hs | hs | hs | hs | hs | hs | hs <;> (first | omega | exact hw.1)
  · obtain ⟨hr, hn, hw⟩ := h
    rcases hw with hw | hw | hw | hw | hw | hw | hw | hw | hw | hw <;> (first | omega | exact hw.1)
  · first | omega | exact hw.1
theorem tk_or2 {T : Nat → Int} (hT : OKT T) {q : Nat} (h0 : tkv T q = -25) : wq T q [111, 114] = true := by
  have h := tkc hT q
  unfold TKC sgs at h
  rcases h with h | h | h | h | h | h
  · first | omega | exact hw.1
  · first | omega | exact hw.1
  · first | omega | exact hw.1
  · obtain ⟨hr, hs, hn⟩ := h
    rcases hs with hs | hs | hs | hs | hs | hs | hs | hs | hs | hs | hs | hs | hs <;> (first | omega | exact hw.1)
  · obtain ⟨hr, hn, hw⟩ := h
    rcases hw with hw | hw | hw | hw | hw | hw | hw | hw | hw | hw <;> (first | omega | exact hw.1)
  · first | omega | exact hw.1
theorem tk_not2 {T : Nat → Int} (hT : OKT T) {q : Nat} (h0 : tkv T q = -14) : wq T q [110, 111, 116] = true := by
  have h := tkc hT q
  unfold TKC sgs at h
  rcases h with h | h | h | h | h | h
  · first | omega | exact hw.1
  · first | omega | exact hw.1
  · first | omega | exact hw.1
  · obtain ⟨hr, hs, hn⟩ := h
    rcases hs with hs | hs | hs | hs | hs | hs | hs | hs | hs | hs | hs | hs | hs <;> (first | omega | exact hw.1)
  · obtain ⟨hr, hn, hw⟩ := h
    rcases hw with hw | hw | hw | hw | hw | hw | hw | hw | hw | hw <;> (first | omega | exact hw.1)
  · first | omega | exact hw.1
theorem tk_if2 {T : Nat → Int} (hT : OKT T) {q : Nat} (h0 : tkv T q = -41) : wq T q [105, 102] = true := by
  have h := tkc hT q
  unfold TKC sgs at h
  rcases h with h | h | h | h | h | h
  · first | omega | exact hw.1
  · first | omega | exact hw.1
  · first | omega | exact hw.1
  · obtain ⟨hr, hs, hn⟩ := h
    rcases hs with hs | hs | hs | hs | hs | hs | hs | hs | hs | hs | hs | hs | hs <;> (first | omega | exact hw.1)
  · obtain ⟨hr, hn, hw⟩ := h
    rcases hw with hw | hw | hw | hw | hw | hw | hw | hw | hw | hw <;> (first | omega | exact hw.1)
  · first | omega | exact hw.1
theorem tk_turn2 {T : Nat → Int} (hT : OKT T) {q : Nat} (h0 : tkv T q = -40) : wq T q [116, 117, 114, 110] = true := by
  have h := tkc hT q
  unfold TKC sgs at h
  rcases h with h | h | h | h | h | h
  · first | omega | exact hw.1
  · first | omega | exact hw.1
  · first | omega | exact hw.1
  · obtain ⟨hr, hs, hn⟩ := h
    rcases hs with hs | hs | hs | hs | hs | hs | hs | hs | hs | hs | hs | hs | hs <;> (first | omega | exact hw.1)
  · obtain ⟨hr, hn, hw⟩ := h
    rcases hw with hw | hw | hw | hw | hw | hw | hw | hw | hw | hw <;> (first | omega | exact hw.1)
  · first | omega | exact hw.1
def rwd (k : Nat) : List Int := match k with | 0 => [104, 111, 117, 114] | 1 => [109, 111, 110, 116, 104] | 2 => [100, 97, 121] | 3 => [115, 108, 97, 110, 116] | 4 => [115, 117, 110] | 5 => [97] | 6 => [98] | 7 => [99] | 8 => [100] | 9 => [101] | 10 => [102] | 11 => [103] | _ => [104]
theorem tk_rw {T : Nat → Int} {q k : Nat} (hk : k ≤ 12) (h : wq T q (rwd k) = true) : tkv T q = -1 - (k : Int) ∧ tkn T q = (rwd k).length ∧ T q ≠ 32 := by
  rcases (show k = 0 ∨ k = 1 ∨ k = 2 ∨ k = 3 ∨ k = 4 ∨ k = 5 ∨ k = 6 ∨ k = 7 ∨ k = 8 ∨ k = 9 ∨ k = 10 ∨ k = 11 ∨ k = 12 by omega) with rfl | rfl | rfl | rfl | rfl | rfl | rfl | rfl | rfl | rfl | rfl | rfl | rfl
  · have := tk_hour h
    exact ⟨by omega, this.2.1, by omega⟩
  · have := tk_month h
    exact ⟨by omega, this.2.1, by omega⟩
  · have := tk_day h
    exact ⟨by omega, this.2.1, by omega⟩
  · have := tk_slant h
    exact ⟨by omega, this.2.1, by omega⟩
  · have := tk_sun h
    exact ⟨by omega, this.2.1, by omega⟩
  · have := tk_one (c := 97) (by decide) h
    exact ⟨by omega, this.2.1, by omega⟩
  · have := tk_one (c := 98) (by decide) h
    exact ⟨by omega, this.2.1, by omega⟩
  · have := tk_one (c := 99) (by decide) h
    exact ⟨by omega, this.2.1, by omega⟩
  · have := tk_one (c := 100) (by decide) h
    exact ⟨by omega, this.2.1, by omega⟩
  · have := tk_one (c := 101) (by decide) h
    exact ⟨by omega, this.2.1, by omega⟩
  · have := tk_one (c := 102) (by decide) h
    exact ⟨by omega, this.2.1, by omega⟩
  · have := tk_one (c := 103) (by decide) h
    exact ⟨by omega, this.2.1, by omega⟩
  · have := tk_one (c := 104) (by decide) h
    exact ⟨by omega, this.2.1, by omega⟩
theorem tk_rw2 {T : Nat → Int} (hT : OKT T) {q : Nat} (hd : ¬ (48 ≤ T q ∧ T q ≤ 57)) (h : ∀ k, k ≤ 12 → wq T q (rwd k) = false) : tkv T q ≤ -14 ∧ tkv T q ≠ -46 := by
  have hno : ∀ k, k ≤ 12 → wq T q (rwd k) = true → False := fun k hk e => by rw [h k hk] at e; cases e
  have h9 := h
  clear h
  have h := tkc hT q
  unfold TKC sgs at h
  rcases h with h | h | h | h | h | h
  · omega
  · omega
  · obtain ⟨hr, hn, h1, h5, hv⟩ := h
    exfalso
    rcases (show T q = 97 ∨ T q = 98 ∨ T q = 99 ∨ T q = 100 ∨ T q = 101 ∨ T q = 102 ∨ T q = 103 ∨ T q = 104 by omega) with e | e | e | e | e | e | e | e
    · exact hno 5 (by decide) (wq_one h1 e)
    · exact hno 6 (by decide) (wq_one h1 e)
    · exact hno 7 (by decide) (wq_one h1 e)
    · exact hno 8 (by decide) (wq_one h1 e)
    · exact hno 9 (by decide) (wq_one h1 e)
    · exact hno 10 (by decide) (wq_one h1 e)
    · exact hno 11 (by decide) (wq_one h1 e)
    · exact hno 12 (by decide) (wq_one h1 e)
  · obtain ⟨hr, hs, hn⟩ := h
    rcases hs with hs | hs | hs | hs | hs | hs | hs | hs | hs | hs | hs | hs | hs <;> omega
  · obtain ⟨hr, hn, hw⟩ := h
    rcases hw with hw | hw | hw | hw | hw | hw | hw | hw | hw | hw
    · omega
    · exact (hno 2 (by decide) hw.1).elim
    · exact (hno 0 (by decide) hw.1).elim
    · omega
    · exact (hno 1 (by decide) hw.1).elim
    · omega
    · omega
    · exact (hno 4 (by decide) hw.1).elim
    · exact (hno 3 (by decide) hw.1).elim
    · omega
  · omega
-- the program's reader as a function of the text
def rk (t : Int) : Int := if t = -25 then 1 else if t = -24 then 2 else if t = -14 then 3 else if t = -15 ∨ t = -16 then 5 else if t = -17 ∨ t = -18 then 6 else 4
theorem rk_of {t r : Int} (h : (t = -25 ∧ r = 1) ∨ (t = -24 ∧ r = 2) ∨ (t = -14 ∧ r = 3) ∨ ((t = -15 ∨ t = -16) ∧ r = 5) ∨ ((t = -17 ∨ t = -18) ∧ r = 6) ∨ ((t ≠ -25 ∧ t ≠ -24 ∧ t ≠ -14 ∧ t ≠ -15 ∧ t ≠ -16 ∧ t ≠ -17 ∧ t ≠ -18) ∧ r = 4)) : r = rk t := by
  unfold rk
  by_cases h1 : t = -25
  · rw [if_pos h1]; omega
  rw [if_neg h1]
  by_cases h2 : t = -24
  · rw [if_pos h2]; omega
  rw [if_neg h2]
  by_cases h3 : t = -14
  · rw [if_pos h3]; omega
  rw [if_neg h3]
  by_cases h4 : t = -15 ∨ t = -16
  · rw [if_pos h4]; omega
  rw [if_neg h4]
  by_cases h5 : t = -17 ∨ t = -18
  · rw [if_pos h5]; omega
  rw [if_neg h5]
  omega
theorem rk_b (t : Int) : 1 ≤ rk t ∧ rk t ≤ 6 := by
  unfold rk
  by_cases h1 : t = -25
  · rw [if_pos h1]; omega
  rw [if_neg h1]
  by_cases h2 : t = -24
  · rw [if_pos h2]; omega
  rw [if_neg h2]
  by_cases h3 : t = -14
  · rw [if_pos h3]; omega
  rw [if_neg h3]
  by_cases h4 : t = -15 ∨ t = -16
  · rw [if_pos h4]; omega
  rw [if_neg h4]
  by_cases h5 : t = -17 ∨ t = -18
  · rw [if_pos h5]; omega
  rw [if_neg h5]
  omega
abbrev CLT := Nat × (Nat → Int) × (Nat → Int) × (Nat → Int) × (Nat → Int)
abbrev RES := Int × List Int × CLT
abbrev KON := Nat → Int → Int → List Int → Int32 → List Int → Int32 → Int → CLT → Option RES
def fu (f : Nat → Int) (k : Nat) (v : Int) : Nat → Int := fun i => if i = k then v else f i
def psh (st : List Int) (t : Int) : List Int := if st.length < 64 then t :: st else st
def adl (co : List Int) (t : Int) : List Int := if co.length < 400 then co ++ [t] else co
def popc (r : Int) : List Int → Int32 → List Int → List Int × Int32 × List Int
  | [], d, co => ([], d, co)
  | t :: s, d, co => if t ≠ -42 ∧ r ≤ rk t then popc r s (if t = -14 then d - 1 else d) (adl co t) else (t :: s, d, co)
def bgc (c : CLT) (t : Int) (n : Nat) : CLT := if c.1 < 12 then (c.1, fu c.2.1 c.1 t, fu c.2.2.1 c.1 n, c.2.2.2.1, c.2.2.2.2) else c
def bgt (c : CLT) (n : Nat) : CLT := if c.1 < 12 then (c.1, c.2.1, c.2.2.1, fu c.2.2.2.1 c.1 n, c.2.2.2.2) else c
def edc (c : CLT) (n : Nat) : CLT := if c.1 < 12 then (c.1 + 1, c.2.1, c.2.2.1, c.2.2.2.1, fu c.2.2.2.2 c.1 n) else c
def nul : CLT := (0, fun _ => 0, fun _ => 0, fun _ => 0, fun _ => 0)
def flt (v : Int) : Option RES := some (v, [], nul)
def cbV (K : KON) (q : Nat) (t : Int) (p : Nat) (pt : Int) (st : List Int) (dp : Int32) (co : List Int) (br : Int32) (vc : Int) (c : CLT) : Option RES :=
  if t = -46 then flt (1 + 8 * (q : Int) + 1) else if t ≤ -14 then flt (1 + 8 * (q : Int)) else if 60 ≤ vc then flt (1 + 8 * (q : Int) + 3) else K p 4 pt st dp (adl co t) br (vc + 1) c
def cbS (K : KON) (t : Int) (p : Nat) (pt aw : Int) (z : List Int × Int32 × List Int) (br : Int32) (vc : Int) (c : CLT) : Option RES := K p aw pt (psh z.1 t) z.2.1 z.2.2 br vc c
def cbE (K : KON) (t : Int) (p : Nat) (pt : Int) (z : List Int × Int32 × List Int) (br : Int32) (vc : Int) (c : CLT) : Option RES :=
  if t = -44 then K p 0 pt z.1 z.2.1 z.2.2 br vc (edc (if pt = 0 then bgt c z.2.2.length else c) z.2.2.length) else some (0, z.2.2, edc (if pt = 0 then bgt c z.2.2.length else c) z.2.2.length)
def cbB (K : KON) (q : Nat) (t : Int) (p : Nat) (pt : Int) (st : List Int) (dp : Int32) (co : List Int) (br : Int32) (vc : Int) (c : CLT) : Option RES :=
  if (t ≤ -15 ∧ -18 ≤ t) ∧ pt ≠ 3 then cbS K t p pt 3 (popc (rk t) st dp co) br vc c
  else if (t ≤ -19 ∧ -23 ≤ t) ∧ pt = 1 then (if 60 ≤ vc then flt (1 + 8 * (q : Int) + 3) else cbS K t p 2 3 (popc (rk t) st dp co) br (vc + 1) c)
  else if (t = -24 ∨ t = -25) ∧ (pt = 2 ∨ pt = 3) then cbS K t p 1 2 (popc (rk t) st dp co) br vc c
  else if t = -43 ∧ (pt = 2 ∨ pt = 3) ∧ 0 < br.toInt then K p 4 3 (popc 1 st dp co).1.tail ((popc 1 st dp co).2.1 - 1) (popc 1 st dp co).2.2 (br - 1) vc c
  else if t = -41 ∧ pt = 0 then K p 2 pt (popc 0 st dp co).1 (popc 0 st dp co).2.1 (popc 0 st dp co).2.2 br vc (bgt c (popc 0 st dp co).2.2.length)
  else if (t = -44 ∨ t = -45) ∧ pt ≠ 1 ∧ br = 0 then cbE K t p pt (popc 1 st dp co) br vc c
  else flt (1 + 8 * (q : Int))
def cbF (K : KON) (q : Nat) (t : Int) (p : Nat) (pt : Int) (st : List Int) (dp : Int32) (co : List Int) (br : Int32) (vc : Int) (c : CLT) : Option RES :=
  if t = -14 ∨ t = -42 then (if 10 ≤ dp.toInt then flt (1 + 8 * (q : Int) + 2) else K p 2 pt (psh st t) (dp + 1) co (br + if t = -42 then 1 else 0) vc c) else cbV K q t p 1 st dp co br vc c
def cbT (K : KON) (q : Nat) (t : Int) (p : Nat) (pt : Int) (st : List Int) (dp : Int32) (co : List Int) (br : Int32) (vc : Int) (c : CLT) : Option RES :=
  if t ≠ -40 then flt (1 + 8 * (q : Int)) else if 12 ≤ c.1 then flt (1 + 8 * (q : Int) + 4) else K p 1 pt st dp co br vc c
def cbM (K : KON) (q : Nat) (t : Int) (p : Nat) (st : List Int) (dp : Int32) (co : List Int) (br : Int32) (vc : Int) (c : CLT) : Option RES :=
  if t < 0 ∧ t ≠ -46 then flt (1 + 8 * (q : Int)) else if t < 0 ∨ 24 ≤ t then flt (1 + 8 * (q : Int) + 1) else K p 3 0 st dp co br vc (bgc c t co.length)
def cbo (K : KON) (q : Nat) (t : Int) (p : Nat) (aw pt : Int) (st : List Int) (dp : Int32) (co : List Int) (br : Int32) (vc : Int) (c : CLT) : Option RES :=
  if aw = 0 then cbT K q t p pt st dp co br vc c else if aw = 1 then cbM K q t p st dp co br vc c else if aw = 2 then cbF K q t p pt st dp co br vc c else if aw = 3 then cbV K q t p pt st dp co br vc c else cbB K q t p pt st dp co br vc c
def crun (T : Nat → Int) : Nat → KON
  | 0 => fun _ _ _ _ _ _ _ _ _ => none
  | f + 1 => fun pl aw pt st dp co br vc c => cbo (crun T f) (skp T pl) (tkv T (skp T pl)) (skp T pl + tkn T (skp T pl)) aw pt st dp co br vc c
theorem crun_s (T : Nat → Int) (f pl : Nat) (aw pt : Int) (st : List Int) (dp : Int32) (co : List Int) (br : Int32) (vc : Int) (c : CLT) : crun T (f + 1) pl aw pt st dp co br vc c = cbo (crun T f) (skp T pl) (tkv T (skp T pl)) (skp T pl + tkn T (skp T pl)) aw pt st dp co br vc c := rfl
theorem crun_i {T : Nat → Int} {f pl : Nat} {aw pt : Int} {st : List Int} {dp : Int32} {co : List Int} {br : Int32} {vc : Int} {c : CLT} {F : RES} (h : crun T f pl aw pt st dp co br vc c = some F) : ∃ g, cbo (crun T g) (skp T pl) (tkv T (skp T pl)) (skp T pl + tkn T (skp T pl)) aw pt st dp co br vc c = some F := by
  cases f with
  | zero => cases h
  | succ g => exact ⟨g, h⟩
theorem cbo_0 (K : KON) (q : Nat) (t : Int) (p : Nat) (pt : Int) (st : List Int) (dp : Int32) (co : List Int) (br : Int32) (vc : Int) (c : CLT) : cbo K q t p 0 pt st dp co br vc c = cbT K q t p pt st dp co br vc c := by simp [cbo]
theorem cbo_1 (K : KON) (q : Nat) (t : Int) (p : Nat) (pt : Int) (st : List Int) (dp : Int32) (co : List Int) (br : Int32) (vc : Int) (c : CLT) : cbo K q t p 1 pt st dp co br vc c = cbM K q t p st dp co br vc c := by simp [cbo]
theorem cbo_2 (K : KON) (q : Nat) (t : Int) (p : Nat) (pt : Int) (st : List Int) (dp : Int32) (co : List Int) (br : Int32) (vc : Int) (c : CLT) : cbo K q t p 2 pt st dp co br vc c = cbF K q t p pt st dp co br vc c := by simp [cbo]
theorem cbo_3 (K : KON) (q : Nat) (t : Int) (p : Nat) (pt : Int) (st : List Int) (dp : Int32) (co : List Int) (br : Int32) (vc : Int) (c : CLT) : cbo K q t p 3 pt st dp co br vc c = cbV K q t p pt st dp co br vc c := by simp [cbo]
theorem cbo_4 (K : KON) (q : Nat) (t : Int) (p : Nat) (pt : Int) (st : List Int) (dp : Int32) (co : List Int) (br : Int32) (vc : Int) (c : CLT) : cbo K q t p 4 pt st dp co br vc c = cbB K q t p pt st dp co br vc c := by simp [cbo]
theorem adl_y {co : List Int} {t : Int} (h : co.length < 400) : adl co t = co ++ [t] := if_pos h
theorem popc_app {r : Int} {st : List Int} {dp : Int32} : ∀ {A co : List Int}, (∀ x, x ∈ A → r ≤ rk x ∧ x ≠ -42 ∧ x ≠ -14) → co.length + A.length ≤ 400 → popc r (A ++ st) dp co = popc r st dp (co ++ A) := by
  intro A
  induction A with
  | nil => intro co _ _; simp
  | cons x A ih =>
    intro co h hl
    have hx := h x (by simp)
    simp only [List.length_cons] at hl
    rw [List.cons_append, popc, if_pos ⟨hx.2.1, hx.1⟩, if_neg hx.2.2, adl_y (by omega), ih (fun y hy => h y (by simp [hy])) (by simp only [List.length_append, List.length_cons, List.length_nil]; omega), List.append_assoc]
    rfl
def LOW (r : Int) (st : List Int) : Prop := ∀ x l, st = x :: l → x = -42 ∨ rk x < r
theorem popc_low {r : Int} {st : List Int} {dp : Int32} {co : List Int} (h : LOW r st) : popc r st dp co = (st, dp, co) := by
  cases st with
  | nil => rfl
  | cons x l =>
    have := h x l rfl
    rw [popc, if_neg (by omega)]
theorem LOW.mono {r r2 : Int} {st : List Int} (h : LOW r st) (hr : r ≤ r2) : LOW r2 st := fun x l e => by
  have := h x l e
  omega
