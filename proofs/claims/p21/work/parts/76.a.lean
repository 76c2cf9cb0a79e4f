-- texts of laws: bytes, blanks, letters, digits
def b8 (v : Int32) : Int := (v &&& 255).toInt
theorem b8_r (v : Int32) : 0 ≤ b8 v ∧ b8 v ≤ 255 := a_and (x := v) (y := 255) rfl (by decide) (by decide)
theorem b8_or {v : Int32} (h : -128 ≤ v.toInt ∧ v.toInt ≤ 127) : (v.toInt < 0 ∧ b8 v = v.toInt + 256) ∨ (0 ≤ v.toInt ∧ b8 v = v.toInt) := by
  have h1 : (un (v &&& 255) : Int) = b8 v := un_nn (b8_r v).1
  have h2 : un (v &&& 255) = un v % 256 := by
    show (v &&& 255).toBitVec.toNat = _
    rw [Int32.toBitVec_and, BitVec.toNat_and]
    exact Nat.and_two_pow_sub_one_eq_mod (un v) 8
  have h3 := un_lt v
  have h4 : v.toInt = v.toBitVec.toInt := rfl
  have h5 := BitVec.toInt_eq_msb_cond v.toBitVec
  have h6 : v.toBitVec.toNat = un v := rfl
  split at h5
  · omega
  · omega
def TXT (f : Nat → Int32) (n : Int) (p : Nat) : Int := if (p : Int) < n then b8 (f p) else -45
theorem TXT_y {f : Nat → Int32} {n : Int} {p : Nat} (h : (p : Int) < n) : TXT f n p = b8 (f p) := if_pos h
theorem TXT_n {f : Nat → Int32} {n : Int} {p : Nat} (h : n ≤ (p : Int)) : TXT f n p = -45 := if_neg (by omega)
def OKT (T : Nat → Int) : Prop := ∀ p, (400 ≤ p → T p = -45) ∧ (T p = -45 ∨ (0 ≤ T p ∧ T p ≤ 255))
theorem TXT_ok {f : Nat → Int32} {n : Int} (h : n ≤ 400) : OKT (TXT f n) := by
  intro p
  refine ⟨fun q => TXT_n (by omega), ?_⟩
  by_cases hp : (p : Int) < n
  · right
    rw [TXT_y hp]
    exact b8_r _
  · left
    exact TXT_n (by omega)
theorem TXT_ext {f g : Nat → Int32} {n : Int} (h : ∀ p : Nat, (p : Int) < n → f p = g p) : TXT f n = TXT g n := by
  funext p
  unfold TXT
  by_cases hp : (p : Int) < n
  · rw [if_pos hp, if_pos hp, h p hp]
  · rw [if_neg hp, if_neg hp]
def rnf (P : Int → Bool) (T : Nat → Int) : Nat → Nat → Nat
  | 0, _ => 0
  | f + 1, p => if P (T p) = true then rnf P T f (p + 1) + 1 else 0
def rnl (P : Int → Bool) (T : Nat → Int) (p : Nat) : Nat := rnf P T (400 - p) p
theorem rnl_y {P : Int → Bool} {T : Nat → Int} {p : Nat} (hp : p < 400) (h : P (T p) = true) : rnl P T p = rnl P T (p + 1) + 1 := by
  unfold rnl
  rw [show 400 - p = (400 - (p + 1)) + 1 from by omega, rnf, if_pos h]
theorem rnl_e {P : Int → Bool} {T : Nat → Int} {p : Nat} (hp : 400 ≤ p) : rnl P T p = 0 := by
  unfold rnl
  rw [show 400 - p = 0 from by omega]
  rfl
theorem rnl_n {P : Int → Bool} {T : Nat → Int} {p : Nat} (h : P (T p) = false) : rnl P T p = 0 := by
  rcases Nat.lt_or_ge p 400 with hp | hp
  · unfold rnl
    rw [show 400 - p = (400 - (p + 1)) + 1 from by omega, rnf, if_neg (by rw [h]; decide)]
  · exact rnl_e hp
theorem rnl_all {P : Int → Bool} {T : Nat → Int} : ∀ (m p : Nat), 400 - p = m → ∀ i, i < rnl P T p → P (T (p + i)) = true := by
  intro m
  induction m with
  | zero =>
    intro p hp i hi
    rw [rnl_e (by omega)] at hi
    omega
  | succ m ih =>
    intro p hp i hi
    cases hq : P (T p) with
    | false =>
      rw [rnl_n hq] at hi
      omega
    | true =>
      rw [rnl_y (by omega) hq] at hi
      cases i with
      | zero => exact hq
      | succ i =>
        have := ih (p + 1) (by omega) i (by omega)
        rw [show p + (i + 1) = p + 1 + i from by omega]
        exact this
theorem rnl_le {P : Int → Bool} {T : Nat → Int} : ∀ (m p : Nat), 400 - p = m → rnl P T p ≤ m := by
  intro m
  induction m with
  | zero =>
    intro p hp
    rw [rnl_e (by omega)]
    exact Nat.le_refl 0
  | succ m ih =>
    intro p hp
    cases hq : P (T p) with
    | false =>
      rw [rnl_n hq]
      omega
    | true =>
      rw [rnl_y (by omega) hq]
      have := ih (p + 1) (by omega)
      omega
def bl (c : Int) : Bool := decide (c = 32)
def ltr (c : Int) : Bool := decide (97 ≤ c ∧ c ≤ 122)
def dg (c : Int) : Bool := decide (48 ≤ c ∧ c ≤ 57)
theorem bl_t {c : Int} (h : c = 32) : bl c = true := decide_eq_true h
theorem bl_f {c : Int} (h : c ≠ 32) : bl c = false := decide_eq_false h
theorem ltr_t {c : Int} (h : 97 ≤ c ∧ c ≤ 122) : ltr c = true := decide_eq_true h
theorem ltr_f {c : Int} (h : ¬ (97 ≤ c ∧ c ≤ 122)) : ltr c = false := decide_eq_false h
theorem dg_t {c : Int} (h : 48 ≤ c ∧ c ≤ 57) : dg c = true := decide_eq_true h
theorem dg_f {c : Int} (h : ¬ (48 ≤ c ∧ c ≤ 57)) : dg c = false := decide_eq_false h
theorem dg_i {c : Int} (h : dg c = true) : 48 ≤ c ∧ c ≤ 57 := of_decide_eq_true h
theorem ltr_i {c : Int} (h : ltr c = true) : 97 ≤ c ∧ c ≤ 122 := of_decide_eq_true h
def skp (T : Nat → Int) (p : Nat) : Nat := p + rnl bl T p
theorem skp_n {T : Nat → Int} {p : Nat} (h : T p ≠ 32) : skp T p = p := by
  unfold skp
  rw [rnl_n (bl_f h)]
  rfl
theorem skp_y {T : Nat → Int} {p : Nat} (hT : OKT T) (h : T p = 32) : skp T (p + 1) = skp T p := by
  have hp : p < 400 := by
    rcases Nat.lt_or_ge p 400 with hp | hp
    · exact hp
    · have := (hT p).1 hp
      omega
  unfold skp
  rw [rnl_y hp (bl_t h)]
  omega
theorem skp_t {T : Nat → Int} (hT : OKT T) : ∀ (m p : Nat), 400 - p = m → T (skp T p) ≠ 32 := by
  intro m
  induction m with
  | zero =>
    intro p hp hq
    have h1 : T p = -45 := (hT p).1 (by omega)
    rw [skp_n (by omega)] at hq
    omega
  | succ m ih =>
    intro p hp
    by_cases hq : T p = 32
    · rw [← skp_y hT hq]
      exact ih (p + 1) (by omega)
    · rw [skp_n hq]
      exact hq
theorem skp_b {T : Nat → Int} (hT : OKT T) (p : Nat) : T (skp T p) ≠ 32 := skp_t hT _ p rfl
theorem skp_i {T : Nat → Int} (hT : OKT T) (p : Nat) : skp T (skp T p) = skp T p := skp_n (skp_b hT p)
theorem skp_le {T : Nat → Int} {p : Nat} (hp : p ≤ 400) : p ≤ skp T p ∧ skp T p ≤ 400 := by
  unfold skp
  have := rnl_le (P := bl) (T := T) _ p rfl
  omega
-- numbers
def nv (T : Nat → Int) (p : Nat) : Nat → Int
  | 0 => 0
  | k + 1 => if k < 5 then 10 * nv T p k + (T (p + k) - 48) else nv T p k
def pw10 : Nat → Int
  | 0 => 1
  | k + 1 => 10 * pw10 k
theorem nv_b {T : Nat → Int} {p : Nat} : ∀ k, (∀ i, i < k → dg (T (p + i)) = true) → k ≤ 5 → 0 ≤ nv T p k ∧ nv T p k + 1 ≤ pw10 k := by
  intro k
  induction k with
  | zero => intro _ _; simp [nv, pw10]
  | succ k ih =>
    intro h hk
    have h1 := ih (fun i hi => h i (by omega)) (by omega)
    have h2 := dg_i (h k (by omega))
    rw [nv, if_pos (by omega), pw10]
    omega
theorem pw10_b {k : Nat} : (k ≤ 4 → pw10 k ≤ 10000) ∧ (k ≤ 5 → pw10 k ≤ 100000) := by
  refine ⟨fun h => ?_, fun h => ?_⟩
  · rcases (show k = 0 ∨ k = 1 ∨ k = 2 ∨ k = 3 ∨ k = 4 by omega) with rfl | rfl | rfl | rfl | rfl <;> decide
  · rcases (show k = 0 ∨ k = 1 ∨ k = 2 ∨ k = 3 ∨ k = 4 ∨ k = 5 by omega) with rfl | rfl | rfl | rfl | rfl | rfl <;> decide
theorem nv_9 {T : Nat → Int} {p k : Nat} (h : ∀ i, i < k → dg (T (p + i)) = true) (hk : k < 5) : 0 ≤ nv T p k ∧ nv T p k ≤ 9999 := by
  have h1 := nv_b k h (by omega)
  have h2 := (pw10_b (k := k)).1 (by omega)
  omega
theorem nv_99 {T : Nat → Int} {p k : Nat} (h : ∀ i, i < k → dg (T (p + i)) = true) (hk : k ≤ 5) : 0 ≤ nv T p k ∧ nv T p k ≤ 99999 := by
  have h1 := nv_b k h hk
  have h2 := (pw10_b (k := k)).2 hk
  omega
theorem nv_c {T : Nat → Int} {p k : Nat} (hk : 5 ≤ k) : nv T p (k + 1) = nv T p k := by
  rw [nv, if_neg (by omega)]
theorem nv_s {T : Nat → Int} {p k : Nat} (hk : k < 5) : nv T p (k + 1) = 10 * nv T p k + (T (p + k) - 48) := by
  rw [nv, if_pos hk]
-- words
def wqa (T : Nat → Int) : Nat → List Int → Bool
  | _, [] => true
  | p, c :: l => decide (T p = c) && wqa T (p + 1) l
def wq (T : Nat → Int) (p : Nat) (l : List Int) : Bool := decide (rnl ltr T p = l.length) && wqa T p l
theorem wqa_i {T : Nat → Int} : ∀ {l : List Int} {p : Nat}, (∀ k, (h : k < l.length) → T (p + k) = l[k]) → wqa T p l = true := by
  intro l
  induction l with
  | nil => intro p _; rfl
  | cons c l ih =>
    intro p h
    have h0 := h 0 (by simp)
    have h1 : wqa T (p + 1) l = true := ih (fun k hk => by
      have := h (k + 1) (by simpa using hk)
      rw [show p + 1 + k = p + (k + 1) from by omega]
      simpa using this)
    simp only [wqa, Bool.and_eq_true, decide_eq_true_eq]
    exact ⟨by simpa using h0, h1⟩
theorem wqa_o {T : Nat → Int} : ∀ {l : List Int} {p : Nat}, wqa T p l = true → ∀ k, (h : k < l.length) → T (p + k) = l[k] := by
  intro l
  induction l with
  | nil => intro p _ k h; simp at h
  | cons c l ih =>
    intro p h k hk
    simp only [wqa, Bool.and_eq_true, decide_eq_true_eq] at h
    cases k with
    | zero => simpa using h.1
    | succ k =>
      have := ih h.2 k (by simpa using hk)
      rw [show p + (k + 1) = p + 1 + k from by omega]
      simpa using this
def wdv (T : Nat → Int) (q : Nat) : Int := if wq T q [97, 110, 100] = true then -24 else if wq T q [100, 97, 121] = true then -3 else if wq T q [104, 111, 117, 114] = true then -1 else if wq T q [105, 102] = true then -41 else if wq T q [109, 111, 110, 116, 104] = true then -2 else if wq T q [110, 111, 116] = true then -14 else if wq T q [111, 114] = true then -25 else if wq T q [115, 117, 110] = true then -5 else if wq T q [115, 108, 97, 110, 116] = true then -4 else if wq T q [116, 117, 114, 110] = true then -40 else -47
def sgv (T : Nat → Int) (q : Nat) : Int := if T q = 60 then (if T (q + 1) = 61 then -20 else -19) else if T q = 62 then (if T (q + 1) = 61 then -22 else -23) else if T q = 43 then -15 else if T q = 45 then -16 else if T q = 42 then -17 else if T q = 47 then -18 else if T q = 61 then -21 else if T q = 91 then -42 else if T q = 93 then -43 else if T q = 59 then -44 else -47
def tkn (T : Nat → Int) (q : Nat) : Nat := if T q = -45 then 0 else if dg (T q) = true then rnl dg T q else if ltr (T q) = true then rnl ltr T q else if (T q = 60 ∨ T q = 62) ∧ T (q + 1) = 61 then 2 else 1
def tkv (T : Nat → Int) (q : Nat) : Int := if T q = -45 then -45 else if dg (T q) = true then (if 5 < rnl dg T q then -46 else nv T q (rnl dg T q)) else if ltr (T q) = true then (if rnl ltr T q = 1 then (if T q < 105 then 91 - T q else -47) else wdv T q) else sgv T q
theorem tk_E {T : Nat → Int} {q : Nat} (h : T q = -45) : tkv T q = -45 ∧ tkn T q = 0 := by
  unfold tkv tkn
  exact ⟨by rw [if_pos h], by rw [if_pos h]⟩
theorem tk_D {T : Nat → Int} {q : Nat} (h : 48 ≤ T q ∧ T q ≤ 57) : tkv T q = (if 5 < rnl dg T q then -46 else nv T q (rnl dg T q)) ∧ tkn T q = rnl dg T q := by
  have h0 : ¬ T q = -45 := by omega
  unfold tkv tkn
  exact ⟨by rw [if_neg h0, if_pos (dg_t h)], by rw [if_neg h0, if_pos (dg_t h)]⟩
theorem tk_L {T : Nat → Int} {q : Nat} (h : 97 ≤ T q ∧ T q ≤ 122) : tkv T q = (if rnl ltr T q = 1 then (if T q < 105 then 91 - T q else -47) else wdv T q) ∧ tkn T q = rnl ltr T q := by
  have hd : ¬ dg (T q) = true := fun e => by have := dg_i e; omega
  have h0 : ¬ T q = -45 := by omega
  unfold tkv tkn
  exact ⟨by rw [if_neg h0, if_neg hd, if_pos (ltr_t h)], by rw [if_neg h0, if_neg hd, if_pos (ltr_t h)]⟩
theorem tk_S {T : Nat → Int} {q : Nat} (h : T q ≠ -45) (h1 : ¬ (48 ≤ T q ∧ T q ≤ 57)) (h2 : ¬ (97 ≤ T q ∧ T q ≤ 122)) : tkv T q = sgv T q ∧ tkn T q = (if (T q = 60 ∨ T q = 62) ∧ T (q + 1) = 61 then 2 else 1) := by
  have hd : ¬ dg (T q) = true := fun e => h1 (dg_i e)
  have hl : ¬ ltr (T q) = true := fun e => h2 (ltr_i e)
  unfold tkv tkn
  exact ⟨by rw [if_neg h, if_neg hd, if_neg hl], by rw [if_neg h, if_neg hd, if_neg hl]⟩
theorem wq_i {T : Nat → Int} {q : Nat} {c : Int} {l : List Int} (h : wq T q (c :: l) = true) : rnl ltr T q = l.length + 1 ∧ T q = c := by
  simp only [wq, wqa, Bool.and_eq_true, decide_eq_true_eq, List.length_cons] at h
  exact ⟨h.1, h.2.1⟩
theorem wdv_c (T : Nat → Int) (q : Nat) : (wq T q [97, 110, 100] = true ∧ wdv T q = -24) ∨ (wq T q [100, 97, 121] = true ∧ wdv T q = -3) ∨ (wq T q [104, 111, 117, 114] = true ∧ wdv T q = -1) ∨ (wq T q [105, 102] = true ∧ wdv T q = -41) ∨ (wq T q [109, 111, 110, 116, 104] = true ∧ wdv T q = -2) ∨ (wq T q [110, 111, 116] = true ∧ wdv T q = -14) ∨ (wq T q [111, 114] = true ∧ wdv T q = -25) ∨ (wq T q [115, 117, 110] = true ∧ wdv T q = -5) ∨ (wq T q [115, 108, 97, 110, 116] = true ∧ wdv T q = -4) ∨ (wq T q [116, 117, 114, 110] = true ∧ wdv T q = -40) ∨ (wdv T q = -47 ∧ wq T q [97, 110, 100] = false ∧ wq T q [100, 97, 121] = false ∧ wq T q [104, 111, 117, 114] = false ∧ wq T q [105, 102] = false ∧ wq T q [109, 111, 110, 116, 104] = false ∧ wq T q [110, 111, 116] = false ∧ wq T q [111, 114] = false ∧ wq T q [115, 117, 110] = false ∧ wq T q [115, 108, 97, 110, 116] = false ∧ wq T q [116, 117, 114, 110] = false) := by
  unfold wdv
  by_cases h0 : wq T q [97, 110, 100] = true
  · rw [if_pos h0]
    exact Or.inl ⟨h0, rfl⟩
  by_cases h1 : wq T q [100, 97, 121] = true
  · rw [if_neg h0, if_pos h1]
    exact Or.inr (Or.inl ⟨h1, rfl⟩)
  by_cases h2 : wq T q [104, 111, 117, 114] = true
  · rw [if_neg h0, if_neg h1, if_pos h2]
    exact Or.inr (Or.inr (Or.inl ⟨h2, rfl⟩))
  by_cases h3 : wq T q [105, 102] = true
  · rw [if_neg h0, if_neg h1, if_neg h2, if_pos h3]
    exact Or.inr (Or.inr (Or.inr (Or.inl ⟨h3, rfl⟩)))
  by_cases h4 : wq T q [109, 111, 110, 116, 104] = true
  · rw [if_neg h0, if_neg h1, if_neg h2, if_neg h3, if_pos h4]
    exact Or.inr (Or.inr (Or.inr (Or.inr (Or.inl ⟨h4, rfl⟩))))
  by_cases h5 : wq T q [110, 111, 116] = true
  · rw [if_neg h0, if_neg h1, if_neg h2, if_neg h3, if_neg h4, if_pos h5]
    exact Or.inr (Or.inr (Or.inr (Or.inr (Or.inr (Or.inl ⟨h5, rfl⟩)))))
  by_cases h6 : wq T q [111, 114] = true
  · rw [if_neg h0, if_neg h1, if_neg h2, if_neg h3, if_neg h4, if_neg h5, if_pos h6]
    exact Or.inr (Or.inr (Or.inr (Or.inr (Or.inr (Or.inr (Or.inl ⟨h6, rfl⟩))))))
  by_cases h7 : wq T q [115, 117, 110] = true
  · rw [if_neg h0, if_neg h1, if_neg h2, if_neg h3, if_neg h4, if_neg h5, if_neg h6, if_pos h7]
    exact Or.inr (Or.inr (Or.inr (Or.inr (Or.inr (Or.inr (Or.inr (Or.inl ⟨h7, rfl⟩)))))))
  by_cases h8 : wq T q [115, 108, 97, 110, 116] = true
  · rw [if_neg h0, if_neg h1, if_neg h2, if_neg h3, if_neg h4, if_neg h5, if_neg h6, if_neg h7, if_pos h8]
    exact Or.inr (Or.inr (Or.inr (Or.inr (Or.inr (Or.inr (Or.inr (Or.inr (Or.inl ⟨h8, rfl⟩))))))))
  by_cases h9 : wq T q [116, 117, 114, 110] = true
  · rw [if_neg h0, if_neg h1, if_neg h2, if_neg h3, if_neg h4, if_neg h5, if_neg h6, if_neg h7, if_neg h8, if_pos h9]
    exact Or.inr (Or.inr (Or.inr (Or.inr (Or.inr (Or.inr (Or.inr (Or.inr (Or.inr (Or.inl ⟨h9, rfl⟩)))))))))
  rw [if_neg h0, if_neg h1, if_neg h2, if_neg h3, if_neg h4, if_neg h5, if_neg h6, if_neg h7, if_neg h8, if_neg h9]
  exact Or.inr (Or.inr (Or.inr (Or.inr (Or.inr (Or.inr (Or.inr (Or.inr (Or.inr (Or.inr (⟨rfl, Bool.eq_false_iff.mpr h0, Bool.eq_false_iff.mpr h1, Bool.eq_false_iff.mpr h2, Bool.eq_false_iff.mpr h3, Bool.eq_false_iff.mpr h4, Bool.eq_false_iff.mpr h5, Bool.eq_false_iff.mpr h6, Bool.eq_false_iff.mpr h7, Bool.eq_false_iff.mpr h8, Bool.eq_false_iff.mpr h9⟩))))))))))
theorem tk_and {T : Nat → Int} {q : Nat} (h : wq T q [97, 110, 100] = true) : tkv T q = -24 ∧ tkn T q = 3 ∧ T q = 97 := by
  have h0 := wq_i h
  have h1 := tk_L (T := T) (q := q) (by omega)
  have hn : rnl ltr T q = 3 := h0.1
  rw [if_neg (by omega)] at h1
  have hv : wdv T q = -24 := by
    have hc := wdv_c T q
    have h9 := h
    simp only [wq, wqa, Bool.and_eq_true, decide_eq_true_eq, Bool.and_true, List.length_cons, List.length_nil] at h
    rcases hc with hc | hc | hc | hc | hc | hc | hc | hc | hc | hc | hc
    · exact hc.2
    · exfalso
      have hx := hc.1
      simp only [wq, wqa, Bool.and_eq_true, decide_eq_true_eq, Bool.and_true, List.length_cons, List.length_nil] at hx
      omega
    · exfalso
      have hx := hc.1
      simp only [wq, wqa, Bool.and_eq_true, decide_eq_true_eq, Bool.and_true, List.length_cons, List.length_nil] at hx
      omega
    · exfalso
      have hx := hc.1
      simp only [wq, wqa, Bool.and_eq_true, decide_eq_true_eq, Bool.and_true, List.length_cons, List.length_nil] at hx
      omega
    · exfalso
      have hx := hc.1
      simp only [wq, wqa, Bool.and_eq_true, decide_eq_true_eq, Bool.and_true, List.length_cons, List.length_nil] at hx
      omega
    · exfalso
      have hx := hc.1
      simp only [wq, wqa, Bool.and_eq_true, decide_eq_true_eq, Bool.and_true, List.length_cons, List.length_nil] at hx
      omega
    · exfalso
      have hx := hc.1
      simp only [wq, wqa, Bool.and_eq_true, decide_eq_true_eq, Bool.and_true, List.length_cons, List.length_nil] at hx
      omega
    · exfalso
      have hx := hc.1
      simp only [wq, wqa, Bool.and_eq_true, decide_eq_true_eq, Bool.and_true, List.length_cons, List.length_nil] at hx
      omega
    · exfalso
      have hx := hc.1
      simp only [wq, wqa, Bool.and_eq_true, decide_eq_true_eq, Bool.and_true, List.length_cons, List.length_nil] at hx
      omega
    · exfalso
      have hx := hc.1
      simp only [wq, wqa, Bool.and_eq_true, decide_eq_true_eq, Bool.and_true, List.length_cons, List.length_nil] at hx
      omega
    · exfalso
      have hx := hc.2.1
      exact absurd h9 (by rw [hx]; decide)
  exact ⟨h1.1.trans hv, h1.2.trans hn, h0.2⟩
theorem tk_day {T : Nat → Int} {q : Nat} (h : wq T q [100, 97, 121] = true) : tkv T q = -3 ∧ tkn T q = 3 ∧ T q = 100 := by
  have h0 := wq_i h
  have h1 := tk_L (T := T) (q := q) (by omega)
  have hn : rnl ltr T q = 3 := h0.1
  rw [if_neg (by omega)] at h1
  have hv : wdv T q = -3 := by
    have hc := wdv_c T q
    have h9 := h
    simp only [wq, wqa, Bool.and_eq_true, decide_eq_true_eq, Bool.and_true, List.length_cons, List.length_nil] at h
    rcases hc with hc | hc | hc | hc | hc | hc | hc | hc | hc | hc | hc
    · exfalso
      have hx := hc.1
      simp only [wq, wqa, Bool.and_eq_true, decide_eq_true_eq, Bool.and_true, List.length_cons, List.length_nil] at hx
      omega
    · exact hc.2
    · exfalso
      have hx := hc.1
      simp only [wq, wqa, Bool.and_eq_true, decide_eq_true_eq, Bool.and_true, List.length_cons, List.length_nil] at hx
      omega
    · exfalso
      have hx := hc.1
      simp only [wq, wqa, Bool.and_eq_true, decide_eq_true_eq, Bool.and_true, List.length_cons, List.length_nil] at hx
      omega
    · exfalso
      have hx := hc.1
      simp only [wq, wqa, Bool.and_eq_true, decide_eq_true_eq, Bool.and_true, List.length_cons, List.length_nil] at hx
      omega
    · exfalso
      have hx := hc.1
      simp only [wq, wqa, Bool.and_eq_true, decide_eq_true_eq, Bool.and_true, List.length_cons, List.length_nil] at hx
      omega
    · exfalso
      have hx := hc.1
      simp only [wq, wqa, Bool.and_eq_true, decide_eq_true_eq, Bool.and_true, List.length_cons, List.length_nil] at hx
      omega
    · exfalso
      have hx := hc.1
      simp only [wq, wqa, Bool.and_eq_true, decide_eq_true_eq, Bool.and_true, List.length_cons, List.length_nil] at hx
      omega
    · exfalso
      have hx := hc.1
      simp only [wq, wqa, Bool.and_eq_true, decide_eq_true_eq, Bool.and_true, List.length_cons, List.length_nil] at hx
      omega
    · exfalso
      have hx := hc.1
      simp only [wq, wqa, Bool.and_eq_true, decide_eq_true_eq, Bool.and_true, List.length_cons, List.length_nil] at hx
      omega
    · exfalso
      have hx := hc.2.2.1
      exact absurd h9 (by rw [hx]; decide)
  exact ⟨h1.1.trans hv, h1.2.trans hn, h0.2⟩
theorem tk_hour {T : Nat → Int} {q : Nat} (h : wq T q [104, 111, 117, 114] = true) : tkv T q = -1 ∧ tkn T q = 4 ∧ T q = 104 := by
  have h0 := wq_i h
  have h1 := tk_L (T := T) (q := q) (by omega)
  have hn : rnl ltr T q = 4 := h0.1
  rw [if_neg (by omega)] at h1
  have hv : wdv T q = -1 := by
    have hc := wdv_c T q
    have h9 := h
    simp only [wq, wqa, Bool.and_eq_true, decide_eq_true_eq, Bool.and_true, List.length_cons, List.length_nil] at h
    rcases hc with hc | hc | hc | hc | hc | hc | hc | hc | hc | hc | hc
    · exfalso
      have hx := hc.1
      simp only [wq, wqa, Bool.and_eq_true, decide_eq_true_eq, Bool.and_true, List.length_cons, List.length_nil] at hx
      omega
    · exfalso
      have hx := hc.1
      simp only [wq, wqa, Bool.and_eq_true, decide_eq_true_eq, Bool.and_true, List.length_cons, List.length_nil] at hx
      omega
    · exact hc.2
    · exfalso
      have hx := hc.1
      simp only [wq, wqa, Bool.and_eq_true, decide_eq_true_eq, Bool.and_true, List.length_cons, List.length_nil] at hx
      omega
    · exfalso
      have hx := hc.1
      simp only [wq, wqa, Bool.and_eq_true, decide_eq_true_eq, Bool.and_true, List.length_cons, List.length_nil] at hx
      omega
    · exfalso
      have hx := hc.1
      simp only [wq, wqa, Bool.and_eq_true, decide_eq_true_eq, Bool.and_true, List.length_cons, List.length_nil] at hx
      omega
    · exfalso
      have hx := hc.1
      simp only [wq, wqa, Bool.and_eq_true, decide_eq_true_eq, Bool.and_true, List.length_cons, List.length_nil] at hx
      omega
    · exfalso
      have hx := hc.1
      simp only [wq, wqa, Bool.and_eq_true, decide_eq_true_eq, Bool.and_true, List.length_cons, List.length_nil] at hx
      omega
    · exfalso
      have hx := hc.1
      simp only [wq, wqa, Bool.and_eq_true, decide_eq_true_eq, Bool.and_true, List.length_cons, List.length_nil] at hx
      omega
    · exfalso
      have hx := hc.1
      simp only [wq, wqa, Bool.and_eq_true, decide_eq_true_eq, Bool.and_true, List.length_cons, List.length_nil] at hx
      omega
    · exfalso
      have hx := hc.2.2.2.1
      exact absurd h9 (by rw [hx]; decide)
  exact ⟨h1.1.trans hv, h1.2.trans hn, h0.2⟩
theorem tk_if {T : Nat → Int} {q : Nat} (h : wq T q [105, 102] = true) : tkv T q = -41 ∧ tkn T q = 2 ∧ T q = 105 := by
  have h0 := wq_i h
  have h1 := tk_L (T := T) (q := q) (by omega)
  have hn : rnl ltr T q = 2 := h0.1
  rw [if_neg (by omega)] at h1
  have hv : wdv T q = -41 := by
    have hc := wdv_c T q
    have h9 := h
    simp only [wq, wqa, Bool.and_eq_true, decide_eq_true_eq, Bool.and_true, List.length_cons, List.length_nil] at h
    rcases hc with hc | hc | hc | hc | hc | hc | hc | hc | hc | hc | hc
    · exfalso
      have hx := hc.1
      simp only [wq, wqa, Bool.and_eq_true, decide_eq_true_eq, Bool.and_true, List.length_cons, List.length_nil] at hx
      omega
    · exfalso
      have hx := hc.1
      simp only [wq, wqa, Bool.and_eq_true, decide_eq_true_eq, Bool.and_true, List.length_cons, List.length_nil] at hx
      omega
    · exfalso
      have hx := hc.1
      simp only [wq, wqa, Bool.and_eq_true, decide_eq_true_eq, Bool.and_true, List.length_cons, List.length_nil] at hx
      omega
    · exact hc.2
    · exfalso
      have hx := hc.1
      simp only [wq, wqa, Bool.and_eq_true, decide_eq_true_eq, Bool.and_true, List.length_cons, List.length_nil] at hx
      omega
    · exfalso
      have hx := hc.1
      simp only [wq, wqa, Bool.and_eq_true, decide_eq_true_eq, Bool.and_true, List.length_cons, List.length_nil] at hx
      omega
    · exfalso
      have hx := hc.1
      simp only [wq, wqa, Bool.and_eq_true, decide_eq_true_eq, Bool.and_true, List.length_cons, List.length_nil] at hx
      omega
    · exfalso
      have hx := hc.1
      simp only [wq, wqa, Bool.and_eq_true, decide_eq_true_eq, Bool.and_true, List.length_cons, List.length_nil] at hx
      omega
    · exfalso
      have hx := hc.1
      simp only [wq, wqa, Bool.and_eq_true, decide_eq_true_eq, Bool.and_true, List.length_cons, List.length_nil] at hx
      omega
    · exfalso
      have hx := hc.1
      simp only [wq, wqa, Bool.and_eq_true, decide_eq_true_eq, Bool.and_true, List.length_cons, List.length_nil] at hx
      omega
    · exfalso
      have hx := hc.2.2.2.2.1
      exact absurd h9 (by rw [hx]; decide)
  exact ⟨h1.1.trans hv, h1.2.trans hn, h0.2⟩
theorem tk_month {T : Nat → Int} {q : Nat} (h : wq T q [109, 111, 110, 116, 104] = true) : tkv T q = -2 ∧ tkn T q = 5 ∧ T q = 109 := by
  have h0 := wq_i h
  have h1 := tk_L (T := T) (q := q) (by omega)
  have hn : rnl ltr T q = 5 := h0.1
  rw [if_neg (by omega)] at h1
  have hv : wdv T q = -2 := by
    have hc := wdv_c T q
    have h9 := h
    simp only [wq, wqa, Bool.and_eq_true, decide_eq_true_eq, Bool.and_true, List.length_cons, List.length_nil] at h
    rcases hc with hc | hc | hc | hc | hc | hc | hc | hc | hc | hc | hc
    · exfalso
      have hx := hc.1
      simp only [wq, wqa, Bool.and_eq_true, decide_eq_true_eq, Bool.and_true, List.length_cons, List.length_nil] at hx
      omega
    · exfalso
      have hx := hc.1
      simp only [wq, wqa, Bool.and_eq_true, decide_eq_true_eq, Bool.and_true, List.length_cons, List.length_nil] at hx
      omega
    · exfalso
      have hx := hc.1
      simp only [wq, wqa, Bool.and_eq_true, decide_eq_true_eq, Bool.and_true, List.length_cons, List.length_nil] at hx
      omega
    · exfalso
      have hx := hc.1
      simp only [wq, wqa, Bool.and_eq_true, decide_eq_true_eq, Bool.and_true, List.length_cons, List.length_nil] at hx
      omega
    · exact hc.2
    · exfalso
      have hx := hc.1
      simp only [wq, wqa, Bool.and_eq_true, decide_eq_true_eq, Bool.and_true, List.length_cons, List.length_nil] at hx
      omega
    · exfalso
      have hx := hc.1
      simp only [wq, wqa, Bool.and_eq_true, decide_eq_true_eq, Bool.and_true, List.length_cons, List.length_nil] at hx
      omega
    · exfalso
      have hx := hc.1
      simp only [wq, wqa, Bool.and_eq_true, decide_eq_true_eq, Bool.and_true, List.length_cons, List.length_nil] at hx
      omega
    · exfalso
      have hx := hc.1
      simp only [wq, wqa, Bool.and_eq_true, decide_eq_true_eq, Bool.and_true, List.length_cons, List.length_nil] at hx
      omega
    · exfalso
      have hx := hc.1
      simp only [wq, wqa, Bool.and_eq_true, decide_eq_true_eq, Bool.and_true, List.length_cons, List.length_nil] at hx
      omega
    · exfalso
      have hx := hc.2.2.2.2.2.1
      exact absurd h9 (by rw [hx]; decide)
  exact ⟨h1.1.trans hv, h1.2.trans hn, h0.2⟩
theorem tk_not {T : Nat → Int} {q : Nat} (h : wq T q [110, 111, 116] = true) : tkv T q = -14 ∧ tkn T q = 3 ∧ T q = 110 := by
  have h0 := wq_i h
  have h1 := tk_L (T := T) (q := q) (by omega)
  have hn : rnl ltr T q = 3 := h0.1
  rw [if_neg (by omega)] at h1
  have hv : wdv T q = -14 := by
    have hc := wdv_c T q
    have h9 := h
    simp only [wq, wqa, Bool.and_eq_true, decide_eq_true_eq, Bool.and_true, List.length_cons, List.length_nil] at h
    rcases hc with hc | hc | hc | hc | hc | hc | hc | hc | hc | hc | hc
    · exfalso
      have hx := hc.1
      simp only [wq, wqa, Bool.and_eq_true, decide_eq_true_eq, Bool.and_true, List.length_cons, List.length_nil] at hx
      omega
    · exfalso
      have hx := hc.1
      simp only [wq, wqa, Bool.and_eq_true, decide_eq_true_eq, Bool.and_true, List.length_cons, List.length_nil] at hx
      omega
    · exfalso
      have hx := hc.1
      simp only [wq, wqa, Bool.and_eq_true, decide_eq_true_eq, Bool.and_true, List.length_cons, List.length_nil] at hx
      omega
    · exfalso
      have hx := hc.1
      simp only [wq, wqa, Bool.and_eq_true, decide_eq_true_eq, Bool.and_true, List.length_cons, List.length_nil] at hx
      omega
    · exfalso
      have hx := hc.1
      simp only [wq, wqa, Bool.and_eq_true, decide_eq_true_eq, Bool.and_true, List.length_cons, List.length_nil] at hx
      omega
    · exact hc.2
    · exfalso
      have hx := hc.1
      simp only [wq, wqa, Bool.and_eq_true, decide_eq_true_eq, Bool.and_true, List.length_cons, List.length_nil] at hx
      omega
    · exfalso
      have hx := hc.1
      simp only [wq, wqa, Bool.and_eq_true, decide_eq_true_eq, Bool.and_true, List.length_cons, List.length_nil] at hx
      omega
    · exfalso
      have hx := hc.1
      simp only [wq, wqa, Bool.and_eq_true, decide_eq_true_eq, Bool.and_true, List.length_cons, List.length_nil] at hx
      omega
    · exfalso
      have hx := hc.1
      simp only [wq, wqa, Bool.and_eq_true, decide_eq_true_eq, Bool.and_true, List.length_cons, List.length_nil] at hx
      omega
    · exfalso
      have hx := hc.2.2.2.2.2.2.1
      exact absurd h9 (by rw [hx]; decide)
  exact ⟨h1.1.trans hv, h1.2.trans hn, h0.2⟩
theorem tk_or {T : Nat → Int} {q : Nat} (h : wq T q [111, 114] = true) : tkv T q = -25 ∧ tkn T q = 2 ∧ T q = 111 := by
  have h0 := wq_i h
  have h1 := tk_L (T := T) (q := q) (by omega)
  have hn : rnl ltr T q = 2 := h0.1
  rw [if_neg (by omega)] at h1
  have hv : wdv T q = -25 := by
    have hc := wdv_c T q
    have h9 := h
    simp only [wq, wqa, Bool.and_eq_true, decide_eq_true_eq, Bool.and_true, List.length_cons, List.length_nil] at h
    rcases hc with hc | hc | hc | hc | hc | hc | hc | hc | hc | hc | hc
    · exfalso
      have hx := hc.1
      simp only [wq, wqa, Bool.and_eq_true, decide_eq_true_eq, Bool.and_true, List.length_cons, List.length_nil] at hx
      omega
    · exfalso
      have hx := hc.1
      simp only [wq, wqa, Bool.and_eq_true, decide_eq_true_eq, Bool.and_true, List.length_cons, List.length_nil] at hx
      omega
    · exfalso
      have hx := hc.1
      simp only [wq, wqa, Bool.and_eq_true, decide_eq_true_eq, Bool.and_true, List.length_cons, List.length_nil] at hx
      omega
    · exfalso
      have hx := hc.1
      simp only [wq, wqa, Bool.and_eq_true, decide_eq_true_eq, Bool.and_true, List.length_cons, List.length_nil] at hx
      omega
    · exfalso
      have hx := hc.1
      simp only [wq, wqa, Bool.and_eq_true, decide_eq_true_eq, Bool.and_true, List.length_cons, List.length_nil] at hx
      omega
    · exfalso
      have hx := hc.1
      simp only [wq, wqa, Bool.and_eq_true, decide_eq_true_eq, Bool.and_true, List.length_cons, List.length_nil] at hx
      omega
    · exact hc.2
    · exfalso
      have hx := hc.1
      simp only [wq, wqa, Bool.and_eq_true, decide_eq_true_eq, Bool.and_true, List.length_cons, List.length_nil] at hx
      omega
    · exfalso
      have hx := hc.1
      simp only [wq, wqa, Bool.and_eq_true, decide_eq_true_eq, Bool.and_true, List.length_cons, List.length_nil] at hx
      omega
    · exfalso
      have hx := hc.1
      simp only [wq, wqa, Bool.and_eq_true, decide_eq_true_eq, Bool.and_true, List.length_cons, List.length_nil] at hx
      omega
    · exfalso
      have hx := hc.2.2.2.2.2.2.2.1
      exact absurd h9 (by rw [hx]; decide)
  exact ⟨h1.1.trans hv, h1.2.trans hn, h0.2⟩
theorem tk_sun {T : Nat → Int} {q : Nat} (h : wq T q [115, 117, 110] = true) : tkv T q = -5 ∧ tkn T q = 3 ∧ T q = 115 := by
  have h0 := wq_i h
  have h1 := tk_L (T := T) (q := q) (by omega)
  have hn : rnl ltr T q = 3 := h0.1
  rw [if_neg (by omega)] at h1
  have hv : wdv T q = -5 := by
    have hc := wdv_c T q
    have h9 := h
    simp only [wq, wqa, Bool.and_eq_true, decide_eq_true_eq, Bool.and_true, List.length_cons, List.length_nil] at h
    rcases hc with hc | hc | hc | hc | hc | hc | hc | hc | hc | hc | hc
    · exfalso
      have hx := hc.1
      simp only [wq, wqa, Bool.and_eq_true, decide_eq_true_eq, Bool.and_true, List.length_cons, List.length_nil] at hx
      omega
    · exfalso
      have hx := hc.1
      simp only [wq, wqa, Bool.and_eq_true, decide_eq_true_eq, Bool.and_true, List.length_cons, List.length_nil] at hx
      omega
    · exfalso
      have hx := hc.1
      simp only [wq, wqa, Bool.and_eq_true, decide_eq_true_eq, Bool.and_true, List.length_cons, List.length_nil] at hx
      omega
    · exfalso
      have hx := hc.1
      simp only [wq, wqa, Bool.and_eq_true, decide_eq_true_eq, Bool.and_true, List.length_cons, List.length_nil] at hx
      omega
    · exfalso
      have hx := hc.1
      simp only [wq, wqa, Bool.and_eq_true, decide_eq_true_eq, Bool.and_true, List.length_cons, List.length_nil] at hx
      omega
    · exfalso
      have hx := hc.1
      simp only [wq, wqa, Bool.and_eq_true, decide_eq_true_eq, Bool.and_true, List.length_cons, List.length_nil] at hx
      omega
    · exfalso
      have hx := hc.1
      simp only [wq, wqa, Bool.and_eq_true, decide_eq_true_eq, Bool.and_true, List.length_cons, List.length_nil] at hx
      omega
    · exact hc.2
    · exfalso
      have hx := hc.1
      simp only [wq, wqa, Bool.and_eq_true, decide_eq_true_eq, Bool.and_true, List.length_cons, List.length_nil] at hx
      omega
    · exfalso
      have hx := hc.1
      simp only [wq, wqa, Bool.and_eq_true, decide_eq_true_eq, Bool.and_true, List.length_cons, List.length_nil] at hx
      omega
    · exfalso
      have hx := hc.2.2.2.2.2.2.2.2.1
      exact absurd h9 (by rw [hx]; decide)
  exact ⟨h1.1.trans hv, h1.2.trans hn, h0.2⟩
theorem tk_slant {T : Nat → Int} {q : Nat} (h : wq T q [115, 108, 97, 110, 116] = true) : tkv T q = -4 ∧ tkn T q = 5 ∧ T q = 115 := by
  have h0 := wq_i h
  have h1 := tk_L (T := T) (q := q) (by omega)
  have hn : rnl ltr T q = 5 := h0.1
  rw [if_neg (by omega)] at h1
  have hv : wdv T q = -4 := by
    have hc := wdv_c T q
    have h9 := h
    simp only [wq, wqa, Bool.and_eq_true, decide_eq_true_eq, Bool.and_true, List.length_cons, List.length_nil] at h
    rcases hc with hc | hc | hc | hc | hc | hc | hc | hc | hc | hc | hc
    · exfalso
      have hx := hc.1
      simp only [wq, wqa, Bool.and_eq_true, decide_eq_true_eq, Bool.and_true, List.length_cons, List.length_nil] at hx
      omega
    · exfalso
      have hx := hc.1
      simp only [wq, wqa, Bool.and_eq_true, decide_eq_true_eq, Bool.and_true, List.length_cons, List.length_nil] at hx
      omega
    · exfalso
      have hx := hc.1
      simp only [wq, wqa, Bool.and_eq_true, decide_eq_true_eq, Bool.and_true, List.length_cons, List.length_nil] at hx
      omega
    · exfalso
      have hx := hc.1
      simp only [wq, wqa, Bool.and_eq_true, decide_eq_true_eq, Bool.and_true, List.length_cons, List.length_nil] at hx
      omega
    · exfalso
      have hx := hc.1
      simp only [wq, wqa, Bool.and_eq_true, decide_eq_true_eq, Bool.and_true, List.length_cons, List.length_nil] at hx
      omega
    · exfalso
      have hx := hc.1
      simp only [wq, wqa, Bool.and_eq_true, decide_eq_true_eq, Bool.and_true, List.length_cons, List.length_nil] at hx
      omega
    · exfalso
      have hx := hc.1
      simp only [wq, wqa, Bool.and_eq_true, decide_eq_true_eq, Bool.and_true, List.length_cons, List.length_nil] at hx
      omega
    · exfalso
      have hx := hc.1
      simp only [wq, wqa, Bool.and_eq_true, decide_eq_true_eq, Bool.and_true, List.length_cons, List.length_nil] at hx
      omega
    · exact hc.2
    · exfalso
      have hx := hc.1
      simp only [wq, wqa, Bool.and_eq_true, decide_eq_true_eq, Bool.and_true, List.length_cons, List.length_nil] at hx
      omega
    · exfalso
      have hx := hc.2.2.2.2.2.2.2.2.2.1
      exact absurd h9 (by rw [hx]; decide)
  exact ⟨h1.1.trans hv, h1.2.trans hn, h0.2⟩
theorem tk_turn {T : Nat → Int} {q : Nat} (h : wq T q [116, 117, 114, 110] = true) : tkv T q = -40 ∧ tkn T q = 4 ∧ T q = 116 := by
  have h0 := wq_i h
  have h1 := tk_L (T := T) (q := q) (by omega)
  have hn : rnl ltr T q = 4 := h0.1
  rw [if_neg (by omega)] at h1
  have hv : wdv T q = -40 := by
    have hc := wdv_c T q
    have h9 := h
    simp only [wq, wqa, Bool.and_eq_true, decide_eq_true_eq, Bool.and_true, List.length_cons, List.length_nil] at h
    rcases hc with hc | hc | hc | hc | hc | hc | hc | hc | hc | hc | hc
    · exfalso
      have hx := hc.1
      simp only [wq, wqa, Bool.and_eq_true, decide_eq_true_eq, Bool.and_true, List.length_cons, List.length_nil] at hx
      omega
    · exfalso
      have hx := hc.1
      simp only [wq, wqa, Bool.and_eq_true, decide_eq_true_eq, Bool.and_true, List.length_cons, List.length_nil] at hx
      omega
    · exfalso
      have hx := hc.1
      simp only [wq, wqa, Bool.and_eq_true, decide_eq_true_eq, Bool.and_true, List.length_cons, List.length_nil] at hx
      omega
    · exfalso
      have hx := hc.1
      simp only [wq, wqa, Bool.and_eq_true, decide_eq_true_eq, Bool.and_true, List.length_cons, List.length_nil] at hx
      omega
    · exfalso
      have hx := hc.1
      simp only [wq, wqa, Bool.and_eq_true, decide_eq_true_eq, Bool.and_true, List.length_cons, List.length_nil] at hx
      omega
    · exfalso
      have hx := hc.1
      simp only [wq, wqa, Bool.and_eq_true, decide_eq_true_eq, Bool.and_true, List.length_cons, List.length_nil] at hx
      omega
    · exfalso
      have hx := hc.1
      simp only [wq, wqa, Bool.and_eq_true, decide_eq_true_eq, Bool.and_true, List.length_cons, List.length_nil] at hx
      omega
    · exfalso
      have hx := hc.1
      simp only [wq, wqa, Bool.and_eq_true, decide_eq_true_eq, Bool.and_true, List.length_cons, List.length_nil] at hx
      omega
    · exfalso
      have hx := hc.1
      simp only [wq, wqa, Bool.and_eq_true, decide_eq_true_eq, Bool.and_true, List.length_cons, List.length_nil] at hx
      omega
    · exact hc.2
    · exfalso
      have hx := hc.2.2.2.2.2.2.2.2.2.2
      exact absurd h9 (by rw [hx]; decide)
  exact ⟨h1.1.trans hv, h1.2.trans hn, h0.2⟩
theorem tk_one {T : Nat → Int} {q : Nat} {c : Int} (hc : 97 ≤ c ∧ c ≤ 104) (h : wq T q [c] = true) : tkv T q = 91 - c ∧ tkn T q = 1 ∧ T q = c := by
  have h0 := wq_i h
  have hn : rnl ltr T q = 1 := h0.1
  have h1 := tk_L (T := T) (q := q) (by omega)
  rw [if_pos hn, if_pos (by omega)] at h1
  exact ⟨by omega, h1.2.trans hn, h0.2⟩
theorem wq_one {T : Nat → Int} {q : Nat} {c : Int} (h1 : rnl ltr T q = 1) (h2 : T q = c) : wq T q [c] = true := by
  simp only [wq, wqa, Bool.and_true, Bool.and_eq_true, decide_eq_true_eq, List.length_cons, List.length_nil]
  exact ⟨h1, h2⟩
def sgs (T : Nat → Int) (q : Nat) (v : Int) : Prop := (T q = 60 ∧ T (q + 1) = 61 ∧ v = -20) ∨ (T q = 60 ∧ T (q + 1) ≠ 61 ∧ v = -19) ∨ (T q = 62 ∧ T (q + 1) = 61 ∧ v = -22) ∨ (T q = 62 ∧ T (q + 1) ≠ 61 ∧ v = -23) ∨ (T q = 43 ∧ v = -15) ∨ (T q = 45 ∧ v = -16) ∨ (T q = 42 ∧ v = -17) ∨ (T q = 47 ∧ v = -18) ∨ (T q = 61 ∧ v = -21) ∨ (T q = 91 ∧ v = -42) ∨ (T q = 93 ∧ v = -43) ∨ (T q = 59 ∧ v = -44) ∨ (T q ≠ 60 ∧ T q ≠ 62 ∧ T q ≠ 43 ∧ T q ≠ 45 ∧ T q ≠ 42 ∧ T q ≠ 47 ∧ T q ≠ 61 ∧ T q ≠ 91 ∧ T q ≠ 93 ∧ T q ≠ 59 ∧ v = -47)
theorem sgv_c (T : Nat → Int) (q : Nat) : sgs T q (sgv T q) := by
  unfold sgs
  by_cases h0 : T q = 60
  · by_cases e : T (q + 1) = 61
    · have ev : sgv T q = -20 := by unfold sgv; rw [if_pos h0, if_pos e]
      rw [ev]
      exact Or.inl ⟨h0, e, rfl⟩
    · have ev : sgv T q = -19 := by unfold sgv; rw [if_pos h0, if_neg e]
      rw [ev]
      exact Or.inr (Or.inl ⟨h0, e, rfl⟩)
  by_cases h1 : T q = 62
  · by_cases e : T (q + 1) = 61
    · have ev : sgv T q = -22 := by unfold sgv; rw [if_neg h0, if_pos h1, if_pos e]
      rw [ev]
      exact Or.inr (Or.inr (Or.inl ⟨h1, e, rfl⟩))
    · have ev : sgv T q = -23 := by unfold sgv; rw [if_neg h0, if_pos h1, if_neg e]
      rw [ev]
      exact Or.inr (Or.inr (Or.inr (Or.inl ⟨h1, e, rfl⟩)))
  by_cases h2 : T q = 43
  · have ev : sgv T q = -15 := by unfold sgv; rw [if_neg h0, if_neg h1, if_pos h2]
    rw [ev]
    exact Or.inr (Or.inr (Or.inr (Or.inr (Or.inl ⟨h2, rfl⟩))))
  by_cases h3 : T q = 45
  · have ev : sgv T q = -16 := by unfold sgv; rw [if_neg h0, if_neg h1, if_neg h2, if_pos h3]
    rw [ev]
    exact Or.inr (Or.inr (Or.inr (Or.inr (Or.inr (Or.inl ⟨h3, rfl⟩)))))
  by_cases h4 : T q = 42
  · have ev : sgv T q = -17 := by unfold sgv; rw [if_neg h0, if_neg h1, if_neg h2, if_neg h3, if_pos h4]
    rw [ev]
    exact Or.inr (Or.inr (Or.inr (Or.inr (Or.inr (Or.inr (Or.inl ⟨h4, rfl⟩))))))
  by_cases h5 : T q = 47
  · have ev : sgv T q = -18 := by unfold sgv; rw [if_neg h0, if_neg h1, if_neg h2, if_neg h3, if_neg h4, if_pos h5]
    rw [ev]
    exact Or.inr (Or.inr (Or.inr (Or.inr (Or.inr (Or.inr (Or.inr (Or.inl ⟨h5, rfl⟩)))))))
  by_cases h6 : T q = 61
  · have ev : sgv T q = -21 := by unfold sgv; rw [if_neg h0, if_neg h1, if_neg h2, if_neg h3, if_neg h4, if_neg h5, if_pos h6]
    rw [ev]
    exact Or.inr (Or.inr (Or.inr (Or.inr (Or.inr (Or.inr (Or.inr (Or.inr (Or.inl ⟨h6, rfl⟩))))))))
  by_cases h7 : T q = 91
  · have ev : sgv T q = -42 := by unfold sgv; rw [if_neg h0, if_neg h1, if_neg h2, if_neg h3, if_neg h4, if_neg h5, if_neg h6, if_pos h7]
    rw [ev]
    exact Or.inr (Or.inr (Or.inr (Or.inr (Or.inr (Or.inr (Or.inr (Or.inr (Or.inr (Or.inl ⟨h7, rfl⟩)))))))))
  by_cases h8 : T q = 93
  · have ev : sgv T q = -43 := by unfold sgv; rw [if_neg h0, if_neg h1, if_neg h2, if_neg h3, if_neg h4, if_neg h5, if_neg h6, if_neg h7, if_pos h8]
    rw [ev]
    exact Or.inr (Or.inr (Or.inr (Or.inr (Or.inr (Or.inr (Or.inr (Or.inr (Or.inr (Or.inr (Or.inl ⟨h8, rfl⟩))))))))))
  by_cases h9 : T q = 59
  · have ev : sgv T q = -44 := by unfold sgv; rw [if_neg h0, if_neg h1, if_neg h2, if_neg h3, if_neg h4, if_neg h5, if_neg h6, if_neg h7, if_neg h8, if_pos h9]
    rw [ev]
    exact Or.inr (Or.inr (Or.inr (Or.inr (Or.inr (Or.inr (Or.inr (Or.inr (Or.inr (Or.inr (Or.inr (Or.inl ⟨h9, rfl⟩)))))))))))
  have ev : sgv T q = -47 := by unfold sgv; rw [if_neg h0, if_neg h1, if_neg h2, if_neg h3, if_neg h4, if_neg h5, if_neg h6, if_neg h7, if_neg h8, if_neg h9]
  rw [ev]
  exact Or.inr (Or.inr (Or.inr (Or.inr (Or.inr (Or.inr (Or.inr (Or.inr (Or.inr (Or.inr (Or.inr (Or.inr (⟨h0, h1, h2, h3, h4, h5, h6, h7, h8, h9, rfl⟩))))))))))))
theorem tk_c {T : Nat → Int} (hT : OKT T) (q : Nat) :
  (T q = -45 ∧ tkv T q = -45 ∧ tkn T q = 0) ∨
  ((48 ≤ T q ∧ T q ≤ 57) ∧ (1 ≤ tkn T q ∧ tkn T q = rnl dg T q) ∧ ((5 < rnl dg T q ∧ tkv T q = -46) ∨ (rnl dg T q ≤ 5 ∧ tkv T q = nv T q (rnl dg T q) ∧ 0 ≤ tkv T q ∧ tkv T q ≤ 99999))) ∨
  ((97 ≤ T q ∧ T q ≤ 122) ∧ (1 ≤ tkn T q ∧ tkn T q = rnl ltr T q) ∧ ((rnl ltr T q = 1 ∧ ((T q < 105 ∧ tkv T q = 91 - T q) ∨ (105 ≤ T q ∧ tkv T q = -47))) ∨ (rnl ltr T q ≠ 1 ∧ tkv T q = wdv T q))) ∨
  ((0 ≤ T q ∧ T q ≤ 255 ∧ ¬ (48 ≤ T q ∧ T q ≤ 57) ∧ ¬ (97 ≤ T q ∧ T q ≤ 122)) ∧ sgs T q (tkv T q) ∧ ((tkn T q = 2 ∧ (T q = 60 ∨ T q = 62) ∧ T (q + 1) = 61) ∨ (tkn T q = 1 ∧ ¬ ((T q = 60 ∨ T q = 62) ∧ T (q + 1) = 61)))) := by
  have hq := (hT q).2
  have hp : T q ≠ -45 → q < 400 := fun hh => by
    rcases Nat.lt_or_ge q 400 with hp | hp
    · exact hp
    · exact absurd ((hT q).1 hp) hh
  by_cases h0 : T q = -45
  · exact Or.inl ⟨h0, tk_E h0⟩
  · by_cases h1 : 48 ≤ T q ∧ T q ≤ 57
    · have h2 := tk_D h1
      have h3 := rnl_y (hp h0) (dg_t h1)
      refine Or.inr (Or.inl ⟨h1, ⟨by omega, h2.2⟩, ?_⟩)
      by_cases h4 : 5 < rnl dg T q
      · rw [if_pos h4] at h2
        exact Or.inl ⟨h4, h2.1⟩
      · rw [if_neg h4] at h2
        have h5 := nv_99 (T := T) (p := q) (k := rnl dg T q) (rnl_all _ q rfl) (by omega)
        exact Or.inr ⟨by omega, h2.1, by omega, by omega⟩
    · by_cases h2 : 97 ≤ T q ∧ T q ≤ 122
      · have h3 := tk_L h2
        have h4 := rnl_y (hp h0) (ltr_t h2)
        refine Or.inr (Or.inr (Or.inl ⟨h2, ⟨by omega, h3.2⟩, ?_⟩))
        by_cases h5 : rnl ltr T q = 1
        · rw [if_pos h5] at h3
          refine Or.inl ⟨h5, ?_⟩
          by_cases h6 : T q < 105
          · rw [if_pos h6] at h3
            exact Or.inl ⟨h6, h3.1⟩
          · rw [if_neg h6] at h3
            exact Or.inr ⟨by omega, h3.1⟩
        · rw [if_neg h5] at h3
          exact Or.inr ⟨h5, h3.1⟩
      · have h3 := tk_S h0 h1 h2
        refine Or.inr (Or.inr (Or.inr ⟨⟨by omega, by omega, h1, h2⟩, by rw [h3.1]; exact sgv_c T q, ?_⟩))
        by_cases h4 : (T q = 60 ∨ T q = 62) ∧ T (q + 1) = 61
        · rw [if_pos h4] at h3
          exact Or.inl ⟨h3.2, h4⟩
        · rw [if_neg h4] at h3
          exact Or.inr ⟨h3.2, h4⟩
-- what stands there, by the token: a list of all that can be
def TKC (T : Nat → Int) (q : Nat) : Prop := (T q = -45 ∧ tkv T q = -45 ∧ tkn T q = 0) ∨ ((48 ≤ T q ∧ T q ≤ 57) ∧ (1 ≤ tkn T q ∧ tkn T q = rnl dg T q) ∧ ((5 < rnl dg T q ∧ tkv T q = -46) ∨ (rnl dg T q ≤ 5 ∧ tkv T q = nv T q (rnl dg T q) ∧ 0 ≤ tkv T q ∧ tkv T q ≤ 99999))) ∨ ((97 ≤ T q ∧ T q ≤ 122) ∧ (1 ≤ tkn T q ∧ tkn T q = rnl ltr T q) ∧ rnl ltr T q = 1 ∧ T q < 105 ∧ tkv T q = 91 - T q) ∨ ((0 ≤ T q ∧ T q ≤ 255 ∧ ¬ (48 ≤ T q ∧ T q ≤ 57) ∧ ¬ (97 ≤ T q ∧ T q ≤ 122)) ∧ sgs T q (tkv T q) ∧ ((tkn T q = 2 ∧ (T q = 60 ∨ T q = 62) ∧ T (q + 1) = 61) ∨ (tkn T q = 1 ∧ ¬ ((T q = 60 ∨ T q = 62) ∧ T (q + 1) = 61)))) ∨ ((97 ≤ T q ∧ T q ≤ 122) ∧ (1 ≤ tkn T q ∧ tkn T q = rnl ltr T q) ∧ ((wq T q [97, 110, 100] = true ∧ tkv T q = -24) ∨ (wq T q [100, 97, 121] = true ∧ tkv T q = -3) ∨ (wq T q [104, 111, 117, 114] = true ∧ tkv T q = -1) ∨ (wq T q [105, 102] = true ∧ tkv T q = -41) ∨ (wq T q [109, 111, 110, 116, 104] = true ∧ tkv T q = -2) ∨ (wq T q [110, 111, 116] = true ∧ tkv T q = -14) ∨ (wq T q [111, 114] = true ∧ tkv T q = -25) ∨ (wq T q [115, 117, 110] = true ∧ tkv T q = -5) ∨ (wq T q [115, 108, 97, 110, 116] = true ∧ tkv T q = -4) ∨ (wq T q [116, 117, 114, 110] = true ∧ tkv T q = -40))) ∨ ((97 ≤ T q ∧ T q ≤ 122) ∧ (1 ≤ tkn T q ∧ tkn T q = rnl ltr T q) ∧ ((wdv T q = -47 ∧ wq T q [97, 110, 100] = false ∧ wq T q [100, 97, 121] = false ∧ wq T q [104, 111, 117, 114] = false ∧ wq T q [105, 102] = false ∧ wq T q [109, 111, 110, 116, 104] = false ∧ wq T q [110, 111, 116] = false ∧ wq T q [111, 114] = false ∧ wq T q [115, 117, 110] = false ∧ wq T q [115, 108, 97, 110, 116] = false ∧ wq T q [116, 117, 114, 110] = false) ∨ rnl ltr T q = 1 ∨ False) ∧ tkv T q = -47)
theorem tkc {T : Nat → Int} (hT : OKT T) (q : Nat) : TKC T q := by
  unfold TKC
  rcases tk_c hT q with h | h | h | h
  · left
    exact h
  · right
    left
    exact h
  · obtain ⟨h1, h2, h3⟩ := h
    rcases h3 with ⟨h3, h4 | h4⟩ | ⟨h3, h4⟩
    · right; right; left
      exact ⟨h1, h2, h3, h4.1, h4.2⟩
    · right; right; right; right; right
      exact ⟨h1, h2, Or.inr (Or.inl h3), h4.2⟩
    · rcases wdv_c T q with h | h | h | h | h | h | h | h | h | h | h
      · right; right; right; right; left
        exact ⟨h1, h2, Or.inl ⟨h.1, by rw [h4]; exact h.2⟩⟩
      · right; right; right; right; left
        exact ⟨h1, h2, Or.inr (Or.inl ⟨h.1, by rw [h4]; exact h.2⟩)⟩
      · right; right; right; right; left
        exact ⟨h1, h2, Or.inr (Or.inr (Or.inl ⟨h.1, by rw [h4]; exact h.2⟩))⟩
      · right; right; right; right; left
        exact ⟨h1, h2, Or.inr (Or.inr (Or.inr (Or.inl ⟨h.1, by rw [h4]; exact h.2⟩)))⟩
      · right; right; right; right; left
        exact ⟨h1, h2, Or.inr (Or.inr (Or.inr (Or.inr (Or.inl ⟨h.1, by rw [h4]; exact h.2⟩))))⟩
      · right; right; right; right; left
        exact ⟨h1, h2, Or.inr (Or.inr (Or.inr (Or.inr (Or.inr (Or.inl ⟨h.1, by rw [h4]; exact h.2⟩)))))⟩
      · right; right; right; right; left
        exact ⟨h1, h2, Or.inr (Or.inr (Or.inr (Or.inr (Or.inr (Or.inr (Or.inl ⟨h.1, by rw [h4]; exact h.2⟩))))))⟩
      · right; right; right; right; left
        exact ⟨h1, h2, Or.inr (Or.inr (Or.inr (Or.inr (Or.inr (Or.inr (Or.inr (Or.inl ⟨h.1, by rw [h4]; exact h.2⟩)))))))⟩
      · right; right; right; right; left
        exact ⟨h1, h2, Or.inr (Or.inr (Or.inr (Or.inr (Or.inr (Or.inr (Or.inr (Or.inr (Or.inl ⟨h.1, by rw [h4]; exact h.2⟩))))))))⟩
      · right; right; right; right; left
        exact ⟨h1, h2, Or.inr (Or.inr (Or.inr (Or.inr (Or.inr (Or.inr (Or.inr (Or.inr (Or.inr (⟨h.1, by rw [h4]; exact h.2⟩)))))))))⟩
      · right; right; right; right; right
        exact ⟨h1, h2, Or.inl h, by rw [h4]; exact h.1⟩
  · right; right; right; left
    exact h
