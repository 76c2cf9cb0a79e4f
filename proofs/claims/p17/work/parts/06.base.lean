-- truth values and whole numbers
def Bo (r : Int32) (P : Prop) : Prop := (P ∧ r = 1) ∨ (¬ P ∧ r = 0)
theorem Bo.y {P : Prop} (h : P) : Bo 1 P := Or.inl ⟨h, rfl⟩
theorem Bo.n {P : Prop} (h : ¬ P) : Bo 0 P := Or.inr ⟨h, rfl⟩
theorem Bo.t {r : Int32} {P : Prop} (h : Bo r P) (c : ¬ r = 0) : P := by
  rcases h with ⟨h, -⟩ | ⟨-, h⟩
  · exact h
  · exact absurd h c
theorem Bo.f {r : Int32} {P : Prop} (h : Bo r P) (c : r = 0) : ¬ P := by
  rcases h with ⟨-, h⟩ | ⟨h, -⟩
  · rw [h] at c
    exact absurd c (by decide)
  · exact h
theorem Bo.z {r : Int32} {P : Prop} (h : Bo r P) (c : ¬ P) : r = 0 := by
  rcases h with ⟨h, -⟩ | ⟨-, h⟩
  · exact absurd h c
  · exact h
theorem Bo.o {r : Int32} {P : Prop} (h : Bo r P) (c : P) : r = 1 := by
  rcases h with ⟨-, h⟩ | ⟨h, -⟩
  · exact h
  · exact absurd c h
theorem Bo.same {r q : Int32} {P P' : Prop} (h : Bo r P) (h' : Bo q P') (e : P ↔ P') : r = q := by
  rcases h with ⟨h, hr⟩ | ⟨h, hr⟩
  · rw [hr, h'.o (e.mp h)]
  · rw [hr, h'.z (fun x => h (e.mpr x))]
theorem q_lt {x y : Int32} (h : x < y) : x.toInt < y.toInt := Int32.lt_iff_toInt_lt.mp h
theorem q_nlt {x y : Int32} (h : ¬ x < y) : y.toInt ≤ x.toInt := Int.not_lt.mp (fun q => h (Int32.lt_iff_toInt_lt.mpr q))
theorem q_le {x y : Int32} (h : x ≤ y) : x.toInt ≤ y.toInt := Int32.le_iff_toInt_le.mp h
theorem q_nle {x y : Int32} (h : ¬ x ≤ y) : y.toInt < x.toInt := Int.not_le.mp (fun q => h (Int32.le_iff_toInt_le.mpr q))
theorem q_eq {x y : Int32} (h : x = y) : x.toInt = y.toInt := by rw [h]
theorem q_ne {x y : Int32} (h : ¬ x = y) : x.toInt ≠ y.toInt := fun q => h (Int32.toInt_inj.mp q)
theorem q_i2l {x : Int32} {v : Int64} (h : v = x.toInt64) : v.toInt = x.toInt := by rw [h]; exact Int32.toInt_toInt64 x
theorem lc_t (x y : Int64) : (x.toInt < y.toInt ∧ lg_cmp x y = -1) ∨ (x.toInt = y.toInt ∧ lg_cmp x y = 0) ∨ (y.toInt < x.toInt ∧ lg_cmp x y = 1) := by
  unfold lg_cmp
  rcases Int.lt_trichotomy x.toInt y.toInt with h | h | h
  · left
    have h1 : ¬ x > y := fun q => by have := Int64.lt_iff_toInt_lt.mp q; omega
    have h2 : ¬ x = y := fun q => by rw [q] at h; omega
    rw [if_neg h1, if_neg h2]
    exact ⟨h, rfl⟩
  · right
    left
    have h2 : x = y := Int64.toInt_inj.mp h
    have h1 : ¬ x > y := fun q => by have := Int64.lt_iff_toInt_lt.mp q; omega
    rw [if_neg h1, if_pos h2]
    exact ⟨h, rfl⟩
  · right
    right
    have h1 : x > y := Int64.lt_iff_toInt_lt.mpr h
    rw [if_pos h1]
    exact ⟨h, rfl⟩
theorem l_lt {x y : Int64} (h : lg_cmp x y < 0) : x.toInt < y.toInt := by
  rcases lc_t x y with ⟨h1, h2⟩ | ⟨h1, h2⟩ | ⟨h1, h2⟩ <;> rw [h2] at h <;> first | exact h1 | exact absurd h (by decide)
theorem l_nlt {x y : Int64} (h : ¬ lg_cmp x y < 0) : y.toInt ≤ x.toInt := by
  rcases lc_t x y with ⟨h1, h2⟩ | ⟨h1, h2⟩ | ⟨h1, h2⟩ <;> rw [h2] at h <;> first | omega | exact absurd (by decide) h
theorem l_gt {x y : Int64} (h : 0 < lg_cmp x y) : y.toInt < x.toInt := by
  rcases lc_t x y with ⟨h1, h2⟩ | ⟨h1, h2⟩ | ⟨h1, h2⟩ <;> rw [h2] at h <;> first | exact h1 | exact absurd h (by decide)
theorem l_ngt {x y : Int64} (h : ¬ 0 < lg_cmp x y) : x.toInt ≤ y.toInt := by
  rcases lc_t x y with ⟨h1, h2⟩ | ⟨h1, h2⟩ | ⟨h1, h2⟩ <;> rw [h2] at h <;> first | omega | exact absurd (by decide) h
theorem l_ge {x y : Int64} (h : 0 ≤ lg_cmp x y) : y.toInt ≤ x.toInt := by
  rcases lc_t x y with ⟨h1, h2⟩ | ⟨h1, h2⟩ | ⟨h1, h2⟩ <;> rw [h2] at h <;> first | omega | exact absurd h (by decide)
theorem l_nge {x y : Int64} (h : ¬ 0 ≤ lg_cmp x y) : x.toInt < y.toInt := by
  rcases lc_t x y with ⟨h1, h2⟩ | ⟨h1, h2⟩ | ⟨h1, h2⟩ <;> rw [h2] at h <;> first | omega | exact absurd (by decide) h
theorem l_le {x y : Int64} (h : lg_cmp x y ≤ 0) : x.toInt ≤ y.toInt := by
  rcases lc_t x y with ⟨h1, h2⟩ | ⟨h1, h2⟩ | ⟨h1, h2⟩ <;> rw [h2] at h <;> first | omega | exact absurd h (by decide)
theorem l_nle {x y : Int64} (h : ¬ lg_cmp x y ≤ 0) : y.toInt < x.toInt := by
  rcases lc_t x y with ⟨h1, h2⟩ | ⟨h1, h2⟩ | ⟨h1, h2⟩ <;> rw [h2] at h <;> first | omega | exact absurd (by decide) h
theorem l_eq {x y : Int64} (h : lg_cmp x y = 0) : x.toInt = y.toInt := by
  rcases lc_t x y with ⟨h1, h2⟩ | ⟨h1, h2⟩ | ⟨h1, h2⟩ <;> rw [h2] at h <;> first | exact h1 | exact absurd h (by decide)
theorem l_ne {x y : Int64} (h : ¬ lg_cmp x y = 0) : x.toInt ≠ y.toInt := by
  rcases lc_t x y with ⟨h1, h2⟩ | ⟨h1, h2⟩ | ⟨h1, h2⟩ <;> rw [h2] at h <;> first | omega | exact absurd rfl h
theorem b_lt (x : Int32) : -2147483648 ≤ x.toInt ∧ x.toInt < 2147483648 := ⟨Int32.le_toInt x, Int32.toInt_lt x⟩
theorem a_add {x y v : Int32} (h : v = x + y) (h1 : -2147483648 ≤ x.toInt + y.toInt) (h2 : x.toInt + y.toInt < 2147483648) : v.toInt = x.toInt + y.toInt := by
  rw [h, Int32.toInt_add]
  exact Int.bmod_eq_of_le (by omega) (by omega)
theorem a_sub {x y v : Int32} (h : v = x - y) (h1 : -2147483648 ≤ x.toInt - y.toInt) (h2 : x.toInt - y.toInt < 2147483648) : v.toInt = x.toInt - y.toInt := by
  rw [h, Int32.toInt_sub]
  exact Int.bmod_eq_of_le (by omega) (by omega)
theorem a_mul {x y v : Int32} (h : v = x * y) (h1 : -2147483648 ≤ x.toInt * y.toInt) (h2 : x.toInt * y.toInt < 2147483648) : v.toInt = x.toInt * y.toInt := by
  rw [h, Int32.toInt_mul]
  exact Int.bmod_eq_of_le (by omega) (by omega)
theorem a_mulR {x y v : Int32} {c : Int} (h : v = x * y) (hy : y.toInt = c) (h1 : -2147483648 ≤ x.toInt * c) (h2 : x.toInt * c < 2147483648) : v.toInt = x.toInt * c := by
  subst hy
  exact a_mul h h1 h2
theorem a_mulL {x y v : Int32} {c : Int} (h : v = x * y) (hy : x.toInt = c) (h1 : -2147483648 ≤ c * y.toInt) (h2 : c * y.toInt < 2147483648) : v.toInt = c * y.toInt := by
  subst hy
  exact a_mul h h1 h2
theorem a_inc {x v : Int32} {c : Int} (h : v = x + Int32.ofInt c) (hc : (Int32.ofInt c).toInt = c) (h1 : -2147483648 ≤ x.toInt + c) (h2 : x.toInt + c < 2147483648) : v.toInt = x.toInt + c := by
  have h3 := a_add h (by rw [hc]; exact h1) (by rw [hc]; exact h2)
  rw [hc] at h3
  exact h3
theorem tn {i : Int32} (h : 0 ≤ i.toInt) : ((i.toNatClampNeg : Nat) : Int) = i.toInt := Int.toNat_of_nonneg h
theorem u2_v {α : Type} (f : Nat → Nat → α) (n k m j : Nat) (v : α) : u2 f n k v m j = if m = n ∧ j = k then v else f m j := by
  by_cases h : m = n
  · subst h
    rw [u2_at]
    by_cases h2 : j = k
    · subst h2
      rw [va_up_self]
      simp
    · rw [va_up_ne _ _ h2]
      simp [h2]
  · rw [u2_ne f k v h]
    simp [h]
-- the graph of the class's own objects: names that are there, and what refers to what
def tB : List Nat := [100, 110, 120, 130, 140, 150]
def lB : List Nat := [200, 210, 220, 230, 240, 250, 260]
def fnC : List Nat := [0, 1, 2, 3, 4, 10, 11, 12, 13, 14, 20, 21, 22, 30, 31, 32, 33, 34, 40, 41, 42, 43, 50, 60, 61, 62, 70, 71, 72, 100, 101, 102, 103, 104, 105, 106, 107, 108, 110, 111, 112, 113, 114, 115, 116, 117, 118]
def feC : List (Nat × Nat × Nat) := [(0, 0, 100), (0, 1, 110), (0, 2, 1), (0, 3, 10), (0, 4, 20), (0, 5, 30), (0, 6, 40), (0, 7, 50), (0, 8, 60), (0, 9, 70), (0, 10, 2), (0, 11, 3), (0, 12, 4), (10, 0, 11), (10, 1, 12), (10, 9, 13), (10, 10, 14), (20, 0, 10), (20, 1, 21), (20, 2, 22), (30, 0, 10), (30, 1, 31), (30, 2, 32), (30, 3, 33), (30, 4, 34), (40, 0, 41), (40, 1, 100), (40, 2, 10), (40, 3, 42), (40, 4, 43), (50, 3, 10), (60, 3, 61), (60, 4, 62), (70, 0, 71), (70, 1, 72), (100, 10, 101), (100, 11, 102), (100, 12, 103), (100, 13, 104), (100, 14, 105), (100, 15, 106), (100, 16, 107), (100, 17, 108), (110, 10, 111), (110, 11, 112), (110, 12, 113), (110, 13, 114), (110, 14, 115), (110, 15, 116), (110, 16, 117), (110, 17, 118)]
def SGC (ns : List Nat) (G : MG) : Prop := (∀ n ∈ fnC, n ∈ ns) ∧ ∀ t ∈ feC, G t.1 t.2.1 = t.2.2
def TOK (ns : List Nat) (G : MG) (b : Nat) : Prop := b ∈ tB ∧ (∀ k, k < 9 → b + k ∈ ns) ∧ ∀ k, k < 8 → G b (10 + k) = b + 1 + k
def LOK (ns : List Nat) (G : MG) (b : Nat) : Prop := b ∈ lB ∧ (∀ k, k < 6 → b + k ∈ ns) ∧ ∀ k, k < 5 → G b k = b + 1 + k
theorem TOK.l {ns : List Nat} {G : MG} {b : Nat} (h : TOK ns G b) : b ∈ ns := h.2.1 0 (by decide)
theorem LOK.l {ns : List Nat} {G : MG} {b : Nat} (h : LOK ns G b) : b ∈ ns := h.2.1 0 (by decide)
theorem SGC.t0 {ns : List Nat} {G : MG} (h : SGC ns G) : TOK ns G 100 := by
  refine ⟨by decide, fun k hk => h.1 _ ?_, fun k hk => h.2 (100, 10 + k, 100 + 1 + k) ?_⟩
  · revert k; decide
  · revert k; decide
theorem SGC.t1 {ns : List Nat} {G : MG} (h : SGC ns G) : TOK ns G 110 := by
  refine ⟨by decide, fun k hk => h.1 _ ?_, fun k hk => h.2 (110, 10 + k, 110 + 1 + k) ?_⟩
  · revert k; decide
  · revert k; decide
theorem kT : ∀ b ∈ tB, kd b = (8, 18) ∧ kd (b + 1) = (20, 576) ∧ kd (b + 2) = (20, 576) ∧ kd (b + 3) = (20, 576) ∧ kd (b + 4) = (20, 576) ∧ kd (b + 5) = (20, 288) ∧ kd (b + 6) = (20, 288) ∧ kd (b + 7) = (20, 240) ∧ kd (b + 8) = (20, 56) ∧ b ≠ 0 ∧ b < 1000 := by decide
theorem kW : ∀ b ∈ lB, kd b = (3, 7) ∧ kd (b + 1) = (20, 400) ∧ kd (b + 2) = (20, 12) ∧ kd (b + 3) = (20, 12) ∧ kd (b + 4) = (20, 12) ∧ kd (b + 5) = (20, 12) ∧ b ≠ 0 ∧ b < 1000 := by decide
-- the reference's
def fsM : List Nat := [1, 2, 3, 4, 5, 6, 7, 8, 9, 10, 11, 12, 13, 14, 15, 16, 17, 18, 19, 20, 21, 22, 23, 34, 35, 36, 37, 38, 39, 40, 41, 42, 43, 44, 45, 46, 47, 48, 49, 50, 58, 60, 61, 62, 64, 66, 67, 68, 69, 70, 71, 72, 73, 76, 77]
def SGM (ns : List Nat) (G : MG) : Prop := 1000 ∈ ns ∧ ∀ k ∈ fsM, 1000 + k ∈ ns ∧ G 1000 k = 1000 + k
