def rgC_0 (k : Nat) : Int × Int := match k with | 14 => (0, 6) | 15 => (0, 400) | _ => (-2147483648, 2147483647)
def rgC_10 (k : Nat) : Int × Int := match k with | 4 => (0, 2000) | 6 => (0, 1) | 8 => (0, 1) | 11 => (0, 59) | 12 => (0, 60) | _ => (-2147483648, 2147483647)
def rgC_20 (k : Nat) : Int × Int := match k with | 3 => (0, 23) | _ => (-2147483648, 2147483647)
def rgC_30 (k : Nat) : Int × Int := match k with | 5 => (0, 4) | _ => (-2147483648, 2147483647)
def rgC_40 (k : Nat) : Int × Int := match k with | 5 => (0, 23) | 6 => (0, 23) | _ => (-2147483648, 2147483647)
def rgC_60 (k : Nat) : Int × Int := match k with | 5 => (0, 24) | _ => (-2147483648, 2147483647)
def rgC_70 (k : Nat) : Int × Int := match k with | 2 => (0, 64) | 3 => (0, 400) | 4 => (0, 801) | 6 => (0, 401) | 7 => (0, 5) | _ => (-2147483648, 2147483647)
def rgC (n k : Nat) : Int × Int := match n with | 0 => rgC_0 k | 3 => (-128, 127) | 10 => rgC_10 k | 13 => (0, 4607) | 20 => rgC_20 k | 30 => rgC_30 k | 31 => (0, 23) | 40 => rgC_40 k | 60 => rgC_60 k | 61 => (0, 23) | 70 => rgC_70 k | 71 => (-128, 127) | _ => (-2147483648, 2147483647)
def rgT_0 (k : Nat) : Int × Int := match k with | 0 => (0, 24) | 1 => (0, 24) | 2 => (0, 23) | 3 => (0, 23) | 5 => (0, 11) | 8 => (0, 24) | 9 => (0, 8) | _ => (-2147483648, 2147483647)
def rgT (n k : Nat) : Int × Int := match n with | 0 => rgT_0 k | 3 => (-1, 23) | 4 => (-1, 7) | 5 => (-1, 7) | _ => (-2147483648, 2147483647)
def rgW_0 (k : Nat) : Int × Int := match k with | 5 => (0, 12) | 6 => (0, 400) | _ => (-2147483648, 2147483647)
def rgW (n k : Nat) : Int × Int := match n with | 0 => rgW_0 k | 3 => (0, 400) | 4 => (0, 400) | 5 => (0, 400) | _ => (-2147483648, 2147483647)
def rgM_0 (k : Nat) : Int × Int := match k with | 24 => (0, 400) | 25 => (0, 100000) | 27 => (0, 5) | 28 => (0, 6) | 29 => (0, 300) | 32 => (0, 402) | 33 => (13, 13) | 51 => (0, 59) | 52 => (0, 60) | 55 => (0, 2000) | 59 => (0, 1) | 75 => (0, 11) | 78 => (0, 10880) | 79 => (0, 1) | _ => (-2147483648, 2147483647)
def rgM_1 (k : Nat) : Int × Int := match k with | 0 => (0, 1) | 1 => (0, 24) | 2 => (0, 24) | 5 => (0, 11) | 8 => (0, 24) | 9 => (0, 8) | _ => (-2147483648, 2147483647)
def rgM_76 (k : Nat) : Int × Int := if k % 2720 < 10 then rgM_1 (k % 2720) else if 1738 ≤ k % 2720 ∧ k % 2720 < 2314 then (-1, 23) else (-2147483648, 2147483647)
def rgM (n k : Nat) : Int × Int := match n with | 0 => rgM_0 k | 1 => rgM_1 k | 6 => (-1, 23) | 39 => (0, 300) | 40 => (0, 300) | 41 => (0, 300) | 58 => (0, 1) | 76 => rgM_76 k | 77 => (0, 1) | _ => (-2147483648, 2147483647)
def rg (n k : Nat) : Int × Int := if n < 100 then rgC n k else if n < 200 then rgT (n % 10) k else if n < 300 then rgW (n % 10) k else if n < 1000 then (-2147483648, 2147483647) else rgM (n - 1000) k
def INV (I : MI) : Prop := ∀ n k, (rg n k).1 ≤ (I n k).toInt ∧ (I n k).toInt ≤ (rg n k).2
theorem INV.get {I : MI} (h : INV I) (n k : Nat) {lo hi : Int} (hr : rg n k = (lo, hi)) : lo ≤ (I n k).toInt ∧ (I n k).toInt ≤ hi := by
  have := h n k
  rw [hr] at this
  exact this
theorem INV.put {I : MI} (h : INV I) {n k : Nat} {v : Int32} {lo hi : Int} (hr : rg n k = (lo, hi)) (h1 : lo ≤ v.toInt ∧ v.toInt ≤ hi) : INV (u2 I n k v) := by
  intro m j
  rw [u2_v]
  by_cases hq : m = n ∧ j = k
  · obtain ⟨rfl, rfl⟩ := hq
    rw [if_pos ⟨rfl, rfl⟩, hr]
    exact h1
  · rw [if_neg hq]
    exact h m j
theorem INV.putF {I : MI} (h : INV I) {n k : Nat} {v : Int32} (hr : rg n k = (-2147483648, 2147483647)) : INV (u2 I n k v) :=
  h.put hr ⟨Int32.le_toInt v, Int.le_of_lt_add_one (Int32.toInt_lt v)⟩
theorem INV.fill {I : MI} (h : INV I) {x N : Nat} {v : Int32} (hv : ∀ k, k < N → (rg x k).1 ≤ v.toInt ∧ v.toInt ≤ (rg x k).2) : INV (fillI I x N v) := by
  intro m j
  simp only [fillI]
  by_cases hq : m = x ∧ j < N
  · rw [if_pos hq]
    obtain ⟨rfl, hj⟩ := hq
    exact hv j hj
  · rw [if_neg hq]
    exact h m j
theorem INV.cpy {I : MI} (h : INV I) {x y : Nat} {sp dp n : Int32} (hv : ∀ i, i < n.toNatClampNeg → rg y (dp.toNatClampNeg + i) = rg x (sp.toNatClampNeg + i) ∨ rg y (dp.toNatClampNeg + i) = (-2147483648, 2147483647)) : INV (cpyI I x y sp dp n) := by
  intro m j
  simp only [cpyI]
  by_cases hm : m = y
  · subst hm
    rw [if_pos rfl]
    simp only [va_cpy]
    split
    · rename_i hj
      obtain ⟨i, hi, rfl⟩ : ∃ i, i < n.toNatClampNeg ∧ j = dp.toNatClampNeg + i := ⟨j - dp.toNatClampNeg, by omega, by omega⟩
      rcases hv i hi with e | e
      · rw [e]
        have : sp.toNatClampNeg + (dp.toNatClampNeg + i - dp.toNatClampNeg) = sp.toNatClampNeg + i := by omega
        rw [this]
        exact h x _
      · rw [e]
        exact ⟨Int32.le_toInt _, Int.le_of_lt_add_one (Int32.toInt_lt _)⟩
    · exact h m j
  · rw [if_neg hm]
    exact h m j
-- what a method leaves alone: all but the ranges R of names and the slots P
def inR (R : List (Nat × Nat)) (n : Nat) : Bool := R.any (fun r => decide (r.1 ≤ n) && decide (n < r.2))
def Kp (R P : List (Nat × Nat)) (I I2 : MI) : Prop := ∀ n k, inR R n = false → P.contains (n, k) = false → I2 n k = I n k
theorem Kp.rf {R P : List (Nat × Nat)} {I : MI} : Kp R P I I := fun _ _ _ _ => rfl
theorem Kp.put {R P : List (Nat × Nat)} {I I2 : MI} (h : Kp R P I I2) {n k : Nat} {v : Int32} (hm : (inR R n || P.contains (n, k)) = true) : Kp R P I (u2 I2 n k v) := by
  intro m j h1 h2
  rw [u2_v, if_neg]
  · exact h m j h1 h2
  · rintro ⟨rfl, rfl⟩
    rw [h1, h2] at hm
    cases hm
theorem inR_of {R : List (Nat × Nat)} {n : Nat} (r : Nat × Nat) (hr : r ∈ R) (h : r.1 ≤ n ∧ n < r.2) : inR R n = true := List.any_eq_true.mpr ⟨r, hr, by simp [h.1, h.2]⟩
theorem Kp.putR {R P : List (Nat × Nat)} {I I2 : MI} (h : Kp R P I I2) {n k : Nat} {v : Int32} (r : Nat × Nat) (hr : r ∈ R) (hn : r.1 ≤ n ∧ n < r.2) : Kp R P I (u2 I2 n k v) := h.put (by rw [inR_of r hr hn]; rfl)
theorem Kp.fill {R P : List (Nat × Nat)} {I I2 : MI} (h : Kp R P I I2) {x N : Nat} {v : Int32} (hm : inR R x = true) : Kp R P I (fillI I2 x N v) := by
  intro m j h1 h2
  simp only [fillI]
  rw [if_neg]
  · exact h m j h1 h2
  · rintro ⟨rfl, -⟩
    rw [h1] at hm
    cases hm
theorem Kp.cpy {R P : List (Nat × Nat)} {I I2 : MI} (h : Kp R P I I2) {x y : Nat} {sp dp n : Int32} (hm : inR R y = true) : Kp R P I (cpyI I2 x y sp dp n) := by
  intro m j h1 h2
  simp only [cpyI]
  rw [if_neg]
  · exact h m j h1 h2
  · rintro rfl
    rw [h1] at hm
    cases hm
def subR (R1 P1 R P : List (Nat × Nat)) : Bool := R1.all (fun a => R.any (fun r => decide (r.1 ≤ a.1) && decide (a.2 ≤ r.2))) && P1.all (fun q => inR R q.1 || P.contains q)
theorem inR_sub {R1 P1 R P : List (Nat × Nat)} (hs : subR R1 P1 R P = true) {n : Nat} (h : inR R n = false) : inR R1 n = false := by
  simp only [subR, Bool.and_eq_true, List.all_eq_true, List.any_eq_true, decide_eq_true_eq] at hs
  cases hq : inR R1 n with
  | false => rfl
  | true =>
    exfalso
    obtain ⟨a, ha, hb⟩ := List.any_eq_true.mp hq
    simp only [Bool.and_eq_true, decide_eq_true_eq] at hb
    obtain ⟨r, hr, h1, h2⟩ := hs.1 a ha
    rw [inR_of r hr ⟨by omega, by omega⟩] at h
    cases h
theorem con_sub {R1 P1 R P : List (Nat × Nat)} (hs : subR R1 P1 R P = true) {n k : Nat} (h : inR R n = false) (h2 : P.contains (n, k) = false) : P1.contains (n, k) = false := by
  simp only [subR, Bool.and_eq_true, List.all_eq_true] at hs
  cases hq : P1.contains (n, k) with
  | false => rfl
  | true =>
    exfalso
    have := hs.2 (n, k) (by simpa using hq)
    rw [h, h2] at this
    cases this
theorem Kp.trans {R1 P1 R P : List (Nat × Nat)} {I I1 I2 : MI} (h : Kp R P I I1) (h2 : Kp R1 P1 I1 I2) (hs : subR R1 P1 R P = true) : Kp R P I I2 := by
  intro n k a b
  rw [h2 n k (inR_sub hs a) (con_sub hs a b)]
  exact h n k a b
theorem Kp.get {R P : List (Nat × Nat)} {I I2 : MI} (h : Kp R P I I2) (n k : Nat) (hm : (inR R n || P.contains (n, k)) = false) : I2 n k = I n k := by
  rw [Bool.or_eq_false_iff] at hm
  exact h n k hm.1 hm.2
theorem Kp.getA {R P : List (Nat × Nat)} {I I2 : MI} (h : Kp R P I I2) (n : Nat) (hm : (inR R n || P.any (fun q => q.1 == n)) = false) : I2 n = I n := by
  rw [Bool.or_eq_false_iff] at hm
  funext k
  refine h n k hm.1 ?_
  cases hq : P.contains (n, k) with
  | false => rfl
  | true =>
    exfalso
    have h3 : (n, k) ∈ P := by simpa using hq
    have h4 : P.any (fun q => q.1 == n) = true := List.any_eq_true.mpr ⟨(n, k), h3, by simp⟩
    rw [hm.2] at h4
    cases h4
-- numbers
theorem a_div {x y v : Int32} {c : Int} (h : v = x / y) (hy : y.toInt = c) (hc : 0 < c) (hx : 0 ≤ x.toInt) : v.toInt = x.toInt / c := by
  subst hy
  rw [h, Int32.toInt_div_of_ne_left _ _ (by intro e; rw [e] at hx; exact absurd hx (by decide))]
  exact Int.tdiv_eq_ediv_of_nonneg hx
theorem a_rem {x y v : Int32} {c : Int} (h : v = x - x / y * y) (hy : y.toInt = c) (hc : 0 < c) (hx : 0 ≤ x.toInt) : v.toInt = x.toInt % c := by
  have h1 := a_div (v := x / y) rfl hy hc hx
  have hb := b_lt x
  have hd : 0 ≤ x.toInt / c := Int.ediv_nonneg hx (Int.le_of_lt hc)
  have hm : x.toInt / c * c ≤ x.toInt := Int.ediv_mul_le _ (by omega)
  have hm0 : 0 ≤ x.toInt / c * c := Int.mul_nonneg hd (Int.le_of_lt hc)
  have h2 : (x / y * y).toInt = x.toInt / c * c := by
    rw [a_mul rfl (by rw [h1, hy]; omega) (by rw [h1, hy]; omega), h1, hy]
  rw [a_sub h (by rw [h2]; omega) (by rw [h2]; omega), h2]
  have := Int.emod_def x.toInt c
  rw [Int.mul_comm] at this
  omega
theorem nar01 {v : Int32} (h1 : 0 ≤ v.toInt) (h2 : v.toInt ≤ 1) : narrow .boolean (.int v) = .int v ∧ fits .boolean (.int v) = true := by
  have : v = 0 ∨ v = 1 := by
    rcases (show v.toInt = 0 ∨ v.toInt = 1 by omega) with h | h
    · left; exact Int32.toInt_inj.mp h
    · right; exact Int32.toInt_inj.mp h
  rcases this with rfl | rfl <;> exact ⟨rfl, rfl⟩
theorem a_and {x y v : Int32} {c : Int} (h : v = x &&& y) (hy : y.toInt = c) (hc : 0 ≤ c) : 0 ≤ v.toInt ∧ v.toInt ≤ c := by
  subst hy
  have e1 : v.toBitVec = x.toBitVec &&& y.toBitVec := by rw [h]; exact Int32.toBitVec_and x y
  have hyi : y.toInt = y.toBitVec.toInt := rfl
  have hvi : v.toInt = v.toBitVec.toInt := rfl
  have hym := BitVec.toInt_eq_msb_cond y.toBitVec
  have hvm := BitVec.toInt_eq_msb_cond v.toBitVec
  have hyl := y.toBitVec.isLt
  cases hb : y.toBitVec.msb with
  | true =>
    rw [hb] at hym
    simp at hym
    omega
  | false =>
    have hv0 : v.toBitVec.msb = false := by rw [e1, BitVec.msb_and, hb, Bool.and_false]
    rw [hb] at hym
    rw [hv0] at hvm
    simp at hym hvm
    have hle : v.toBitVec.toNat ≤ y.toBitVec.toNat := by rw [e1, BitVec.toNat_and]; exact Nat.and_le_right
    omega
theorem bo01 {r : Int32} {P : Prop} (h : Bo r P) : 0 ≤ r.toInt ∧ r.toInt ≤ 1 := by
  rcases h with ⟨-, h⟩ | ⟨-, h⟩ <;> subst h <;> decide
theorem nar_byte (x : Int32) : -128 ≤ (vp_nar .byte x).toInt ∧ (vp_nar .byte x).toInt ≤ 127 := by
  show -128 ≤ (x.toInt8.toInt32).toInt ∧ (x.toInt8.toInt32).toInt ≤ 127
  rw [Int8.toInt_toInt32]
  exact ⟨Int8.le_toInt _, Int.le_of_lt_add_one (Int8.toInt_lt _)⟩
theorem stX_r {x : Int32} {i : Nat} (h : x = stX.getD i 0) : -1 ≤ x.toInt ∧ x.toInt ≤ 1 := by
  subst h
  match i with
  | 0 | 1 | 2 | 3 | 4 | 5 | 6 | 7 => decide
  | n + 8 => rw [show stX.getD (n + 8) 0 = 0 from rfl]; decide
theorem stY_r {x : Int32} {i : Nat} (h : x = stY.getD i 0) : -1 ≤ x.toInt ∧ x.toInt ≤ 1 := by
  subst h
  match i with
  | 0 | 1 | 2 | 3 | 4 | 5 | 6 | 7 => decide
  | n + 8 => rw [show stY.getD (n + 8) 0 = 0 from rfl]; decide
theorem Kp.getW {R P : List (Nat × Nat)} {I I2 : MI} (h : Kp R P I I2) (n k : Nat) (hR : (R.all (fun r => decide (r.2 ≤ 200) || decide (300 ≤ r.1))) = true) (hP : (P.all (fun q => decide (q.1 < 200) || decide (300 ≤ q.1))) = true) (hn : 200 ≤ n ∧ n < 300) : I2 n k = I n k := by
  refine h n k ?_ ?_
  · cases hq : inR R n with
    | false => rfl
    | true =>
      exfalso
      obtain ⟨r, hr, hb⟩ := List.any_eq_true.mp hq
      have h1 := List.all_eq_true.mp hR r hr
      simp at hb h1
      omega
  · cases hq : P.contains (n, k) with
    | false => rfl
    | true =>
      exfalso
      have h3 : (n, k) ∈ P := by simpa using hq
      have h1 := List.all_eq_true.mp hP (n, k) h3
      simp at h1
      omega
theorem a_min {x y v : Int32} (h : v = if y < x then y else x) : v.toInt ≤ x.toInt ∧ v.toInt ≤ y.toInt ∧ (v.toInt = x.toInt ∨ v.toInt = y.toInt) := by
  subst h
  split
  · rename_i h
    have := q_lt h
    omega
  · rename_i h
    have := q_nlt h
    omega
theorem lbw {w : Nat} (h : w ∈ lB) : 200 ≤ w ∧ w ≤ 260 := by
  simp only [lB, List.mem_cons, List.mem_nil_iff, or_false] at h
  rcases h with rfl | rfl | rfl | rfl | rfl | rfl | rfl <;> decide
theorem rgw0 {w : Nat} (h : w ∈ lB) : rg w 5 = (0, 12) ∧ rg w 6 = (0, 400) := by
  simp only [lB, List.mem_cons, List.mem_nil_iff, or_false] at h
  rcases h with rfl | rfl | rfl | rfl | rfl | rfl | rfl <;> exact ⟨rfl, rfl⟩
theorem rgw1 {w : Nat} (h : w ∈ lB) (k : Nat) : rg (w + 1) k = (-2147483648, 2147483647) := by
  simp only [lB, List.mem_cons, List.mem_nil_iff, or_false] at h
  rcases h with rfl | rfl | rfl | rfl | rfl | rfl | rfl <;> rfl
theorem rgw2 {w : Nat} (h : w ∈ lB) (k : Nat) : rg (w + 2) k = (-2147483648, 2147483647) := by
  simp only [lB, List.mem_cons, List.mem_nil_iff, or_false] at h
  rcases h with rfl | rfl | rfl | rfl | rfl | rfl | rfl <;> rfl
theorem rgw3 {w : Nat} (h : w ∈ lB) (k : Nat) : rg (w + 3) k = (0, 400) := by
  simp only [lB, List.mem_cons, List.mem_nil_iff, or_false] at h
  rcases h with rfl | rfl | rfl | rfl | rfl | rfl | rfl <;> rfl
theorem rgw4 {w : Nat} (h : w ∈ lB) (k : Nat) : rg (w + 4) k = (0, 400) := by
  simp only [lB, List.mem_cons, List.mem_nil_iff, or_false] at h
  rcases h with rfl | rfl | rfl | rfl | rfl | rfl | rfl <;> rfl
theorem rgw5 {w : Nat} (h : w ∈ lB) (k : Nat) : rg (w + 5) k = (0, 400) := by
  simp only [lB, List.mem_cons, List.mem_nil_iff, or_false] at h
  rcases h with rfl | rfl | rfl | rfl | rfl | rfl | rfl <;> rfl
theorem lz_ne {b : Int64} (h : ¬ lg_cmp b 0 = 0) : ¬ b = 0 := by
  intro e
  subst e
  exact h rfl
theorem s_or {x : Int} {P : Prop} (h : x ≠ -1) (q : x = -1 ∨ P) : P := q.resolve_left h
theorem fits_byte {v : Int32} (h : -128 ≤ v.toInt ∧ v.toInt ≤ 127) : fits .byte (.int v) = true := by
  have h1 : (-128 : Int32) ≤ v := Int32.le_iff_toInt_le.mpr h.1
  have h2 : v ≤ (127 : Int32) := Int32.le_iff_toInt_le.mpr h.2
  simp [fits, h1, h2]
theorem sgc_put {ns : List Nat} {G : MG} {n k g : Nat} (h : SGC ns G) (hf : (feC.all (fun t => !(t.1 == n && t.2.1 == k))) = true) : SGC ns (u2 G n k g) := by
  refine ⟨h.1, fun t ht => ?_⟩
  rw [u2_v, if_neg]
  · exact h.2 t ht
  · rintro ⟨h1, h2⟩
    have := List.all_eq_true.mp hf t ht
    simp [h1, h2] at this
theorem lok_put {ns : List Nat} {G : MG} {n k g w : Nat} (h : LOK ns G w) (hn : n < 200) : LOK ns (u2 G n k g) w := by
  refine ⟨h.1, h.2.1, fun j hj => ?_⟩
  have h1 : 200 ≤ w := by
    have h2 := h.1
    simp only [lB, List.mem_cons, List.mem_nil_iff, or_false] at h2
    omega
  rw [u2_v, if_neg (by omega)]
  exact h.2.2 j hj
def LWS (ns : List Nat) (I : MI) (G : MG) : Prop := ∀ k : Nat, (k : Int) < (I 0 14).toInt → ∃ w, G 2 k = w ∧ LOK ns G w
