-- what calls answer and change, where answers are compared
def okS (a b c d : Int32) : Prop := (0 ≤ a.toInt ∧ a.toInt ≤ 11) ∧ (0 ≤ b.toInt ∧ b.toInt ≤ 23) ∧ ((c.toInt = -1 ∧ d.toInt = 0) ∨ ((0 ≤ c.toInt ∧ c.toInt ≤ 7) ∧ 0 ≤ d.toInt ∧ d.toInt ≤ 99999))
def ASK (ok : Prop) (r v v2 a : Int32) : Prop := (ok ∧ r = v ∧ v2 = a) ∨ (¬ ok ∧ r = -1 ∧ v2 = v)
def CPF (b c : Nat) (I I2 : MI) : Prop := (∀ j, j < 10 → I2 b j = I c j) ∧ (∀ j, j < 576 → I2 (b + 1) j = I (c + 1) j) ∧ (∀ j, j < 576 → I2 (b + 2) j = I (c + 2) j) ∧ (∀ j, j < 576 → I2 (b + 3) j = I (c + 3) j) ∧ (∀ j, j < 576 → I2 (b + 4) j = I (c + 4) j) ∧ (∀ j, j < 288 → I2 (b + 5) j = I (c + 5) j) ∧ (∀ j, j < 288 → I2 (b + 6) j = I (c + 6) j) ∧ (∀ j, j < 240 → I2 (b + 7) j = I (c + 7) j) ∧ (∀ j, j < 56 → I2 (b + 8) j = I (c + 8) j)
theorem cpy_at {I : MI} {x y : Nat} {n : Int32} {N j : Nat} (hn : n.toNatClampNeg = N) (hj : j < N) : cpyI I x y 0 0 n y j = I x j := by
  subst hn
  show (if y = y then va_cpy (I x) (I y) (0 : Int32).toNatClampNeg (0 : Int32).toNatClampNeg n.toNatClampNeg else I y) j = I x j
  rw [if_pos rfl]
  show (if 0 ≤ j ∧ j < 0 + n.toNatClampNeg then I x (0 + (j - 0)) else I y j) = I x j
  rw [if_pos ⟨by omega, by omega⟩]
  congr 1
  omega
theorem Kp.apart {R P : List (Nat × Nat)} {I I2 : MI} (h : Kp R P I I2) (lo hi : Nat) (hR : (R.all (fun r => decide (lo ≤ r.1) && decide (r.2 ≤ hi)) && P.all (fun q => decide (lo ≤ q.1) && decide (q.1 < hi))) = true) (n : Nat) (hn : ¬ (lo ≤ n ∧ n < hi)) : I2 n = I n := by
  simp only [Bool.and_eq_true, List.all_eq_true, decide_eq_true_eq] at hR
  funext k
  refine h n k ?_ ?_
  · cases hq : inR R n with
    | false => rfl
    | true =>
      exfalso
      obtain ⟨r, hr, hb⟩ := List.any_eq_true.mp hq
      have h1 := hR.1 r hr
      simp at hb
      omega
  · cases hq : P.contains (n, k) with
    | false => rfl
    | true =>
      exfalso
      have h3 : (n, k) ∈ P := by simpa using hq
      have h1 := hR.2 (n, k) h3
      simp at h1
      omega
def IMGX (G G2 : MG) (I I2 : MI) (r a : Int32) : Prop := ((0 ≤ a.toInt ∧ a.toInt ≤ 3 ∧ 0 < (I 100 0).toInt) ∧ r = I 100 6 ∧ ∃ k : Nat, a.toInt = k ∧ G2 1 k = 120 + 10 * k ∧ CPF (120 + 10 * k) 100 I I2 ∧ (∀ n, ¬ (120 + 10 * k ≤ n ∧ n < 129 + 10 * k) → I2 n = I n) ∧ ∀ j, j ≠ k → G2 1 j = G 1 j) ∨ (¬ (0 ≤ a.toInt ∧ a.toInt ≤ 3 ∧ 0 < (I 100 0).toInt) ∧ r = -1 ∧ I2 = I ∧ G2 = G)
def BCKX (G : MG) (I I2 : MI) (r a : Int32) : Prop := (∃ k : Nat, k < 4 ∧ a.toInt = k ∧ G 1 k = 120 + 10 * k ∧ r = I2 100 6 ∧ CPF 100 (120 + 10 * k) I I2) ∨ ((∀ k : Nat, k < 4 → a.toInt = k → G 1 k = 0) ∧ r = -1 ∧ I2 = I)
-- cells: what eyes, mirror, rock, yard do to rows of cells, what cell answers
def SETA (ok : Prop) (r : Int32) (I I2 : MI) (n c : Nat) (v : Int32) : Prop := (ok ∧ r = I n c ∧ I2 = u2 I n c v) ∨ (¬ ok ∧ r = -2 ∧ I2 = I)
-- rock, cell by cell
def rkC (v : Int32) (f : Nat → Int32) (c : Nat) : Nat → Int32 := fun j => if j = c then v else f j
theorem rkC_self {v : Int32} {f : Nat → Int32} {c : Nat} (h : f c = v) : rkC v f c = f := by
  funext j
  unfold rkC
  split
  · rename_i e
    rw [e, h]
  · rfl
def rkR (v : Int32) (r : Nat) : Nat → Nat → (Nat → Int32) × Int32 → (Nat → Int32) × Int32
  | 0, _, s => s
  | m + 1, x, s => rkR v r m (x + 1) (rkC v s.1 (24 * r + x), if s.1 (24 * r + x) = v then s.2 else s.2 + 1)
def rkA (v : Int32) (x w : Nat) : Nat → Nat → (Nat → Int32) × Int32 → (Nat → Int32) × Int32
  | 0, _, s => s
  | m + 1, y, s => rkA v x w m (y + 1) (rkR v y w x s)
def RKX (ok : Prop) (r : Int32) (I I2 : MI) (n : Nat) (a b c d v : Int32) : Prop := (ok ∧ (I2 n, r) = rkA v a.toNatClampNeg (c.toInt + 1 - a.toInt).toNat (d.toInt + 1 - b.toInt).toNat b.toNatClampNeg (I n, 0)) ∨ (¬ ok ∧ r = -1 ∧ I2 = I)
theorem rkA_end {v : Int32} {x w y : Nat} {s : (Nat → Int32) × Int32} {d row : Int32} (h : d.toInt < row.toInt) : rkA v x w (d.toInt + 1 - row.toInt).toNat y s = s := by
  rw [show (d.toInt + 1 - row.toInt).toNat = 0 from by omega]
  rfl
theorem rkA_row {v : Int32} {x w : Nat} {s : (Nat → Int32) × Int32} {d row : Int32} (h : row.toInt ≤ d.toInt) (h0 : 0 ≤ row.toInt) : rkA v x w (d.toInt + 1 - row.toInt).toNat row.toNatClampNeg s = rkA v x w (d.toInt - row.toInt).toNat (row.toNatClampNeg + 1) (rkR v row.toNatClampNeg w x s) := by
  rw [show (d.toInt + 1 - row.toInt).toNat = (d.toInt - row.toInt).toNat + 1 from by omega]
  rfl
theorem rkR_end {v : Int32} {r x : Nat} {s : (Nat → Int32) × Int32} {c col : Int32} (h : c.toInt < col.toInt) : rkR v r (c.toInt + 1 - col.toInt).toNat x s = s := by
  rw [show (c.toInt + 1 - col.toInt).toNat = 0 from by omega]
  rfl
theorem rkR_col {v : Int32} {r : Nat} {s : (Nat → Int32) × Int32} {c col : Int32} (h : col.toInt ≤ c.toInt) : rkR v r (c.toInt + 1 - col.toInt).toNat col.toNatClampNeg s = rkR v r (c.toInt - col.toInt).toNat (col.toNatClampNeg + 1) (rkC v s.1 (24 * r + col.toNatClampNeg), if s.1 (24 * r + col.toNatClampNeg) = v then s.2 else s.2 + 1) := by
  rw [show (c.toInt + 1 - col.toInt).toNat = (c.toInt - col.toInt).toNat + 1 from by omega]
  rfl
-- yards: which is at a cell
def yin (F : Nat → Nat → Int32) (k c : Nat) : Prop := ((F 17 k).toInt ≤ (c % 24 : Nat) ∧ ((c % 24 : Nat) : Int) ≤ (F 19 k).toInt) ∧ (F 18 k).toInt ≤ (c / 24 : Nat) ∧ ((c / 24 : Nat) : Int) ≤ (F 20 k).toInt
noncomputable def yo (F : Nat → Nat → Int32) (c : Nat) : Nat → Int
  | 0 => -1
  | n + 1 => if yo F c n = -1 then (@ite Int (yin F n c) (Classical.propDecidable _) (n : Int) (-1)) else yo F c n
theorem yo_hit {F : Nat → Nat → Int32} {c k : Nat} (h0 : yo F c k = -1) (h : yin F k c) : yo F c (k + 1) = k := by
  simp only [yo]
  rw [if_pos h0, if_pos h]
theorem yo_miss {F : Nat → Nat → Int32} {c k : Nat} (h0 : yo F c k = -1) (h : ¬ yin F k c) : yo F c (k + 1) = -1 := by
  simp only [yo]
  rw [if_pos h0, if_neg h]
theorem yo_stay {F : Nat → Nat → Int32} {c k : Nat} (h0 : yo F c k ≠ -1) : ∀ n, k ≤ n → yo F c n = yo F c k := by
  intro n
  induction n with
  | zero =>
    intro h
    rw [Nat.le_zero.mp h]
  | succ n ih =>
    intro h
    rcases Nat.lt_or_ge n k with h1 | h1
    · rw [show n + 1 = k from by omega]
    · have := ih h1
      simp only [yo]
      rw [this, if_neg h0]
theorem yo_congr {F F2 : Nat → Nat → Int32} {c : Nat} : ∀ {n : Nat}, (∀ k, k < n → F2 17 k = F 17 k ∧ F2 18 k = F 18 k ∧ F2 19 k = F 19 k ∧ F2 20 k = F 20 k) → yo F2 c n = yo F c n := by
  intro n
  induction n with
  | zero => intro _; rfl
  | succ n ih =>
    intro h
    have e := h n (by omega)
    have h1 : yin F2 n c ↔ yin F n c := by
      unfold yin
      rw [e.1, e.2.1, e.2.2.1, e.2.2.2]
    have h2 := ih (fun k hk => h k (by omega))
    simp only [yo]
    rw [h2]
    by_cases hz : yo F c n = -1
    · rw [if_pos hz, if_pos hz]
      by_cases hy : yin F n c
      · rw [if_pos (h1.mpr hy), if_pos hy]
      · rw [if_neg (fun q => hy (h1.mp q)), if_neg hy]
    · rw [if_neg hz, if_neg hz]
theorem rk_eq {v n T1 : Int32} {x w m y r : Nat} {f : Nat → Int32} {c col col2 : Int32} {T : (Nat → Int32) × Int32} (H : rkA v x w m y (rkR v r (c.toInt + 1 - col.toInt).toNat col.toNatClampNeg (f, n)) = T) (h : col.toInt ≤ c.toInt) (h0 : 0 ≤ col.toInt) (e : col2.toInt = col.toInt + 1) (he : f (24 * r + col.toNatClampNeg) = v) : rkA v x w m y (rkR v r (c.toInt + 1 - col2.toInt).toNat col2.toNatClampNeg (f, n)) = T := by
  have t1 := tn h0
  have t2 := tn (i := col2) (by omega)
  rw [rkR_col h] at H
  simp only [he, if_true, rkC_self he] at H
  rw [show (c.toInt + 1 - col2.toInt).toNat = (c.toInt - col.toInt).toNat from by omega, show col2.toNatClampNeg = col.toNatClampNeg + 1 from by omega]
  exact H
theorem rk_ne {v n n2 : Int32} {x w m y r : Nat} {f f2 : Nat → Int32} {c col col2 : Int32} {T : (Nat → Int32) × Int32} (H : rkA v x w m y (rkR v r (c.toInt + 1 - col.toInt).toNat col.toNatClampNeg (f, n)) = T) (h : col.toInt ≤ c.toInt) (h0 : 0 ≤ col.toInt) (e : col2.toInt = col.toInt + 1) (he : ¬ f (24 * r + col.toNatClampNeg) = v) (hf : f2 = rkC v f (24 * r + col.toNatClampNeg)) (hn : n2 = n + 1) : rkA v x w m y (rkR v r (c.toInt + 1 - col2.toInt).toNat col2.toNatClampNeg (f2, n2)) = T := by
  have t1 := tn h0
  have t2 := tn (i := col2) (by omega)
  rw [rkR_col h] at H
  simp only [he, if_false] at H
  rw [show (c.toInt + 1 - col2.toInt).toNat = (c.toInt - col.toInt).toNat from by omega, show col2.toNatClampNeg = col.toNatClampNeg + 1 from by omega, hf, hn]
  exact H
theorem u2_rk {I : MI} {n k c : Nat} {v : Int32} (e : k = c) : u2 I n k v n = rkC v (I n) c := by
  subst e
  funext j
  rw [u2_v]
  unfold rkC
  by_cases hq : j = k
  · rw [if_pos ⟨rfl, hq⟩, if_pos hq]
  · rw [if_neg (by simp [hq]), if_neg hq]
def CELX (ok : Prop) (r a v0 v1 v2 : Int32) (v3 : Int) : Prop := (¬ (ok ∧ 0 ≤ a.toInt ∧ a.toInt ≤ 3) ∧ r = -2) ∨ (ok ∧ a.toInt = 0 ∧ r = v0) ∨ (ok ∧ a.toInt = 1 ∧ r = v1) ∨ (ok ∧ a.toInt = 2 ∧ r = v2) ∨ (ok ∧ a.toInt = 3 ∧ r.toInt = v3)
theorem CELX.same {ok ok2 : Prop} {r r2 a v0 v1 v2 w0 w1 w2 : Int32} {v3 w3 : Int} (h : CELX ok r a v0 v1 v2 v3) (h2 : CELX ok2 r2 a w0 w1 w2 w3) (e : ok ↔ ok2) (hv : ok → v0 = w0 ∧ v1 = w1 ∧ v2 = w2 ∧ v3 = w3) : r = r2 := by
  rcases h with ⟨a1, a2⟩ | ⟨a0, a1, a2⟩ | ⟨a0, a1, a2⟩ | ⟨a0, a1, a2⟩ | ⟨a0, a1, a2⟩ <;> rcases h2 with ⟨b1, b2⟩ | ⟨b0, b1, b2⟩ | ⟨b0, b1, b2⟩ | ⟨b0, b1, b2⟩ | ⟨b0, b1, b2⟩ <;> first
    | (rw [a2, b2]; done)
    | (rw [a2, b2]; first | exact (hv a0).1 | exact (hv a0).2.1 | exact (hv a0).2.2.1)
    | (exact Int32.toInt_inj.mp (by rw [a2, b2]; exact (hv a0).2.2.2))
    | (exfalso; omega)
    | (exact absurd ⟨e.mpr b0, by omega, by omega⟩ a1)
    | (exact absurd ⟨e.mp a0, by omega, by omega⟩ b1)
def live (I : MI) : Nat → Nat → Int32 := fun n j => I (1000 + n) j
theorem rk_any {v n n2 : Int32} {x w m y r : Nat} {f f2 : Nat → Int32} {c col col2 : Int32} {T : (Nat → Int32) × Int32} (H : rkA v x w m y (rkR v r (c.toInt + 1 - col.toInt).toNat col.toNatClampNeg (f, n)) = T) (h : col.toInt ≤ c.toInt) (h0 : 0 ≤ col.toInt) (e : col2.toInt = col.toInt + 1) (hf : f2 = rkC v f (24 * r + col.toNatClampNeg)) (hn : n2 = if f (24 * r + col.toNatClampNeg) = v then n else n + 1) : rkA v x w m y (rkR v r (c.toInt + 1 - col2.toInt).toNat col2.toNatClampNeg (f2, n2)) = T := by
  have t1 := tn h0
  have t2 := tn (i := col2) (by omega)
  rw [rkR_col h] at H
  rw [show (c.toInt + 1 - col2.toInt).toNat = (c.toInt - col.toInt).toNat from by omega, show col2.toNatClampNeg = col.toNatClampNeg + 1 from by omega, hf, hn]
  exact H
def bv (a : Int32) : Int32 := if a = 0 then 0 else 1
theorem i_add0 (x : Int32) : x + 0 = x := by simp
-- yards laid over cells
def YP (f g : Nat → Int32) (m a b c d : Int32) (row col : Int) : Prop := ∀ q : Nat, q < 576 → g q = if (b.toInt ≤ ((q / 24 : Nat) : Int) ∧ ((q / 24 : Nat) : Int) ≤ d.toInt ∧ a.toInt ≤ ((q % 24 : Nat) : Int) ∧ ((q % 24 : Nat) : Int) ≤ c.toInt ∧ (((q / 24 : Nat) : Int) < row ∨ (((q / 24 : Nat) : Int) = row ∧ ((q % 24 : Nat) : Int) < col))) ∧ (f q).toInt = -1 then m else f q
theorem YP.z {f : Nat → Int32} {m a b c d : Int32} : YP f f m a b c d b.toInt a.toInt := fun q hq => by rw [if_neg (by omega)]
theorem YP.step {f g g2 : Nat → Int32} {m a b c d row col : Int32} {q0 : Nat} (h : YP f g m a b c d row.toInt col.toInt) (hr : b.toInt ≤ row.toInt ∧ row.toInt ≤ d.toInt ∧ 0 ≤ row.toInt ∧ row.toInt ≤ 23) (hc : a.toInt ≤ col.toInt ∧ col.toInt ≤ c.toInt ∧ 0 ≤ col.toInt ∧ col.toInt ≤ 23) (hq : (q0 : Int) = 24 * row.toInt + col.toInt) (h2 : ∀ q, g2 q = if q = q0 ∧ (g q0).toInt = -1 then m else g q) : YP f g2 m a b c d row.toInt (col.toInt + 1) := by
  intro q hq5
  have h1 := h q hq5
  have h0 := h q0 (by omega)
  rw [if_neg (by omega)] at h0
  rw [h2 q, h0]
  by_cases e : q = q0
  · subst e
    by_cases e2 : (f q).toInt = -1
    · rw [if_pos ⟨rfl, e2⟩, if_pos ⟨by omega, e2⟩]
    · rw [if_neg (fun z => e2 z.2), if_neg (fun z => e2 z.2)]
      exact h0
  · rw [if_neg (fun z => e z.1), h1]
    by_cases e2 : (f q).toInt = -1
    · by_cases e3 : (b.toInt ≤ ((q / 24 : Nat) : Int) ∧ ((q / 24 : Nat) : Int) ≤ d.toInt ∧ a.toInt ≤ ((q % 24 : Nat) : Int) ∧ ((q % 24 : Nat) : Int) ≤ c.toInt ∧ (((q / 24 : Nat) : Int) < row.toInt ∨ (((q / 24 : Nat) : Int) = row.toInt ∧ ((q % 24 : Nat) : Int) < col.toInt)))
      · rw [if_pos ⟨e3, e2⟩, if_pos ⟨by omega, e2⟩]
      · rw [if_neg (fun z => e3 z.1), if_neg (fun z => e3 (by omega))]
    · rw [if_neg (fun z => e2 z.2), if_neg (fun z => e2 z.2)]
theorem YP.row {f g : Nat → Int32} {m a b c d : Int32} {row col : Int} (h : YP f g m a b c d row col) (hc : c.toInt < col) : YP f g m a b c d (row + 1) a.toInt := by
  intro q hq
  rw [h q hq]
  by_cases e2 : (f q).toInt = -1
  · by_cases e3 : (b.toInt ≤ ((q / 24 : Nat) : Int) ∧ ((q / 24 : Nat) : Int) ≤ d.toInt ∧ a.toInt ≤ ((q % 24 : Nat) : Int) ∧ ((q % 24 : Nat) : Int) ≤ c.toInt ∧ (((q / 24 : Nat) : Int) < row ∨ (((q / 24 : Nat) : Int) = row ∧ ((q % 24 : Nat) : Int) < col)))
    · rw [if_pos ⟨e3, e2⟩, if_pos ⟨by omega, e2⟩]
    · rw [if_neg (fun z => e3 z.1), if_neg (fun z => e3 (by omega))]
  · rw [if_neg (fun z => e2 z.2), if_neg (fun z => e2 z.2)]
def YF (f g : Nat → Int32) (m a b c d : Int32) : Prop := ∀ q : Nat, q < 576 → g q = if (b.toInt ≤ ((q / 24 : Nat) : Int) ∧ ((q / 24 : Nat) : Int) ≤ d.toInt ∧ a.toInt ≤ ((q % 24 : Nat) : Int) ∧ ((q % 24 : Nat) : Int) ≤ c.toInt) ∧ (f q).toInt = -1 then m else f q
theorem YP.fin {f g : Nat → Int32} {m a b c d : Int32} {row col : Int} (h : YP f g m a b c d row col) (hr : d.toInt < row) : YF f g m a b c d := by
  intro q hq
  rw [h q hq]
  by_cases e2 : (f q).toInt = -1
  · by_cases e3 : (b.toInt ≤ ((q / 24 : Nat) : Int) ∧ ((q / 24 : Nat) : Int) ≤ d.toInt ∧ a.toInt ≤ ((q % 24 : Nat) : Int) ∧ ((q % 24 : Nat) : Int) ≤ c.toInt)
    · rw [if_pos ⟨by omega, e2⟩, if_pos ⟨e3, e2⟩]
    · rw [if_neg (fun z => e3 (by omega)), if_neg (fun z => e3 z.1)]
  · rw [if_neg (fun z => e2 z.2), if_neg (fun z => e2 z.2)]
