-- cells: what eyes, mirror, rock, yard do to rows of cells, what cell answers
def SETA (ok : Prop) (r : Int32) (I I2 : MI) (n c : Nat) (v : Int32) : Prop := (ok ∧ r = I n c ∧ I2 = u2 I n c v) ∨ (¬ ok ∧ r = -2 ∧ I2 = I)
def ADDM (ok : Prop) (r : Int32) (I I2 : MI) (m k n c : Nat) : Prop := (ok ∧ r = I m k ∧ (I2 m k).toInt = (I m k).toInt + 1 ∧ I2 n = u2 I n c (I m k) n) ∨ (¬ ok ∧ r = -1 ∧ I2 = I)
-- rock, cell by cell
def rkC (v : Int32) (f : Nat → Int32) (c : Nat) : Nat → Int32 := fun j => if j = c then v else f j
theorem rkC_self {v : Int32} {f : Nat → Int32} {c : Nat} (h : f c = v) : rkC v f c = f := by
  funext j
  unfold rkC
  split
  · rename_i e
    rw [e, h]
  · rfl
def rkR (v : Int32) (r : Nat) : Nat → Nat → (Nat → Int32) × Int32 → (Nat → Int32) × Int32
  | 0, _, s => s
  | m + 1, x, s => rkR v r m (x + 1) (rkC v s.1 (24 * r + x), if s.1 (24 * r + x) = v then s.2 else s.2 + 1)
def rkA (v : Int32) (x w : Nat) : Nat → Nat → (Nat → Int32) × Int32 → (Nat → Int32) × Int32
  | 0, _, s => s
  | m + 1, y, s => rkA v x w m (y + 1) (rkR v y w x s)
def RKX (ok : Prop) (r : Int32) (I I2 : MI) (n : Nat) (a b c d v : Int32) : Prop := (ok ∧ (I2 n, r) = rkA v a.toNatClampNeg (c.toInt + 1 - a.toInt).toNat (d.toInt + 1 - b.toInt).toNat b.toNatClampNeg (I n, 0)) ∨ (¬ ok ∧ r = -1 ∧ I2 = I)
theorem rkA_end {v : Int32} {x w y : Nat} {s : (Nat → Int32) × Int32} {d row : Int32} (h : d.toInt < row.toInt) : rkA v x w (d.toInt + 1 - row.toInt).toNat y s = s := by
  rw [show (d.toInt + 1 - row.toInt).toNat = 0 from by omega]
  rfl
theorem rkA_row {v : Int32} {x w : Nat} {s : (Nat → Int32) × Int32} {d row : Int32} (h : row.toInt ≤ d.toInt) (h0 : 0 ≤ row.toInt) : rkA v x w (d.toInt + 1 - row.toInt).toNat row.toNatClampNeg s = rkA v x w (d.toInt - row.toInt).toNat (row.toNatClampNeg + 1) (rkR v row.toNatClampNeg w x s) := by
  rw [show (d.toInt + 1 - row.toInt).toNat = (d.toInt - row.toInt).toNat + 1 from by omega]
  rfl
theorem rkR_end {v : Int32} {r x : Nat} {s : (Nat → Int32) × Int32} {c col : Int32} (h : c.toInt < col.toInt) : rkR v r (c.toInt + 1 - col.toInt).toNat x s = s := by
  rw [show (c.toInt + 1 - col.toInt).toNat = 0 from by omega]
  rfl
theorem rkR_col {v : Int32} {r : Nat} {s : (Nat → Int32) × Int32} {c col : Int32} (h : col.toInt ≤ c.toInt) : rkR v r (c.toInt + 1 - col.toInt).toNat col.toNatClampNeg s = rkR v r (c.toInt - col.toInt).toNat (col.toNatClampNeg + 1) (rkC v s.1 (24 * r + col.toNatClampNeg), if s.1 (24 * r + col.toNatClampNeg) = v then s.2 else s.2 + 1) := by
  rw [show (c.toInt + 1 - col.toInt).toNat = (c.toInt - col.toInt).toNat + 1 from by omega]
  rfl
-- yards: which is at a cell
def yin (F : Nat → Nat → Int32) (k c : Nat) : Prop := ((F 17 k).toInt ≤ (c % 24 : Nat) ∧ ((c % 24 : Nat) : Int) ≤ (F 19 k).toInt) ∧ (F 18 k).toInt ≤ (c / 24 : Nat) ∧ ((c / 24 : Nat) : Int) ≤ (F 20 k).toInt
noncomputable def yo (F : Nat → Nat → Int32) (c : Nat) : Nat → Int
  | 0 => -1
  | n + 1 => if yo F c n = -1 then (@ite Int (yin F n c) (Classical.propDecidable _) (n : Int) (-1)) else yo F c n
theorem yo_hit {F : Nat → Nat → Int32} {c k : Nat} (h0 : yo F c k = -1) (h : yin F k c) : yo F c (k + 1) = k := by
  simp only [yo]
  rw [if_pos h0, if_pos h]
theorem yo_miss {F : Nat → Nat → Int32} {c k : Nat} (h0 : yo F c k = -1) (h : ¬ yin F k c) : yo F c (k + 1) = -1 := by
  simp only [yo]
  rw [if_pos h0, if_neg h]
theorem yo_stay {F : Nat → Nat → Int32} {c k : Nat} (h0 : yo F c k ≠ -1) : ∀ n, k ≤ n → yo F c n = yo F c k := by
  intro n
  induction n with
  | zero =>
    intro h
    rw [Nat.le_zero.mp h]
  | succ n ih =>
    intro h
    rcases Nat.lt_or_ge n k with h1 | h1
    · rw [show n + 1 = k from by omega]
    · have := ih h1
      simp only [yo]
      rw [this, if_neg h0]
theorem yo_congr {F F2 : Nat → Nat → Int32} {c : Nat} : ∀ {n : Nat}, (∀ k, k < n → F2 17 k = F 17 k ∧ F2 18 k = F 18 k ∧ F2 19 k = F 19 k ∧ F2 20 k = F 20 k) → yo F2 c n = yo F c n := by
  intro n
  induction n with
  | zero => intro _; rfl
  | succ n ih =>
    intro h
    have e := h n (by omega)
    have h1 : yin F2 n c ↔ yin F n c := by
      unfold yin
      rw [e.1, e.2.1, e.2.2.1, e.2.2.2]
    have h2 := ih (fun k hk => h k (by omega))
    simp only [yo]
    rw [h2]
    by_cases hz : yo F c n = -1
    · rw [if_pos hz, if_pos hz]
      by_cases hy : yin F n c
      · rw [if_pos (h1.mpr hy), if_pos hy]
      · rw [if_neg (fun q => hy (h1.mp q)), if_neg hy]
    · rw [if_neg hz, if_neg hz]
theorem rk_eq {v n T1 : Int32} {x w m y r : Nat} {f : Nat → Int32} {c col col2 : Int32} {T : (Nat → Int32) × Int32} (H : rkA v x w m y (rkR v r (c.toInt + 1 - col.toInt).toNat col.toNatClampNeg (f, n)) = T) (h : col.toInt ≤ c.toInt) (h0 : 0 ≤ col.toInt) (e : col2.toInt = col.toInt + 1) (he : f (24 * r + col.toNatClampNeg) = v) : rkA v x w m y (rkR v r (c.toInt + 1 - col2.toInt).toNat col2.toNatClampNeg (f, n)) = T := by
  have t1 := tn h0
  have t2 := tn (i := col2) (by omega)
  rw [rkR_col h] at H
  simp only [he, if_true, rkC_self he] at H
  rw [show (c.toInt + 1 - col2.toInt).toNat = (c.toInt - col.toInt).toNat from by omega, show col2.toNatClampNeg = col.toNatClampNeg + 1 from by omega]
  exact H
theorem rk_ne {v n n2 : Int32} {x w m y r : Nat} {f f2 : Nat → Int32} {c col col2 : Int32} {T : (Nat → Int32) × Int32} (H : rkA v x w m y (rkR v r (c.toInt + 1 - col.toInt).toNat col.toNatClampNeg (f, n)) = T) (h : col.toInt ≤ c.toInt) (h0 : 0 ≤ col.toInt) (e : col2.toInt = col.toInt + 1) (he : ¬ f (24 * r + col.toNatClampNeg) = v) (hf : f2 = rkC v f (24 * r + col.toNatClampNeg)) (hn : n2 = n + 1) : rkA v x w m y (rkR v r (c.toInt + 1 - col2.toInt).toNat col2.toNatClampNeg (f2, n2)) = T := by
  have t1 := tn h0
  have t2 := tn (i := col2) (by omega)
  rw [rkR_col h] at H
  simp only [he, if_false] at H
  rw [show (c.toInt + 1 - col2.toInt).toNat = (c.toInt - col.toInt).toNat from by omega, show col2.toNatClampNeg = col.toNatClampNeg + 1 from by omega, hf, hn]
  exact H
theorem u2_rk {I : MI} {n k c : Nat} {v : Int32} (e : k = c) : u2 I n k v n = rkC v (I n) c := by
  subst e
  funext j
  rw [u2_v]
  unfold rkC
  by_cases hq : j = k
  · rw [if_pos ⟨rfl, hq⟩, if_pos hq]
  · rw [if_neg (by simp [hq]), if_neg hq]
def CELX (ok : Prop) (r a v0 v1 v2 : Int32) (v3 : Int) : Prop := (¬ (ok ∧ 0 ≤ a.toInt ∧ a.toInt ≤ 3) ∧ r = -2) ∨ (ok ∧ a.toInt = 0 ∧ r = v0) ∨ (ok ∧ a.toInt = 1 ∧ r = v1) ∨ (ok ∧ a.toInt = 2 ∧ r = v2) ∨ (ok ∧ a.toInt = 3 ∧ r.toInt = v3)
theorem CELX.same {ok ok2 : Prop} {r r2 a v0 v1 v2 w0 w1 w2 : Int32} {v3 w3 : Int} (h : CELX ok r a v0 v1 v2 v3) (h2 : CELX ok2 r2 a w0 w1 w2 w3) (e : ok ↔ ok2) (hv : ok → v0 = w0 ∧ v1 = w1 ∧ v2 = w2 ∧ v3 = w3) : r = r2 := by
  rcases h with ⟨a1, a2⟩ | ⟨a0, a1, a2⟩ | ⟨a0, a1, a2⟩ | ⟨a0, a1, a2⟩ | ⟨a0, a1, a2⟩ <;> rcases h2 with ⟨b1, b2⟩ | ⟨b0, b1, b2⟩ | ⟨b0, b1, b2⟩ | ⟨b0, b1, b2⟩ | ⟨b0, b1, b2⟩ <;> first
    | (rw [a2, b2]; done)
    | (rw [a2, b2]; first | exact (hv a0).1 | exact (hv a0).2.1 | exact (hv a0).2.2.1)
    | (exact Int32.toInt_inj.mp (by rw [a2, b2]; exact (hv a0).2.2.2))
    | (exfalso; omega)
    | (exact absurd ⟨e.mpr b0, by omega, by omega⟩ a1)
    | (exact absurd ⟨e.mp a0, by omega, by omega⟩ b1)
def live (I : MI) : Nat → Nat → Int32 := fun n j => I (1000 + n) j
theorem rk_any {v n n2 : Int32} {x w m y r : Nat} {f f2 : Nat → Int32} {c col col2 : Int32} {T : (Nat → Int32) × Int32} (H : rkA v x w m y (rkR v r (c.toInt + 1 - col.toInt).toNat col.toNatClampNeg (f, n)) = T) (h : col.toInt ≤ c.toInt) (h0 : 0 ≤ col.toInt) (e : col2.toInt = col.toInt + 1) (hf : f2 = rkC v f (24 * r + col.toNatClampNeg)) (hn : n2 = if f (24 * r + col.toNatClampNeg) = v then n else n + 1) : rkA v x w m y (rkR v r (c.toInt + 1 - col2.toInt).toNat col2.toNatClampNeg (f2, n2)) = T := by
  have t1 := tn h0
  have t2 := tn (i := col2) (by omega)
  rw [rkR_col h] at H
  rw [show (c.toInt + 1 - col2.toInt).toNat = (c.toInt - col.toInt).toNat from by omega, show col2.toNatClampNeg = col.toNatClampNeg + 1 from by omega, hf, hn]
  exact H
def bv (a : Int32) : Int32 := if a = 0 then 0 else 1
theorem i_add0 (x : Int32) : x + 0 = x := by simp
-- yards laid over cells
def YP (f g : Nat → Int32) (m a b c d : Int32) (row col : Int) : Prop := ∀ q : Nat, q < 576 → g q = if (b.toInt ≤ ((q / 24 : Nat) : Int) ∧ ((q / 24 : Nat) : Int) ≤ d.toInt ∧ a.toInt ≤ ((q % 24 : Nat) : Int) ∧ ((q % 24 : Nat) : Int) ≤ c.toInt ∧ (((q / 24 : Nat) : Int) < row ∨ (((q / 24 : Nat) : Int) = row ∧ ((q % 24 : Nat) : Int) < col))) ∧ (f q).toInt = -1 then m else f q
theorem YP.z {f : Nat → Int32} {m a b c d : Int32} : YP f f m a b c d b.toInt a.toInt := fun q hq => by rw [if_neg (by omega)]
theorem YP.step {f g g2 : Nat → Int32} {m a b c d row col : Int32} {q0 : Nat} (h : YP f g m a b c d row.toInt col.toInt) (hr : b.toInt ≤ row.toInt ∧ row.toInt ≤ d.toInt ∧ 0 ≤ row.toInt ∧ row.toInt ≤ 23) (hc : a.toInt ≤ col.toInt ∧ col.toInt ≤ c.toInt ∧ 0 ≤ col.toInt ∧ col.toInt ≤ 23) (hq : (q0 : Int) = 24 * row.toInt + col.toInt) (h2 : ∀ q, g2 q = if q = q0 ∧ (g q0).toInt = -1 then m else g q) : YP f g2 m a b c d row.toInt (col.toInt + 1) := by
  intro q hq5
  have h1 := h q hq5
  have h0 := h q0 (by omega)
  rw [if_neg (by omega)] at h0
  rw [h2 q, h0]
  by_cases e : q = q0
  · subst e
    by_cases e2 : (f q).toInt = -1
    · rw [if_pos ⟨rfl, e2⟩, if_pos ⟨by omega, e2⟩]
    · rw [if_neg (fun z => e2 z.2), if_neg (fun z => e2 z.2)]
      exact h0
  · rw [if_neg (fun z => e z.1), h1]
    by_cases e2 : (f q).toInt = -1
    · by_cases e3 : (b.toInt ≤ ((q / 24 : Nat) : Int) ∧ ((q / 24 : Nat) : Int) ≤ d.toInt ∧ a.toInt ≤ ((q % 24 : Nat) : Int) ∧ ((q % 24 : Nat) : Int) ≤ c.toInt ∧ (((q / 24 : Nat) : Int) < row.toInt ∨ (((q / 24 : Nat) : Int) = row.toInt ∧ ((q % 24 : Nat) : Int) < col.toInt)))
      · rw [if_pos ⟨e3, e2⟩, if_pos ⟨by omega, e2⟩]
      · rw [if_neg (fun z => e3 z.1), if_neg (fun z => e3 (by omega))]
    · rw [if_neg (fun z => e2 z.2), if_neg (fun z => e2 z.2)]
theorem YP.row {f g : Nat → Int32} {m a b c d : Int32} {row col : Int} (h : YP f g m a b c d row col) (hc : c.toInt < col) : YP f g m a b c d (row + 1) a.toInt := by
  intro q hq
  rw [h q hq]
  by_cases e2 : (f q).toInt = -1
  · by_cases e3 : (b.toInt ≤ ((q / 24 : Nat) : Int) ∧ ((q / 24 : Nat) : Int) ≤ d.toInt ∧ a.toInt ≤ ((q % 24 : Nat) : Int) ∧ ((q % 24 : Nat) : Int) ≤ c.toInt ∧ (((q / 24 : Nat) : Int) < row ∨ (((q / 24 : Nat) : Int) = row ∧ ((q % 24 : Nat) : Int) < col)))
    · rw [if_pos ⟨e3, e2⟩, if_pos ⟨by omega, e2⟩]
    · rw [if_neg (fun z => e3 z.1), if_neg (fun z => e3 (by omega))]
  · rw [if_neg (fun z => e2 z.2), if_neg (fun z => e2 z.2)]
def YF (f g : Nat → Int32) (m a b c d : Int32) : Prop := ∀ q : Nat, q < 576 → g q = if (b.toInt ≤ ((q / 24 : Nat) : Int) ∧ ((q / 24 : Nat) : Int) ≤ d.toInt ∧ a.toInt ≤ ((q % 24 : Nat) : Int) ∧ ((q % 24 : Nat) : Int) ≤ c.toInt) ∧ (f q).toInt = -1 then m else f q
theorem YP.fin {f g : Nat → Int32} {m a b c d : Int32} {row col : Int} (h : YP f g m a b c d row col) (hr : d.toInt < row) : YF f g m a b c d := by
  intro q hq
  rw [h q hq]
  by_cases e2 : (f q).toInt = -1
  · by_cases e3 : (b.toInt ≤ ((q / 24 : Nat) : Int) ∧ ((q / 24 : Nat) : Int) ≤ d.toInt ∧ a.toInt ≤ ((q % 24 : Nat) : Int) ∧ ((q % 24 : Nat) : Int) ≤ c.toInt)
    · rw [if_pos ⟨by omega, e2⟩, if_pos ⟨e3, e2⟩]
    · rw [if_neg (fun z => e3 (by omega)), if_neg (fun z => e3 z.1)]
  · rw [if_neg (fun z => e2 z.2), if_neg (fun z => e2 z.2)]
set_option maxHeartbeats 4000000 in
set_option maxRecDepth 20000 in
theorem V_X9_eyes_g (l : Launch) (D : va_G) (A : Nat → Prop) (ad : Nat → Nat) (ns : List Nat) (I : MI) (L : ML) (G : MG) (a0 : Int32) (a1 : Int32) (a2 : Int32) (hG : SGC ns G) (hI : INV I) : Met l yX9_eyes (wd yX9_eyes cX9_eyes 5 (some .int)) ({ frames := 1, cells := 0, slots := 0, locals := 22 }) (va_Pc [.ref (ad (0)), .int a0, .int a1, .int a2] (PM D A ad ns I L G)) (va_Qi (fun r u => ∃ I2 L2, u = (ad, ns, I2, L2, G) ∧ INV I2 ∧ Kp [(102, 103)] [] I I2 ∧ (SETA ((0 ≤ a0.toInt ∧ a0.toInt < (I 100 0).toInt ∧ 0 ≤ a1.toInt ∧ a1.toInt < (I 100 1).toInt) ∧ -1 ≤ a2.toInt ∧ a2.toInt ≤ 99999) r I I2 102 (24 * (a1).toNatClampNeg + (a0).toNatClampNeg) a2)) (BM D A) A) 0 0 A := by
  refine m_ofW (by decide) (Nat.le_of_ble_eq_true rfl) ?_
  intro p e s m below meth c ls args hC hE hM hA hS hl
  obtain ⟨hx, hb, hml, hown, hts, hr, hlocks, hin⟩ := hC
  have km2 : (-2 : Int32).toInt = -2 := by decide
  have km1 : (-1 : Int32).toInt = -1 := by decide
  have k0 : (0 : Int32).toInt = 0 := by decide
  have k99999 : (99999 : Int32).toInt = 99999 := by decide
  have hK : Kp [(102, 103)] [] I I := Kp.rf
  have hl : lv_has ls 5 [(0, .ref (ad (0))), (1, .int (a0)), (2, .int (a1)), (3, .int (a2))] := hl
  refine lv_aload_n hx hb dX9_eyes_0 rfl (lv_at hl 0 rfl) ?_
  refine m_getr (0) 0 (100) hx hb hts hown hE oc9 hM (hG.1 0 (by decide)) rfl (by decide) rfl (hG.2 (0, 0, 100) (by decide)) (by decide) tb_398 dX9_eyes_1 ?_
  refine lv_iload_n hx hb dX9_eyes_4 rfl (lv_at hl 1 rfl) ?_
  refine lv_iload_n hx hb dX9_eyes_5 rfl (lv_at hl 2 rfl) ?_
  refine m_calli (m_runV (100) (As := [.int (a0), .int (a1)]) (rest := []) hx hb hml hown hts hE hM hS hA ce_X8_hasCell tb_493 (V_X8_hasCell_100 l D A ad ns I L G (a0) (a1) hG hI) rfl rfl ⟨Nat.le_of_ble_eq_true rfl, Nat.le_of_ble_eq_true rfl⟩ (hG.1 100 (by decide)) rfl rfl (by decide) rfl hl.1 rfl (Nat.le_of_ble_eq_true rfl) dX9_eyes_6 ⟨Nat.le_of_ble_eq_true rfl, Nat.le_of_ble_eq_true rfl⟩) hS (fun r1 u H locs hw hM hS => ?_)
  obtain ⟨rfl, xr1⟩ := hw
  have hM : Mem D A ad ns I L G H := hM
  have yr1 := bo01 xr1
  have g2 := hI.get 100 0 (lo := 0) (hi := 24) rfl
  have g3 := hI.get 100 1 (lo := 0) (hi := 24) rfl
  refine lv_if_eq (tgt := 22) hx hb dX9_eyes_9 (by decide) (fun c4 => ?_) (fun c4 => ?_)
  · have hc4 := c4
    have q4 := xr1.f hc4
    refine lv_bipush (v := (-2)) hx hb dX9_eyes_22 (by decide) ?_
    exact m_iret hx hb hr hlocks hM hS (Nat.le_of_ble_eq_true rfl) (Nat.le_of_ble_eq_true rfl) ⟨_, _, rfl, hI, hK, (Or.inr ⟨by omega, rfl, rfl⟩)⟩ dX9_eyes_24
  · have hc4 := c4
    have q4 := xr1.t hc4
    refine lv_iload_n hx hb dX9_eyes_12 rfl (lv_at hl 3 rfl) ?_
    refine lv_iconst (v := (-1)) hx hb dX9_eyes_13 (by decide) ?_
    refine lv_ldc (v := (99999)) hx hb hown (hts _ tb_488) dX9_eyes_14 ?_
    refine m_calli (m_runS (As := [.int (a2), .int ((-1 : Int32)), .int (99999)]) (rest := []) hx hb hml hown hts hE hM hS hA ce_X9_isWithin tb_451 (V_X9_isWithin l D A ad ns I L G (a2) ((-1 : Int32)) (99999) hI) rfl rfl ⟨Nat.le_of_ble_eq_true rfl, Nat.le_of_ble_eq_true rfl⟩  rfl hl.1 rfl (Nat.le_of_ble_eq_true rfl) dX9_eyes_16 ⟨Nat.le_of_ble_eq_true rfl, Nat.le_of_ble_eq_true rfl⟩) hS (fun r5 u H locs hw hM hS => ?_)
    obtain ⟨rfl, xr5⟩ := hw
    have hM : Mem D A ad ns I L G H := hM
    have yr5 := bo01 xr5
    refine lv_if_ne (tgt := 25) hx hb dX9_eyes_19 (by decide) (fun c6 => ?_) (fun c6 => ?_)
    · have hc6 := c6
      have q6 := xr5.t hc6
      refine lv_aload_n hx hb dX9_eyes_25 rfl (lv_at hl 0 rfl) ?_
      refine m_getr (0) 0 (100) hx hb hts hown hE oc9 hM (hG.1 0 (by decide)) rfl (by decide) rfl (hG.2 (0, 0, 100) (by decide)) (by decide) tb_398 dX9_eyes_26 ?_
      refine m_getr (100) 11 (102) hx hb hts hown hE oc8 hM (hG.1 100 (by decide)) rfl (by decide) rfl (hG.2 (100, 11, 102) (by decide)) (by decide) tb_69 dX9_eyes_29 ?_
      refine lv_iload_n hx hb dX9_eyes_32 rfl (lv_at hl 1 rfl) ?_
      refine lv_iload_n hx hb dX9_eyes_33 rfl (lv_at hl 2 rfl) ?_
      refine m_calli (m_runS (As := [.int (a0), .int (a1)]) (rest := [.ref (ad (102))]) hx hb hml hown hts hE hM hS hA ce_X9_cellOf tb_494 (V_X9_cellOf l D A ad ns I L G (a0) (a1) hI (by first | omega | decide) (by first | omega | decide)) rfl rfl ⟨Nat.le_of_ble_eq_true rfl, Nat.le_of_ble_eq_true rfl⟩  rfl hl.1 rfl (Nat.le_of_ble_eq_true rfl) dX9_eyes_34 ⟨Nat.le_of_ble_eq_true rfl, Nat.le_of_ble_eq_true rfl⟩) hS (fun r7 u H locs hw hM hS => ?_)
      obtain ⟨rfl, xr7⟩ := hw
      have hM : Mem D A ad ns I L G H := hM
      refine m_iald (102) hx hb hE hM (hG.1 102 (by decide)) rfl (vp_in_iff.mpr (by omega)) dX9_eyes_37 ?_
      refine lv_istore (lv' := [(4, .int (I (102) (r7).toNatClampNeg)), (0, .ref (ad (0))), (1, .int (a0)), (2, .int (a1)), (3, .int (a2))]) hx hb dX9_eyes_38 hl (by decide) rfl (fun ls hl => ?_)
      refine lv_aload_n hx hb dX9_eyes_40 rfl (lv_at hl 1 rfl) ?_
      refine m_getr (0) 0 (100) hx hb hts hown hE oc9 hM (hG.1 0 (by decide)) rfl (by decide) rfl (hG.2 (0, 0, 100) (by decide)) (by decide) tb_398 dX9_eyes_41 ?_
      refine m_getr (100) 11 (102) hx hb hts hown hE oc8 hM (hG.1 100 (by decide)) rfl (by decide) rfl (hG.2 (100, 11, 102) (by decide)) (by decide) tb_69 dX9_eyes_44 ?_
      refine lv_iload_n hx hb dX9_eyes_47 rfl (lv_at hl 2 rfl) ?_
      refine lv_iload_n hx hb dX9_eyes_48 rfl (lv_at hl 3 rfl) ?_
      refine m_calli (m_runS (As := [.int (a0), .int (a1)]) (rest := [.ref (ad (102))]) hx hb hml hown hts hE hM hS hA ce_X9_cellOf tb_494 (V_X9_cellOf l D A ad ns I L G (a0) (a1) hI (by first | omega | decide) (by first | omega | decide)) rfl rfl ⟨Nat.le_of_ble_eq_true rfl, Nat.le_of_ble_eq_true rfl⟩  rfl hl.1 rfl (Nat.le_of_ble_eq_true rfl) dX9_eyes_49 ⟨Nat.le_of_ble_eq_true rfl, Nat.le_of_ble_eq_true rfl⟩) hS (fun r8 u H locs hw hM hS => ?_)
      obtain ⟨rfl, xr8⟩ := hw
      have hM : Mem D A ad ns I L G H := hM
      refine lv_iload_n hx hb dX9_eyes_52 rfl (lv_at hl 4 rfl) ?_
      refine m_iast (102) hx hb hE hM hS (hG.1 102 (by decide)) rfl (vp_in_iff.mpr (by omega)) dX9_eyes_53 (fun H locs I9 eI9 hM hS => ?_)
      subst eI9
      have hI := hI.putF (n := 102) (k := ((r8).toNatClampNeg)) (v := a2) rfl
      have hK := hK.put (n := 102) (k := ((r8).toNatClampNeg)) (v := a2) (by first | rfl | simp [inR])
      refine lv_iload hx hb dX9_eyes_54 (lv_at hl 0 rfl) ?_
      have ec10 : (r7).toNatClampNeg = 24 * (a1).toNatClampNeg + (a0).toNatClampNeg := by have z1 := tn (i := r7) (by omega); have z2 := tn (i := a0) (by omega); have z3 := tn (i := a1) (by omega); omega
      have ec11 : (r8).toNatClampNeg = 24 * (a1).toNatClampNeg + (a0).toNatClampNeg := by have z1 := tn (i := r8) (by omega); have z2 := tn (i := a0) (by omega); have z3 := tn (i := a1) (by omega); omega
      exact m_iret hx hb hr hlocks hM hS (Nat.le_of_ble_eq_true rfl) (Nat.le_of_ble_eq_true rfl) ⟨_, _, rfl, hI, hK, (Or.inl ⟨by omega, congrArg (I 102) ec10, congrArg (fun zz => u2 I 102 zz a2) ec11⟩)⟩ dX9_eyes_56
    · have hc6 := c6
      have q6 := xr5.f hc6
      refine lv_bipush (v := (-2)) hx hb dX9_eyes_22 (by decide) ?_
      exact m_iret hx hb hr hlocks hM hS (Nat.le_of_ble_eq_true rfl) (Nat.le_of_ble_eq_true rfl) ⟨_, _, rfl, hI, hK, (Or.inr ⟨by omega, rfl, rfl⟩)⟩ dX9_eyes_24
set_option maxHeartbeats 4000000 in
set_option maxRecDepth 20000 in
theorem V_X10_eyes_g (l : Launch) (D : va_G) (A : Nat → Prop) (ad : Nat → Nat) (ns : List Nat) (I : MI) (L : ML) (G : MG) (a0 : Int32) (a1 : Int32) (a2 : Int32) (hJ : SGM ns G) (hI : INV I) : Met l yX10_eyes (wd yX10_eyes cX10_eyes 5 (some .int)) ({ frames := 2, cells := 0, slots := 0, locals := 47 }) (va_Pc [.ref (ad (1000)), .int a0, .int a1, .int a2] (PM D A ad ns I L G)) (va_Qi (fun r u => ∃ I2 L2, u = (ad, ns, I2, L2, G) ∧ INV I2 ∧ Kp [(1003, 1004)] [] I I2 ∧ (SETA (((I 1001 0).toInt = 1 ∧ 0 ≤ a0.toInt ∧ a0.toInt < (I 1001 1).toInt ∧ 0 ≤ a1.toInt ∧ a1.toInt < (I 1001 2).toInt) ∧ -1 ≤ a2.toInt ∧ a2.toInt ≤ 99999) r I I2 1003 (24 * (a1).toNatClampNeg + (a0).toNatClampNeg) a2)) (BM D A) A) 0 0 A := by
  refine m_ofW (by decide) (Nat.le_of_ble_eq_true rfl) ?_
  intro p e s m below meth c ls args hC hE hM hA hS hl
  obtain ⟨hx, hb, hml, hown, hts, hr, hlocks, hin⟩ := hC
  have km2 : (-2 : Int32).toInt = -2 := by decide
  have k0 : (0 : Int32).toInt = 0 := by decide
  have k24 : (24 : Int32).toInt = 24 := by decide
  have klm1 : (-1 : Int64).toInt = -1 := by decide
  have kl99999 : (99999 : Int64).toInt = 99999 := by decide
  have hK : Kp [(1003, 1004)] [] I I := Kp.rf
  have hl : lv_has ls 5 [(0, .ref (ad (1000))), (1, .int (a0)), (2, .int (a1)), (3, .int (a2))] := hl
  refine lv_aload_n hx hb dX10_eyes_0 rfl (lv_at hl 0 rfl) ?_
  refine lv_iload_n hx hb dX10_eyes_1 rfl (lv_at hl 1 rfl) ?_
  refine lv_iload_n hx hb dX10_eyes_2 rfl (lv_at hl 2 rfl) ?_
  refine m_calli (m_runV (1000) (As := [.int (a0), .int (a1)]) (rest := []) hx hb hml hown hts hE hM hS hA ce_X10_isCell tb_1437 (V_X10_isCell l D A ad ns I L G (a0) (a1) hJ hI) rfl rfl ⟨Nat.le_of_ble_eq_true rfl, Nat.le_of_ble_eq_true rfl⟩ hJ.1 rfl rfl (by decide) rfl hl.1 rfl (Nat.le_of_ble_eq_true rfl) dX10_eyes_3 ⟨Nat.le_of_ble_eq_true rfl, Nat.le_of_ble_eq_true rfl⟩) hS (fun r1 u H locs hw hM hS => ?_)
  obtain ⟨rfl, xr1⟩ := hw
  have hM : Mem D A ad ns I L G H := hM
  have yr1 := bo01 xr1
  have g2 := hI.get 1001 1 (lo := 0) (hi := 24) rfl
  have g3 := hI.get 1001 2 (lo := 0) (hi := 24) rfl
  refine lv_if_eq (tgt := 23) hx hb dX10_eyes_6 (by decide) (fun c4 => ?_) (fun c4 => ?_)
  · have hc4 := c4
    have q4 := xr1.f hc4
    refine lv_bipush (v := (-2)) hx hb dX10_eyes_23 (by decide) ?_
    exact m_iret hx hb hr hlocks hM hS (Nat.le_of_ble_eq_true rfl) (Nat.le_of_ble_eq_true rfl) ⟨_, _, rfl, hI, hK, (Or.inr ⟨by omega, rfl, rfl⟩)⟩ dX10_eyes_25
  · have hc4 := c4
    have q4 := xr1.t hc4
    refine lv_iload_n hx hb dX10_eyes_9 rfl (lv_at hl 3 rfl) ?_
    refine lv_i2l hx hb dX10_eyes_10 rfl ?_
    refine lv_topl (fun v5 ev5 => ?_)
    have tv5 := q_i2l ev5
    refine lv_ldc2 (v := (-1)) hx hb hown (hts _ tb_1467) dX10_eyes_11 ?_
    refine lv_ldc2 (v := (99999)) hx hb hown (hts _ tb_1452) dX10_eyes_14 ?_
    refine m_calli (m_runS (As := [.long (v5), .long ((-1 : Int64)), .long ((99999 : Int64))]) (rest := []) hx hb hml hown hts hE hM hS hA ce_X10_in tb_1425 (V_X10_in l D A ad ns I L G (v5) ((-1 : Int64)) ((99999 : Int64)) hI) rfl rfl ⟨Nat.le_of_ble_eq_true rfl, Nat.le_of_ble_eq_true rfl⟩  rfl hl.1 rfl (Nat.le_of_ble_eq_true rfl) dX10_eyes_17 ⟨Nat.le_of_ble_eq_true rfl, Nat.le_of_ble_eq_true rfl⟩) hS (fun r6 u H locs hw hM hS => ?_)
    obtain ⟨rfl, xr6⟩ := hw
    have hM : Mem D A ad ns I L G H := hM
    have yr6 := bo01 xr6
    refine lv_if_ne (tgt := 26) hx hb dX10_eyes_20 (by decide) (fun c7 => ?_) (fun c7 => ?_)
    · have hc7 := c7
      have q7 := xr6.t hc7
      refine lv_aload_n hx hb dX10_eyes_26 rfl (lv_at hl 0 rfl) ?_
      refine m_getr (1000) 3 (1003) hx hb hts hown hE oc10 hM hJ.1 rfl (by decide) rfl (hJ.2 3 (by decide)).2 (by decide) tb_1180 dX10_eyes_27 ?_
      refine lv_bipush (v := (24)) hx hb dX10_eyes_30 (by decide) ?_
      refine lv_iload_n hx hb dX10_eyes_32 rfl (lv_at hl 2 rfl) ?_
      refine lv_imul hx hb dX10_eyes_33 ?_
      refine lv_topi (fun v8 ev8 => ?_)
      have tv8 := a_mulL (c := 24) ev8 (by decide) (by omega) (by omega)
      refine lv_iload_n hx hb dX10_eyes_34 rfl (lv_at hl 1 rfl) ?_
      refine lv_iadd hx hb dX10_eyes_35 ?_
      refine lv_topi (fun v9 ev9 => ?_)
      have tv9 := a_add ev9 (by omega) (by omega)
      refine m_iald (1003) hx hb hE hM (hJ.2 3 (by decide)).1 rfl (vp_in_iff.mpr (by omega)) dX10_eyes_36 ?_
      refine lv_istore (lv' := [(4, .int (I (1003) (v9).toNatClampNeg)), (0, .ref (ad (1000))), (1, .int (a0)), (2, .int (a1)), (3, .int (a2))]) hx hb dX10_eyes_37 hl (by decide) rfl (fun ls hl => ?_)
      refine lv_aload_n hx hb dX10_eyes_39 rfl (lv_at hl 1 rfl) ?_
      refine m_getr (1000) 3 (1003) hx hb hts hown hE oc10 hM hJ.1 rfl (by decide) rfl (hJ.2 3 (by decide)).2 (by decide) tb_1180 dX10_eyes_40 ?_
      refine lv_bipush (v := (24)) hx hb dX10_eyes_43 (by decide) ?_
      refine lv_iload_n hx hb dX10_eyes_45 rfl (lv_at hl 3 rfl) ?_
      refine lv_imul hx hb dX10_eyes_46 ?_
      refine lv_topi (fun v10 ev10 => ?_)
      have tv10 := a_mulL (c := 24) ev10 (by decide) (by omega) (by omega)
      refine lv_iload_n hx hb dX10_eyes_47 rfl (lv_at hl 2 rfl) ?_
      refine lv_iadd hx hb dX10_eyes_48 ?_
      refine lv_topi (fun v11 ev11 => ?_)
      have tv11 := a_add ev11 (by omega) (by omega)
      refine lv_iload_n hx hb dX10_eyes_49 rfl (lv_at hl 4 rfl) ?_
      refine m_iast (1003) hx hb hE hM hS (hJ.2 3 (by decide)).1 rfl (vp_in_iff.mpr (by omega)) dX10_eyes_50 (fun H locs I12 eI12 hM hS => ?_)
      subst eI12
      have hI := hI.putF (n := 1003) (k := ((v11).toNatClampNeg)) (v := a2) rfl
      have hK := hK.put (n := 1003) (k := ((v11).toNatClampNeg)) (v := a2) (by first | rfl | simp [inR])
      refine lv_iload hx hb dX10_eyes_51 (lv_at hl 0 rfl) ?_
      have ec13 : (v9).toNatClampNeg = 24 * (a1).toNatClampNeg + (a0).toNatClampNeg := by have z1 := tn (i := v9) (by omega); have z2 := tn (i := a0) (by omega); have z3 := tn (i := a1) (by omega); omega
      have ec14 : (v11).toNatClampNeg = 24 * (a1).toNatClampNeg + (a0).toNatClampNeg := by have z1 := tn (i := v11) (by omega); have z2 := tn (i := a0) (by omega); have z3 := tn (i := a1) (by omega); omega
      exact m_iret hx hb hr hlocks hM hS (Nat.le_of_ble_eq_true rfl) (Nat.le_of_ble_eq_true rfl) ⟨_, _, rfl, hI, hK, (Or.inl ⟨by omega, congrArg (I 1003) ec13, congrArg (fun zz => u2 I 1003 zz a2) ec14⟩)⟩ dX10_eyes_53
    · have hc7 := c7
      have q7 := xr6.f hc7
      refine lv_bipush (v := (-2)) hx hb dX10_eyes_23 (by decide) ?_
      exact m_iret hx hb hr hlocks hM hS (Nat.le_of_ble_eq_true rfl) (Nat.le_of_ble_eq_true rfl) ⟨_, _, rfl, hI, hK, (Or.inr ⟨by omega, rfl, rfl⟩)⟩ dX10_eyes_25
set_option maxHeartbeats 4000000 in
set_option maxRecDepth 20000 in
theorem V_X8_addMirror_g (l : Launch) (D : va_G) (A : Nat → Prop) (ad : Nat → Nat) (ns : List Nat) (I : MI) (L : ML) (G : MG) (a0 : Int32) (a1 : Int32) (hG : SGC ns G) (hI : INV I) (hc : (I 100 8).toInt < 24) (ha0 : 0 ≤ a0.toInt ∧ a0.toInt ≤ 23) (ha1 : 0 ≤ a1.toInt ∧ a1.toInt ≤ 23) : Met l yX8_addMirror (wd yX8_addMirror cX8_addMirror 4 (some .int)) ({ frames := 1, cells := 0, slots := 0, locals := 23 }) (va_Pc [.ref (ad (100)), .int a0, .int a1] (PM D A ad ns I L G)) (va_Qi (fun r u => ∃ I2 L2, u = (ad, ns, I2, L2, G) ∧ INV I2 ∧ Kp [(103, 104), (107, 108)] [(100, 8)] I I2 ∧ (r = I 100 8 ∧ (I2 100 8).toInt = (I 100 8).toInt + 1 ∧ I2 103 = u2 I 103 (24 * (a1).toNatClampNeg + (a0).toNatClampNeg) (I 100 8) 103)) (BM D A) A) 0 0 A := by
  refine m_ofW (by decide) (Nat.le_of_ble_eq_true rfl) ?_
  intro p e s m below meth c ls args hC hE hM hA hS hl
  obtain ⟨hx, hb, hml, hown, hts, hr, hlocks, hin⟩ := hC
  have km1 : (-1 : Int32).toInt = -1 := by decide
  have k0 : (0 : Int32).toInt = 0 := by decide
  have k1 : (1 : Int32).toInt = 1 := by decide
  have k7 : (7 : Int32).toInt = 7 := by decide
  have k8 : (8 : Int32).toInt = 8 := by decide
  have k9 : (9 : Int32).toInt = 9 := by decide
  have hK : Kp [(103, 104), (107, 108)] [(100, 8)] I I := Kp.rf
  have hl : lv_has ls 4 [(0, .ref (ad (100))), (1, .int (a0)), (2, .int (a1))] := hl
  refine lv_aload_n hx hb dX8_addMirror_0 rfl (lv_at hl 0 rfl) ?_
  refine m_geti (100) 8 hx hb hts hown hE oc8 hM (hG.1 100 (by decide)) rfl (by decide) rfl tb_59 dX8_addMirror_1 ?_
  have g1 := hI.get (100) 8 (lo := 0) (hi := 24) rfl
  refine lv_istore_n (lv' := [(3, .int (I (100) 8)), (0, .ref (ad (100))), (1, .int (a0)), (2, .int (a1))]) hx hb dX8_addMirror_4 rfl hl (by decide) rfl (fun ls hl => ?_)
  refine lv_aload_n hx hb dX8_addMirror_5 rfl (lv_at hl 1 rfl) ?_
  refine lv_dup hx hb dX8_addMirror_6 rfl ?_
  refine m_geti (100) 8 hx hb hts hown hE oc8 hM (hG.1 100 (by decide)) rfl (by decide) rfl tb_59 dX8_addMirror_7 ?_
  refine lv_iconst (v := (1)) hx hb dX8_addMirror_10 (by decide) ?_
  refine lv_iadd hx hb dX8_addMirror_11 ?_
  refine lv_topi (fun v2 ev2 => ?_)
  have tv2 := a_add ev2 (by omega) (by omega)
  refine m_puti (100) 8 hx hb hts hown hE oc8 hM hS (hG.1 100 (by decide)) rfl (by decide) rfl rfl rfl rfl tb_59 dX8_addMirror_12 (fun H locs I3 eI3 hM hS => ?_)
  subst eI3
  have hI := hI.put (n := 100) (k := 8) (v := v2) (lo := 0) (hi := 24) rfl (by first | omega | decide)
  have hK := hK.put (n := 100) (k := 8) (v := v2) (by first | rfl | simp [inR])
  refine lv_aload_n hx hb dX8_addMirror_15 rfl (lv_at hl 1 rfl) ?_
  refine m_getr (100) 12 (103) hx hb hts hown hE oc8 hM (hG.1 100 (by decide)) rfl (by decide) rfl (hG.2 (100, 12, 103) (by decide)) (by decide) tb_71 dX8_addMirror_16 ?_
  refine lv_iload_n hx hb dX8_addMirror_19 rfl (lv_at hl 2 rfl) ?_
  refine lv_iload_n hx hb dX8_addMirror_20 rfl (lv_at hl 3 rfl) ?_
  refine m_calli (m_runSN (As := [.int (a0), .int (a1)]) (rest := [.ref (ad (103))]) hx hb hml hown hts hE hM hS hA ce_X9_cellOf (List.mem_of_getElem? (i := 5) rfl) (V_X9_cellOf l D A ad ns (u2 I (100) 8 (v2)) L G (a0) (a1) hI (by first | omega | decide) (by first | omega | decide)) rfl rfl ⟨Nat.le_of_ble_eq_true rfl, Nat.le_of_ble_eq_true rfl⟩  rfl hl.1 rfl (Nat.le_of_ble_eq_true rfl) dX8_addMirror_21 ⟨Nat.le_of_ble_eq_true rfl, Nat.le_of_ble_eq_true rfl⟩) hS (fun r4 u H locs hw hM hS => ?_)
  obtain ⟨rfl, xr4⟩ := hw
  have hM : Mem D A ad ns (u2 I (100) 8 (v2)) L G H := hM
  refine lv_iload_n hx hb dX8_addMirror_24 rfl (lv_at hl 0 rfl) ?_
  refine m_iast (103) hx hb hE hM hS (hG.1 103 (by decide)) rfl (vp_in_iff.mpr (by omega)) dX8_addMirror_25 (fun H locs I5 eI5 hM hS => ?_)
  subst eI5
  have hI := hI.put (n := 103) (k := ((r4).toNatClampNeg)) (v := I (100) 8) (lo := -1) (hi := 23) rfl (by first | omega | decide)
  have hK := hK.put (n := 103) (k := ((r4).toNatClampNeg)) (v := I (100) 8) (by first | rfl | simp [inR])
  refine lv_aload_n hx hb dX8_addMirror_26 rfl (lv_at hl 1 rfl) ?_
  refine lv_iload_n hx hb dX8_addMirror_27 rfl (lv_at hl 0 rfl) ?_
  refine lv_iconst (v := (0)) hx hb dX8_addMirror_28 (by decide) ?_
  refine lv_iload_n hx hb dX8_addMirror_29 rfl (lv_at hl 2 rfl) ?_
  refine m_callv (m_runV (100) (As := [.int (I (100) 8), .int (0), .int (a0)]) (rest := []) hx hb hml hown hts hE hM hS hA ce_X8_setMirror tb_499 (V_X8_setMirror_100 l D A ad ns (u2 (u2 I (100) 8 (v2)) (103) ((r4).toNatClampNeg) (I (100) 8)) L G (I (100) 8) (0) (a0) hG hI (by first | omega | decide) (by first | omega | decide)) rfl rfl ⟨Nat.le_of_ble_eq_true rfl, Nat.le_of_ble_eq_true rfl⟩ (hG.1 100 (by decide)) rfl rfl (by decide) rfl hl.1 rfl (Nat.le_of_ble_eq_true rfl) dX8_addMirror_30 ⟨Nat.le_of_ble_eq_true rfl, Nat.le_of_ble_eq_true rfl⟩) hS (fun u H locs hw hM hS => ?_)
  obtain ⟨I6, L7, rfl, hI, hkI6⟩ := hw
  have hM : Mem D A ad ns I6 L7 G H := hM
  have hK := hK.trans hkI6 rfl
  refine lv_aload_n hx hb dX8_addMirror_33 rfl (lv_at hl 1 rfl) ?_
  refine lv_iload_n hx hb dX8_addMirror_34 rfl (lv_at hl 0 rfl) ?_
  refine lv_iconst (v := (1)) hx hb dX8_addMirror_35 (by decide) ?_
  refine lv_iload_n hx hb dX8_addMirror_36 rfl (lv_at hl 3 rfl) ?_
  refine m_callv (m_runV (100) (As := [.int (I (100) 8), .int (1), .int (a1)]) (rest := []) hx hb hml hown hts hE hM hS hA ce_X8_setMirror tb_499 (V_X8_setMirror_100 l D A ad ns I6 L7 G (I (100) 8) (1) (a1) hG hI (by first | omega | decide) (by first | omega | decide)) rfl rfl ⟨Nat.le_of_ble_eq_true rfl, Nat.le_of_ble_eq_true rfl⟩ (hG.1 100 (by decide)) rfl rfl (by decide) rfl hl.1 rfl (Nat.le_of_ble_eq_true rfl) dX8_addMirror_37 ⟨Nat.le_of_ble_eq_true rfl, Nat.le_of_ble_eq_true rfl⟩) hS (fun u H locs hw hM hS => ?_)
  obtain ⟨I8, L9, rfl, hI, hkI8⟩ := hw
  have hM : Mem D A ad ns I8 L9 G H := hM
  have hK := hK.trans hkI8 rfl
  refine lv_aload_n hx hb dX8_addMirror_40 rfl (lv_at hl 1 rfl) ?_
  refine lv_iload_n hx hb dX8_addMirror_41 rfl (lv_at hl 0 rfl) ?_
  refine lv_bipush (v := (7)) hx hb dX8_addMirror_42 (by decide) ?_
  refine lv_iconst (v := (0)) hx hb dX8_addMirror_44 (by decide) ?_
  refine m_callv (m_runV (100) (As := [.int (I (100) 8), .int (7), .int (0)]) (rest := []) hx hb hml hown hts hE hM hS hA ce_X8_setMirror tb_499 (V_X8_setMirror_100 l D A ad ns I8 L9 G (I (100) 8) (7) (0) hG hI (by first | omega | decide) (by first | omega | decide)) rfl rfl ⟨Nat.le_of_ble_eq_true rfl, Nat.le_of_ble_eq_true rfl⟩ (hG.1 100 (by decide)) rfl rfl (by decide) rfl hl.1 rfl (Nat.le_of_ble_eq_true rfl) dX8_addMirror_45 ⟨Nat.le_of_ble_eq_true rfl, Nat.le_of_ble_eq_true rfl⟩) hS (fun u H locs hw hM hS => ?_)
  obtain ⟨I10, L11, rfl, hI, hkI10⟩ := hw
  have hM : Mem D A ad ns I10 L11 G H := hM
  have hK := hK.trans hkI10 rfl
  refine lv_aload_n hx hb dX8_addMirror_48 rfl (lv_at hl 1 rfl) ?_
  refine lv_iload_n hx hb dX8_addMirror_49 rfl (lv_at hl 0 rfl) ?_
  refine lv_bipush (v := (8)) hx hb dX8_addMirror_50 (by decide) ?_
  refine lv_iconst (v := (0)) hx hb dX8_addMirror_52 (by decide) ?_
  refine m_callv (m_runV (100) (As := [.int (I (100) 8), .int (8), .int (0)]) (rest := []) hx hb hml hown hts hE hM hS hA ce_X8_setMirror tb_499 (V_X8_setMirror_100 l D A ad ns I10 L11 G (I (100) 8) (8) (0) hG hI (by first | omega | decide) (by first | omega | decide)) rfl rfl ⟨Nat.le_of_ble_eq_true rfl, Nat.le_of_ble_eq_true rfl⟩ (hG.1 100 (by decide)) rfl rfl (by decide) rfl hl.1 rfl (Nat.le_of_ble_eq_true rfl) dX8_addMirror_53 ⟨Nat.le_of_ble_eq_true rfl, Nat.le_of_ble_eq_true rfl⟩) hS (fun u H locs hw hM hS => ?_)
  obtain ⟨I12, L13, rfl, hI, hkI12⟩ := hw
  have hM : Mem D A ad ns I12 L13 G H := hM
  have hK := hK.trans hkI12 rfl
  refine lv_aload_n hx hb dX8_addMirror_56 rfl (lv_at hl 1 rfl) ?_
  refine lv_iload_n hx hb dX8_addMirror_57 rfl (lv_at hl 0 rfl) ?_
  refine lv_bipush (v := (9)) hx hb dX8_addMirror_58 (by decide) ?_
  refine lv_iconst (v := (-1)) hx hb dX8_addMirror_60 (by decide) ?_
  refine m_callv (m_runV (100) (As := [.int (I (100) 8), .int (9), .int ((-1 : Int32))]) (rest := []) hx hb hml hown hts hE hM hS hA ce_X8_setMirror tb_499 (V_X8_setMirror_100 l D A ad ns I12 L13 G (I (100) 8) (9) ((-1 : Int32)) hG hI (by first | omega | decide) (by first | omega | decide)) rfl rfl ⟨Nat.le_of_ble_eq_true rfl, Nat.le_of_ble_eq_true rfl⟩ (hG.1 100 (by decide)) rfl rfl (by decide) rfl hl.1 rfl (Nat.le_of_ble_eq_true rfl) dX8_addMirror_61 ⟨Nat.le_of_ble_eq_true rfl, Nat.le_of_ble_eq_true rfl⟩) hS (fun u H locs hw hM hS => ?_)
  obtain ⟨I14, L15, rfl, hI, hkI14⟩ := hw
  have hM : Mem D A ad ns I14 L15 G H := hM
  have hK := hK.trans hkI14 rfl
  refine lv_iload_n hx hb dX8_addMirror_64 rfl (lv_at hl 0 rfl) ?_
  have ec16 : (r4).toNatClampNeg = 24 * (a1).toNatClampNeg + (a0).toNatClampNeg := by have z1 := tn (i := r4) (by omega); have z2 := tn (i := a0) (by omega); have z3 := tn (i := a1) (by omega); omega
  have tz8 : (I14 100 8).toInt = _ := congrArg Int32.toInt (((((((hkI14.get (100) 8 rfl)).trans (hkI12.get (100) 8 rfl)).trans (hkI10.get (100) 8 rfl)).trans (hkI8.get (100) 8 rfl)).trans (hkI6.get (100) 8 rfl)).trans (show (u2 (u2 I (100) 8 (v2)) (103) ((r4).toNatClampNeg) (I (100) 8)) (100) 8 = v2 from by simp [u2_v]))
  have hb3 : I14 103 = u2 I 103 (24 * (a1).toNatClampNeg + (a0).toNatClampNeg) (I 100 8) 103 := ((((((hkI14.getA 103 rfl)).trans (hkI12.getA 103 rfl)).trans (hkI10.getA 103 rfl)).trans (hkI8.getA 103 rfl)).trans (hkI6.getA 103 rfl)).trans (by rw [← ec16]; funext zz; simp [u2_v])
  exact m_iret hx hb hr hlocks hM hS (Nat.le_of_ble_eq_true rfl) (Nat.le_of_ble_eq_true rfl) ⟨_, _, rfl, hI, hK, ⟨rfl, by omega, hb3⟩⟩ dX8_addMirror_65
set_option maxHeartbeats 4000000 in
set_option maxRecDepth 20000 in
theorem V_X9_mirror_g (l : Launch) (D : va_G) (A : Nat → Prop) (ad : Nat → Nat) (ns : List Nat) (I : MI) (L : ML) (G : MG) (a0 : Int32) (a1 : Int32) (a2 : Int32) (a3 : Int32) (a4 : Int32) (a5 : Int32) (a6 : Int32) (hG : SGC ns G) (hI : INV I) : Met l yX9_mirror (wd yX9_mirror cX9_mirror 9 (some .int)) ({ frames := 2, cells := 0, slots := 0, locals := 46 }) (va_Pc [.ref (ad (0)), .int a0, .int a1, .int a2, .int a3, .int a4, .int a5, .int a6] (PM D A ad ns I L G)) (va_Qi (fun r u => ∃ I2 L2, u = (ad, ns, I2, L2, G) ∧ INV I2 ∧ Kp [(103, 104), (107, 108)] [(100, 8)] I I2 ∧ (ADDM ((0 ≤ a0.toInt ∧ a0.toInt < (I 100 0).toInt ∧ 0 ≤ a1.toInt ∧ a1.toInt < (I 100 1).toInt) ∧ (I 103 (24 * (a1).toNatClampNeg + (a0).toNatClampNeg)).toInt = -1 ∧ (I 100 8).toInt < 24 ∧ (0 ≤ a2.toInt ∧ a2.toInt ≤ 7) ∧ (0 ≤ a3.toInt ∧ a3.toInt ≤ 1000) ∧ (0 ≤ a4.toInt ∧ a4.toInt ≤ 1000) ∧ (0 ≤ a5.toInt ∧ a5.toInt ≤ 4) ∧ 0 ≤ a6.toInt ∧ a6.toInt ≤ 9) r I I2 100 8 103 (24 * (a1).toNatClampNeg + (a0).toNatClampNeg))) (BM D A) A) 0 0 A := by
  refine m_ofW (by decide) (Nat.le_of_ble_eq_true rfl) ?_
  intro p e s m below meth c ls args hC hE hM hA hS hl
  obtain ⟨hx, hb, hml, hown, hts, hr, hlocks, hin⟩ := hC
  have km1 : (-1 : Int32).toInt = -1 := by decide
  have k0 : (0 : Int32).toInt = 0 := by decide
  have k2 : (2 : Int32).toInt = 2 := by decide
  have k3 : (3 : Int32).toInt = 3 := by decide
  have k4 : (4 : Int32).toInt = 4 := by decide
  have k5 : (5 : Int32).toInt = 5 := by decide
  have k6 : (6 : Int32).toInt = 6 := by decide
  have k7 : (7 : Int32).toInt = 7 := by decide
  have k9 : (9 : Int32).toInt = 9 := by decide
  have k24 : (24 : Int32).toInt = 24 := by decide
  have k1000 : (1000 : Int32).toInt = 1000 := by decide
  have hK : Kp [(103, 104), (107, 108)] [(100, 8)] I I := Kp.rf
  have hl : lv_has ls 9 [(0, .ref (ad (0))), (1, .int (a0)), (2, .int (a1)), (3, .int (a2)), (4, .int (a3)), (5, .int (a4)), (6, .int (a5)), (7, .int (a6))] := hl
  refine lv_aload_n hx hb dX9_mirror_0 rfl (lv_at hl 0 rfl) ?_
  refine m_getr (0) 0 (100) hx hb hts hown hE oc9 hM (hG.1 0 (by decide)) rfl (by decide) rfl (hG.2 (0, 0, 100) (by decide)) (by decide) tb_398 dX9_mirror_1 ?_
  refine lv_iload_n hx hb dX9_mirror_4 rfl (lv_at hl 1 rfl) ?_
  refine lv_iload_n hx hb dX9_mirror_5 rfl (lv_at hl 2 rfl) ?_
  refine m_calli (m_runV (100) (As := [.int (a0), .int (a1)]) (rest := []) hx hb hml hown hts hE hM hS hA ce_X8_hasCell tb_493 (V_X8_hasCell_100 l D A ad ns I L G (a0) (a1) hG hI) rfl rfl ⟨Nat.le_of_ble_eq_true rfl, Nat.le_of_ble_eq_true rfl⟩ (hG.1 100 (by decide)) rfl rfl (by decide) rfl hl.1 rfl (Nat.le_of_ble_eq_true rfl) dX9_mirror_6 ⟨Nat.le_of_ble_eq_true rfl, Nat.le_of_ble_eq_true rfl⟩) hS (fun r1 u H locs hw hM hS => ?_)
  obtain ⟨rfl, xr1⟩ := hw
  have hM : Mem D A ad ns I L G H := hM
  have yr1 := bo01 xr1
  have g2 := hI.get 100 0 (lo := 0) (hi := 24) rfl
  have g3 := hI.get 100 1 (lo := 0) (hi := 24) rfl
  refine lv_if_eq (tgt := 41) hx hb dX9_mirror_9 (by decide) (fun c4 => ?_) (fun c4 => ?_)
  · have hc4 := c4
    have q4 := xr1.f hc4
    refine lv_iconst (v := (-1)) hx hb dX9_mirror_41 (by decide) ?_
    exact m_iret hx hb hr hlocks hM hS (Nat.le_of_ble_eq_true rfl) (Nat.le_of_ble_eq_true rfl) ⟨_, _, rfl, hI, hK, (Or.inr ⟨by omega, rfl, rfl⟩)⟩ dX9_mirror_42
  · have hc4 := c4
    have q4 := xr1.t hc4
    refine lv_aload_n hx hb dX9_mirror_12 rfl (lv_at hl 0 rfl) ?_
    refine m_getr (0) 0 (100) hx hb hts hown hE oc9 hM (hG.1 0 (by decide)) rfl (by decide) rfl (hG.2 (0, 0, 100) (by decide)) (by decide) tb_398 dX9_mirror_13 ?_
    refine m_getr (100) 12 (103) hx hb hts hown hE oc8 hM (hG.1 100 (by decide)) rfl (by decide) rfl (hG.2 (100, 12, 103) (by decide)) (by decide) tb_73 dX9_mirror_16 ?_
    refine lv_iload_n hx hb dX9_mirror_19 rfl (lv_at hl 1 rfl) ?_
    refine lv_iload_n hx hb dX9_mirror_20 rfl (lv_at hl 2 rfl) ?_
    refine m_calli (m_runS (As := [.int (a0), .int (a1)]) (rest := [.ref (ad (103))]) hx hb hml hown hts hE hM hS hA ce_X9_cellOf tb_494 (V_X9_cellOf l D A ad ns I L G (a0) (a1) hI (by first | omega | decide) (by first | omega | decide)) rfl rfl ⟨Nat.le_of_ble_eq_true rfl, Nat.le_of_ble_eq_true rfl⟩  rfl hl.1 rfl (Nat.le_of_ble_eq_true rfl) dX9_mirror_21 ⟨Nat.le_of_ble_eq_true rfl, Nat.le_of_ble_eq_true rfl⟩) hS (fun r5 u H locs hw hM hS => ?_)
    obtain ⟨rfl, xr5⟩ := hw
    have hM : Mem D A ad ns I L G H := hM
    refine m_iald (103) hx hb hE hM (hG.1 103 (by decide)) rfl (vp_in_iff.mpr (by omega)) dX9_mirror_24 ?_
    have g6 := hI.get (103) ((r5).toNatClampNeg) (lo := -1) (hi := 23) rfl
    have ec7 : (r5).toNatClampNeg = 24 * (a1).toNatClampNeg + (a0).toNatClampNeg := by have z1 := tn (i := r5) (by omega); have z2 := tn (i := a0) (by omega); have z3 := tn (i := a1) (by omega); omega
    have hat : (I (103) (r5).toNatClampNeg).toInt = (I 103 (24 * (a1).toNatClampNeg + (a0).toNatClampNeg)).toInt := by rw [ec7]
    refine lv_iconst (v := (-1)) hx hb dX9_mirror_25 (by decide) ?_
    refine lv_icmp_ne (tgt := 41) hx hb dX9_mirror_26 (by decide) (fun c8 => ?_) (fun c8 => ?_)
    · have hc8 := c8
      have q8 := q_ne hc8
      refine lv_iconst (v := (-1)) hx hb dX9_mirror_41 (by decide) ?_
      exact m_iret hx hb hr hlocks hM hS (Nat.le_of_ble_eq_true rfl) (Nat.le_of_ble_eq_true rfl) ⟨_, _, rfl, hI, hK, (Or.inr ⟨by omega, rfl, rfl⟩)⟩ dX9_mirror_42
    · have hc8 := c8
      have q8 := q_eq hc8
      refine lv_aload_n hx hb dX9_mirror_29 rfl (lv_at hl 0 rfl) ?_
      refine m_getr (0) 0 (100) hx hb hts hown hE oc9 hM (hG.1 0 (by decide)) rfl (by decide) rfl (hG.2 (0, 0, 100) (by decide)) (by decide) tb_398 dX9_mirror_30 ?_
      refine m_geti (100) 8 hx hb hts hown hE oc8 hM (hG.1 100 (by decide)) rfl (by decide) rfl tb_62 dX9_mirror_33 ?_
      have g9 := hI.get (100) 8 (lo := 0) (hi := 24) rfl
      refine lv_bipush (v := (24)) hx hb dX9_mirror_36 (by decide) ?_
      refine lv_icmp_lt (tgt := 43) hx hb dX9_mirror_38 (by decide) (fun c10 => ?_) (fun c10 => ?_)
      · have hc10 := c10
        have q10 := q_lt hc10
        refine lv_iload_n hx hb dX9_mirror_43 rfl (lv_at hl 3 rfl) ?_
        refine lv_iconst (v := (0)) hx hb dX9_mirror_44 (by decide) ?_
        refine lv_bipush (v := (7)) hx hb dX9_mirror_45 (by decide) ?_
        refine m_calli (m_runS (As := [.int (a2), .int (0), .int (7)]) (rest := []) hx hb hml hown hts hE hM hS hA ce_X9_isWithin tb_451 (V_X9_isWithin l D A ad ns I L G (a2) (0) (7) hI) rfl rfl ⟨Nat.le_of_ble_eq_true rfl, Nat.le_of_ble_eq_true rfl⟩  rfl hl.1 rfl (Nat.le_of_ble_eq_true rfl) dX9_mirror_47 ⟨Nat.le_of_ble_eq_true rfl, Nat.le_of_ble_eq_true rfl⟩) hS (fun r11 u H locs hw hM hS => ?_)
        obtain ⟨rfl, xr11⟩ := hw
        have hM : Mem D A ad ns I L G H := hM
        have yr11 := bo01 xr11
        refine lv_if_eq (tgt := 98) hx hb dX9_mirror_50 (by decide) (fun c12 => ?_) (fun c12 => ?_)
        · have hc12 := c12
          have q12 := xr11.f hc12
          refine lv_iconst (v := (-1)) hx hb dX9_mirror_98 (by decide) ?_
          exact m_iret hx hb hr hlocks hM hS (Nat.le_of_ble_eq_true rfl) (Nat.le_of_ble_eq_true rfl) ⟨_, _, rfl, hI, hK, (Or.inr ⟨by omega, rfl, rfl⟩)⟩ dX9_mirror_99
        · have hc12 := c12
          have q12 := xr11.t hc12
          refine lv_iload hx hb dX9_mirror_53 (lv_at hl 4 rfl) ?_
          refine lv_iconst (v := (0)) hx hb dX9_mirror_55 (by decide) ?_
          refine lv_sipush (v := (1000)) hx hb dX9_mirror_56 (by decide) ?_
          refine m_calli (m_runS (As := [.int (a3), .int (0), .int (1000)]) (rest := []) hx hb hml hown hts hE hM hS hA ce_X9_isWithin tb_451 (V_X9_isWithin l D A ad ns I L G (a3) (0) (1000) hI) rfl rfl ⟨Nat.le_of_ble_eq_true rfl, Nat.le_of_ble_eq_true rfl⟩  rfl hl.1 rfl (Nat.le_of_ble_eq_true rfl) dX9_mirror_59 ⟨Nat.le_of_ble_eq_true rfl, Nat.le_of_ble_eq_true rfl⟩) hS (fun r13 u H locs hw hM hS => ?_)
          obtain ⟨rfl, xr13⟩ := hw
          have hM : Mem D A ad ns I L G H := hM
          have yr13 := bo01 xr13
          refine lv_if_eq (tgt := 98) hx hb dX9_mirror_62 (by decide) (fun c14 => ?_) (fun c14 => ?_)
          · have hc14 := c14
            have q14 := xr13.f hc14
            refine lv_iconst (v := (-1)) hx hb dX9_mirror_98 (by decide) ?_
            exact m_iret hx hb hr hlocks hM hS (Nat.le_of_ble_eq_true rfl) (Nat.le_of_ble_eq_true rfl) ⟨_, _, rfl, hI, hK, (Or.inr ⟨by omega, rfl, rfl⟩)⟩ dX9_mirror_99
          · have hc14 := c14
            have q14 := xr13.t hc14
            refine lv_iload hx hb dX9_mirror_65 (lv_at hl 5 rfl) ?_
            refine lv_iconst (v := (0)) hx hb dX9_mirror_67 (by decide) ?_
            refine lv_sipush (v := (1000)) hx hb dX9_mirror_68 (by decide) ?_
            refine m_calli (m_runS (As := [.int (a4), .int (0), .int (1000)]) (rest := []) hx hb hml hown hts hE hM hS hA ce_X9_isWithin tb_451 (V_X9_isWithin l D A ad ns I L G (a4) (0) (1000) hI) rfl rfl ⟨Nat.le_of_ble_eq_true rfl, Nat.le_of_ble_eq_true rfl⟩  rfl hl.1 rfl (Nat.le_of_ble_eq_true rfl) dX9_mirror_71 ⟨Nat.le_of_ble_eq_true rfl, Nat.le_of_ble_eq_true rfl⟩) hS (fun r15 u H locs hw hM hS => ?_)
            obtain ⟨rfl, xr15⟩ := hw
            have hM : Mem D A ad ns I L G H := hM
            have yr15 := bo01 xr15
            refine lv_if_eq (tgt := 98) hx hb dX9_mirror_74 (by decide) (fun c16 => ?_) (fun c16 => ?_)
            · have hc16 := c16
              have q16 := xr15.f hc16
              refine lv_iconst (v := (-1)) hx hb dX9_mirror_98 (by decide) ?_
              exact m_iret hx hb hr hlocks hM hS (Nat.le_of_ble_eq_true rfl) (Nat.le_of_ble_eq_true rfl) ⟨_, _, rfl, hI, hK, (Or.inr ⟨by omega, rfl, rfl⟩)⟩ dX9_mirror_99
            · have hc16 := c16
              have q16 := xr15.t hc16
              refine lv_iload hx hb dX9_mirror_77 (lv_at hl 6 rfl) ?_
              refine lv_iconst (v := (0)) hx hb dX9_mirror_79 (by decide) ?_
              refine lv_iconst (v := (4)) hx hb dX9_mirror_80 (by decide) ?_
              refine m_calli (m_runS (As := [.int (a5), .int (0), .int (4)]) (rest := []) hx hb hml hown hts hE hM hS hA ce_X9_isWithin tb_451 (V_X9_isWithin l D A ad ns I L G (a5) (0) (4) hI) rfl rfl ⟨Nat.le_of_ble_eq_true rfl, Nat.le_of_ble_eq_true rfl⟩  rfl hl.1 rfl (Nat.le_of_ble_eq_true rfl) dX9_mirror_81 ⟨Nat.le_of_ble_eq_true rfl, Nat.le_of_ble_eq_true rfl⟩) hS (fun r17 u H locs hw hM hS => ?_)
              obtain ⟨rfl, xr17⟩ := hw
              have hM : Mem D A ad ns I L G H := hM
              have yr17 := bo01 xr17
              refine lv_if_eq (tgt := 98) hx hb dX9_mirror_84 (by decide) (fun c18 => ?_) (fun c18 => ?_)
              · have hc18 := c18
                have q18 := xr17.f hc18
                refine lv_iconst (v := (-1)) hx hb dX9_mirror_98 (by decide) ?_
                exact m_iret hx hb hr hlocks hM hS (Nat.le_of_ble_eq_true rfl) (Nat.le_of_ble_eq_true rfl) ⟨_, _, rfl, hI, hK, (Or.inr ⟨by omega, rfl, rfl⟩)⟩ dX9_mirror_99
              · have hc18 := c18
                have q18 := xr17.t hc18
                refine lv_iload hx hb dX9_mirror_87 (lv_at hl 7 rfl) ?_
                refine lv_iconst (v := (0)) hx hb dX9_mirror_89 (by decide) ?_
                refine lv_bipush (v := (9)) hx hb dX9_mirror_90 (by decide) ?_
                refine m_calli (m_runS (As := [.int (a6), .int (0), .int (9)]) (rest := []) hx hb hml hown hts hE hM hS hA ce_X9_isWithin tb_451 (V_X9_isWithin l D A ad ns I L G (a6) (0) (9) hI) rfl rfl ⟨Nat.le_of_ble_eq_true rfl, Nat.le_of_ble_eq_true rfl⟩  rfl hl.1 rfl (Nat.le_of_ble_eq_true rfl) dX9_mirror_92 ⟨Nat.le_of_ble_eq_true rfl, Nat.le_of_ble_eq_true rfl⟩) hS (fun r19 u H locs hw hM hS => ?_)
                obtain ⟨rfl, xr19⟩ := hw
                have hM : Mem D A ad ns I L G H := hM
                have yr19 := bo01 xr19
                refine lv_if_ne (tgt := 100) hx hb dX9_mirror_95 (by decide) (fun c20 => ?_) (fun c20 => ?_)
                · have hc20 := c20
                  have q20 := xr19.t hc20
                  refine lv_aload_n hx hb dX9_mirror_100 rfl (lv_at hl 0 rfl) ?_
                  refine m_getr (0) 0 (100) hx hb hts hown hE oc9 hM (hG.1 0 (by decide)) rfl (by decide) rfl (hG.2 (0, 0, 100) (by decide)) (by decide) tb_398 dX9_mirror_101 ?_
                  refine lv_iload_n hx hb dX9_mirror_104 rfl (lv_at hl 1 rfl) ?_
                  refine lv_iload_n hx hb dX9_mirror_105 rfl (lv_at hl 2 rfl) ?_
                  refine m_calli (m_runV (100) (As := [.int (a0), .int (a1)]) (rest := []) hx hb hml hown hts hE hM hS hA ce_X8_addMirror tb_495 (V_X8_addMirror_g l D A ad ns I L G (a0) (a1) hG hI (by first | omega | decide) (by first | omega | decide) (by first | omega | decide)) rfl rfl ⟨Nat.le_of_ble_eq_true rfl, Nat.le_of_ble_eq_true rfl⟩ (hG.1 100 (by decide)) rfl rfl (by decide) rfl hl.1 rfl (Nat.le_of_ble_eq_true rfl) dX9_mirror_106 ⟨Nat.le_of_ble_eq_true rfl, Nat.le_of_ble_eq_true rfl⟩) hS (fun r21 u H locs hw hM hS => ?_)
                  obtain ⟨I22, L23, rfl, hI, hkI22, xr21⟩ := hw
                  have hM : Mem D A ad ns I22 L23 G H := hM
                  have hK := hK.trans hkI22 rfl
                  have rrr21 := congrArg Int32.toInt xr21.1
                  refine lv_istore (lv' := [(8, .int (r21)), (0, .ref (ad (0))), (1, .int (a0)), (2, .int (a1)), (3, .int (a2)), (4, .int (a3)), (5, .int (a4)), (6, .int (a5)), (7, .int (a6))]) hx hb dX9_mirror_109 hl (by decide) rfl (fun ls hl => ?_)
                  refine lv_aload_n hx hb dX9_mirror_111 rfl (lv_at hl 1 rfl) ?_
                  refine m_getr (0) 0 (100) hx hb hts hown hE oc9 hM (hG.1 0 (by decide)) rfl (by decide) rfl (hG.2 (0, 0, 100) (by decide)) (by decide) tb_398 dX9_mirror_112 ?_
                  refine lv_iload hx hb dX9_mirror_115 (lv_at hl 0 rfl) ?_
                  refine lv_iconst (v := (2)) hx hb dX9_mirror_117 (by decide) ?_
                  refine lv_iload_n hx hb dX9_mirror_118 rfl (lv_at hl 4 rfl) ?_
                  refine m_callv (m_runV (100) (As := [.int (r21), .int (2), .int (a2)]) (rest := []) hx hb hml hown hts hE hM hS hA ce_X8_setMirror tb_503 (V_X8_setMirror_100 l D A ad ns I22 L23 G (r21) (2) (a2) hG hI (by first | omega | decide) (by first | omega | decide)) rfl rfl ⟨Nat.le_of_ble_eq_true rfl, Nat.le_of_ble_eq_true rfl⟩ (hG.1 100 (by decide)) rfl rfl (by decide) rfl hl.1 rfl (Nat.le_of_ble_eq_true rfl) dX9_mirror_119 ⟨Nat.le_of_ble_eq_true rfl, Nat.le_of_ble_eq_true rfl⟩) hS (fun u H locs hw hM hS => ?_)
                  obtain ⟨I24, L25, rfl, hI, hkI24⟩ := hw
                  have hM : Mem D A ad ns I24 L25 G H := hM
                  have hK := hK.trans hkI24 rfl
                  refine lv_aload_n hx hb dX9_mirror_122 rfl (lv_at hl 1 rfl) ?_
                  refine m_getr (0) 0 (100) hx hb hts hown hE oc9 hM (hG.1 0 (by decide)) rfl (by decide) rfl (hG.2 (0, 0, 100) (by decide)) (by decide) tb_398 dX9_mirror_123 ?_
                  refine lv_iload hx hb dX9_mirror_126 (lv_at hl 0 rfl) ?_
                  refine lv_iconst (v := (3)) hx hb dX9_mirror_128 (by decide) ?_
                  refine lv_iload hx hb dX9_mirror_129 (lv_at hl 5 rfl) ?_
                  refine m_callv (m_runV (100) (As := [.int (r21), .int (3), .int (a3)]) (rest := []) hx hb hml hown hts hE hM hS hA ce_X8_setMirror tb_503 (V_X8_setMirror_100 l D A ad ns I24 L25 G (r21) (3) (a3) hG hI (by first | omega | decide) (by first | omega | decide)) rfl rfl ⟨Nat.le_of_ble_eq_true rfl, Nat.le_of_ble_eq_true rfl⟩ (hG.1 100 (by decide)) rfl rfl (by decide) rfl hl.1 rfl (Nat.le_of_ble_eq_true rfl) dX9_mirror_131 ⟨Nat.le_of_ble_eq_true rfl, Nat.le_of_ble_eq_true rfl⟩) hS (fun u H locs hw hM hS => ?_)
                  obtain ⟨I26, L27, rfl, hI, hkI26⟩ := hw
                  have hM : Mem D A ad ns I26 L27 G H := hM
                  have hK := hK.trans hkI26 rfl
                  refine lv_aload_n hx hb dX9_mirror_134 rfl (lv_at hl 1 rfl) ?_
                  refine m_getr (0) 0 (100) hx hb hts hown hE oc9 hM (hG.1 0 (by decide)) rfl (by decide) rfl (hG.2 (0, 0, 100) (by decide)) (by decide) tb_398 dX9_mirror_135 ?_
                  refine lv_iload hx hb dX9_mirror_138 (lv_at hl 0 rfl) ?_
                  refine lv_iconst (v := (4)) hx hb dX9_mirror_140 (by decide) ?_
                  refine lv_iload hx hb dX9_mirror_141 (lv_at hl 6 rfl) ?_
                  refine m_callv (m_runV (100) (As := [.int (r21), .int (4), .int (a4)]) (rest := []) hx hb hml hown hts hE hM hS hA ce_X8_setMirror tb_503 (V_X8_setMirror_100 l D A ad ns I26 L27 G (r21) (4) (a4) hG hI (by first | omega | decide) (by first | omega | decide)) rfl rfl ⟨Nat.le_of_ble_eq_true rfl, Nat.le_of_ble_eq_true rfl⟩ (hG.1 100 (by decide)) rfl rfl (by decide) rfl hl.1 rfl (Nat.le_of_ble_eq_true rfl) dX9_mirror_143 ⟨Nat.le_of_ble_eq_true rfl, Nat.le_of_ble_eq_true rfl⟩) hS (fun u H locs hw hM hS => ?_)
                  obtain ⟨I28, L29, rfl, hI, hkI28⟩ := hw
                  have hM : Mem D A ad ns I28 L29 G H := hM
                  have hK := hK.trans hkI28 rfl
                  refine lv_aload_n hx hb dX9_mirror_146 rfl (lv_at hl 1 rfl) ?_
                  refine m_getr (0) 0 (100) hx hb hts hown hE oc9 hM (hG.1 0 (by decide)) rfl (by decide) rfl (hG.2 (0, 0, 100) (by decide)) (by decide) tb_398 dX9_mirror_147 ?_
                  refine lv_iload hx hb dX9_mirror_150 (lv_at hl 0 rfl) ?_
                  refine lv_iconst (v := (5)) hx hb dX9_mirror_152 (by decide) ?_
                  refine lv_iload hx hb dX9_mirror_153 (lv_at hl 7 rfl) ?_
                  refine m_callv (m_runV (100) (As := [.int (r21), .int (5), .int (a5)]) (rest := []) hx hb hml hown hts hE hM hS hA ce_X8_setMirror tb_503 (V_X8_setMirror_100 l D A ad ns I28 L29 G (r21) (5) (a5) hG hI (by first | omega | decide) (by first | omega | decide)) rfl rfl ⟨Nat.le_of_ble_eq_true rfl, Nat.le_of_ble_eq_true rfl⟩ (hG.1 100 (by decide)) rfl rfl (by decide) rfl hl.1 rfl (Nat.le_of_ble_eq_true rfl) dX9_mirror_155 ⟨Nat.le_of_ble_eq_true rfl, Nat.le_of_ble_eq_true rfl⟩) hS (fun u H locs hw hM hS => ?_)
                  obtain ⟨I30, L31, rfl, hI, hkI30⟩ := hw
                  have hM : Mem D A ad ns I30 L31 G H := hM
                  have hK := hK.trans hkI30 rfl
                  refine lv_aload_n hx hb dX9_mirror_158 rfl (lv_at hl 1 rfl) ?_
                  refine m_getr (0) 0 (100) hx hb hts hown hE oc9 hM (hG.1 0 (by decide)) rfl (by decide) rfl (hG.2 (0, 0, 100) (by decide)) (by decide) tb_398 dX9_mirror_159 ?_
                  refine lv_iload hx hb dX9_mirror_162 (lv_at hl 0 rfl) ?_
                  refine lv_bipush (v := (6)) hx hb dX9_mirror_164 (by decide) ?_
                  refine lv_iload hx hb dX9_mirror_166 (lv_at hl 8 rfl) ?_
                  refine m_callv (m_runV (100) (As := [.int (r21), .int (6), .int (a6)]) (rest := []) hx hb hml hown hts hE hM hS hA ce_X8_setMirror tb_503 (V_X8_setMirror_100 l D A ad ns I30 L31 G (r21) (6) (a6) hG hI (by first | omega | decide) (by first | omega | decide)) rfl rfl ⟨Nat.le_of_ble_eq_true rfl, Nat.le_of_ble_eq_true rfl⟩ (hG.1 100 (by decide)) rfl rfl (by decide) rfl hl.1 rfl (Nat.le_of_ble_eq_true rfl) dX9_mirror_168 ⟨Nat.le_of_ble_eq_true rfl, Nat.le_of_ble_eq_true rfl⟩) hS (fun u H locs hw hM hS => ?_)
                  obtain ⟨I32, L33, rfl, hI, hkI32⟩ := hw
                  have hM : Mem D A ad ns I32 L33 G H := hM
                  have hK := hK.trans hkI32 rfl
                  refine lv_iload hx hb dX9_mirror_171 (lv_at hl 0 rfl) ?_
                  have tz8 : (I32 100 8).toInt = _ := congrArg Int32.toInt ((((((hkI32.get (100) 8 rfl)).trans (hkI30.get (100) 8 rfl)).trans (hkI28.get (100) 8 rfl)).trans (hkI26.get (100) 8 rfl)).trans (hkI24.get (100) 8 rfl))
                  exact m_iret hx hb hr hlocks hM hS (Nat.le_of_ble_eq_true rfl) (Nat.le_of_ble_eq_true rfl) ⟨_, _, rfl, hI, hK, (Or.inl ⟨by omega, xr21.1, by omega, ((((((hkI32.getA 103 rfl)).trans (hkI30.getA 103 rfl)).trans (hkI28.getA 103 rfl)).trans (hkI26.getA 103 rfl)).trans (hkI24.getA 103 rfl)).trans xr21.2.2⟩)⟩ dX9_mirror_173
                · have hc20 := c20
                  have q20 := xr19.f hc20
                  refine lv_iconst (v := (-1)) hx hb dX9_mirror_98 (by decide) ?_
                  exact m_iret hx hb hr hlocks hM hS (Nat.le_of_ble_eq_true rfl) (Nat.le_of_ble_eq_true rfl) ⟨_, _, rfl, hI, hK, (Or.inr ⟨by omega, rfl, rfl⟩)⟩ dX9_mirror_99
      · have hc10 := c10
        have q10 := q_nlt hc10
        refine lv_iconst (v := (-1)) hx hb dX9_mirror_41 (by decide) ?_
        exact m_iret hx hb hr hlocks hM hS (Nat.le_of_ble_eq_true rfl) (Nat.le_of_ble_eq_true rfl) ⟨_, _, rfl, hI, hK, (Or.inr ⟨by omega, rfl, rfl⟩)⟩ dX9_mirror_42
set_option maxHeartbeats 4000000 in
set_option maxRecDepth 20000 in
theorem V_X10_mirror_g (l : Launch) (D : va_G) (A : Nat → Prop) (ad : Nat → Nat) (ns : List Nat) (I : MI) (L : ML) (G : MG) (a0 : Int32) (a1 : Int32) (a2 : Int32) (a3 : Int32) (a4 : Int32) (a5 : Int32) (a6 : Int32) (hJ : SGM ns G) (hI : INV I) : Met l yX10_mirror (wd yX10_mirror cX10_mirror 9 (some .int)) ({ frames := 2, cells := 0, slots := 0, locals := 47 }) (va_Pc [.ref (ad (1000)), .int a0, .int a1, .int a2, .int a3, .int a4, .int a5, .int a6] (PM D A ad ns I L G)) (va_Qi (fun r u => ∃ I2 L2, u = (ad, ns, I2, L2, G) ∧ INV I2 ∧ Kp [(1006, 1017)] [(1001, 8)] I I2 ∧ (ADDM (((I 1001 0).toInt = 1 ∧ 0 ≤ a0.toInt ∧ a0.toInt < (I 1001 1).toInt ∧ 0 ≤ a1.toInt ∧ a1.toInt < (I 1001 2).toInt) ∧ (I 1006 (24 * (a1).toNatClampNeg + (a0).toNatClampNeg)).toInt = -1 ∧ (I 1001 8).toInt < 24 ∧ (0 ≤ a2.toInt ∧ a2.toInt ≤ 7) ∧ (0 ≤ a3.toInt ∧ a3.toInt ≤ 1000) ∧ (0 ≤ a4.toInt ∧ a4.toInt ≤ 1000) ∧ (0 ≤ a5.toInt ∧ a5.toInt ≤ 4) ∧ 0 ≤ a6.toInt ∧ a6.toInt ≤ 9) r I I2 1001 8 1006 (24 * (a1).toNatClampNeg + (a0).toNatClampNeg))) (BM D A) A) 0 0 A := by
  refine m_ofW (by decide) (Nat.le_of_ble_eq_true rfl) ?_
  intro p e s m below meth c ls args hC hE hM hA hS hl
  obtain ⟨hx, hb, hml, hown, hts, hr, hlocks, hin⟩ := hC
  have km1 : (-1 : Int32).toInt = -1 := by decide
  have k0 : (0 : Int32).toInt = 0 := by decide
  have k1 : (1 : Int32).toInt = 1 := by decide
  have k8 : (8 : Int32).toInt = 8 := by decide
  have k24 : (24 : Int32).toInt = 24 := by decide
  have kl0 : (0 : Int64).toInt = 0 := by decide
  have kl4 : (4 : Int64).toInt = 4 := by decide
  have kl7 : (7 : Int64).toInt = 7 := by decide
  have kl9 : (9 : Int64).toInt = 9 := by decide
  have kl1000 : (1000 : Int64).toInt = 1000 := by decide
  have hK : Kp [(1006, 1017)] [(1001, 8)] I I := Kp.rf
  have hl : lv_has ls 9 [(0, .ref (ad (1000))), (1, .int (a0)), (2, .int (a1)), (3, .int (a2)), (4, .int (a3)), (5, .int (a4)), (6, .int (a5)), (7, .int (a6))] := hl
  refine lv_aload_n hx hb dX10_mirror_0 rfl (lv_at hl 0 rfl) ?_
  refine m_getr (1000) 1 (1001) hx hb hts hown hE oc10 hM hJ.1 rfl (by decide) rfl (hJ.2 1 (by decide)).2 (by decide) tb_1178 dX10_mirror_1 ?_
  refine lv_bipush (v := (8)) hx hb dX10_mirror_4 (by decide) ?_
  refine m_iald (1001) hx hb hE hM (hJ.2 1 (by decide)).1 rfl (vp_in_iff.mpr (by decide)) dX10_mirror_6 ?_
  rw [show (8 : Int32).toNatClampNeg = 8 from rfl]
  have g1 := hI.get (1001) 8 (lo := 0) (hi := 24) rfl
  refine lv_istore (lv' := [(8, .int (I (1001) 8)), (0, .ref (ad (1000))), (1, .int (a0)), (2, .int (a1)), (3, .int (a2)), (4, .int (a3)), (5, .int (a4)), (6, .int (a5)), (7, .int (a6))]) hx hb dX10_mirror_7 hl (by decide) rfl (fun ls hl => ?_)
  refine lv_aload_n hx hb dX10_mirror_9 rfl (lv_at hl 1 rfl) ?_
  refine lv_iload_n hx hb dX10_mirror_10 rfl (lv_at hl 2 rfl) ?_
  refine lv_iload_n hx hb dX10_mirror_11 rfl (lv_at hl 3 rfl) ?_
  refine m_calli (m_runV (1000) (As := [.int (a0), .int (a1)]) (rest := []) hx hb hml hown hts hE hM hS hA ce_X10_isCell tb_1437 (V_X10_isCell l D A ad ns I L G (a0) (a1) hJ hI) rfl rfl ⟨Nat.le_of_ble_eq_true rfl, Nat.le_of_ble_eq_true rfl⟩ hJ.1 rfl rfl (by decide) rfl hl.1 rfl (Nat.le_of_ble_eq_true rfl) dX10_mirror_12 ⟨Nat.le_of_ble_eq_true rfl, Nat.le_of_ble_eq_true rfl⟩) hS (fun r2 u H locs hw hM hS => ?_)
  obtain ⟨rfl, xr2⟩ := hw
  have hM : Mem D A ad ns I L G H := hM
  have yr2 := bo01 xr2
  have g3 := hI.get 1001 1 (lo := 0) (hi := 24) rfl
  have g4 := hI.get 1001 2 (lo := 0) (hi := 24) rfl
  refine lv_if_eq (tgt := 104) hx hb dX10_mirror_15 (by decide) (fun c5 => ?_) (fun c5 => ?_)
  · have hc5 := c5
    have q5 := xr2.f hc5
    refine lv_iconst (v := (-1)) hx hb dX10_mirror_104 (by decide) ?_
    exact m_iret hx hb hr hlocks hM hS (Nat.le_of_ble_eq_true rfl) (Nat.le_of_ble_eq_true rfl) ⟨_, _, rfl, hI, hK, (Or.inr ⟨by omega, rfl, rfl⟩)⟩ dX10_mirror_105
  · have hc5 := c5
    have q5 := xr2.t hc5
    refine lv_iload hx hb dX10_mirror_18 (lv_at hl 0 rfl) ?_
    refine lv_bipush (v := (24)) hx hb dX10_mirror_20 (by decide) ?_
    refine lv_icmp_eq (tgt := 104) hx hb dX10_mirror_22 (by decide) (fun c6 => ?_) (fun c6 => ?_)
    · have hc6 := c6
      have q6 := q_eq hc6
      refine lv_iconst (v := (-1)) hx hb dX10_mirror_104 (by decide) ?_
      exact m_iret hx hb hr hlocks hM hS (Nat.le_of_ble_eq_true rfl) (Nat.le_of_ble_eq_true rfl) ⟨_, _, rfl, hI, hK, (Or.inr ⟨by omega, rfl, rfl⟩)⟩ dX10_mirror_105
    · have hc6 := c6
      have q6 := q_ne hc6
      refine lv_aload_n hx hb dX10_mirror_25 rfl (lv_at hl 1 rfl) ?_
      refine m_getr (1000) 6 (1006) hx hb hts hown hE oc10 hM hJ.1 rfl (by decide) rfl (hJ.2 6 (by decide)).2 (by decide) tb_1183 dX10_mirror_26 ?_
      refine lv_bipush (v := (24)) hx hb dX10_mirror_29 (by decide) ?_
      refine lv_iload_n hx hb dX10_mirror_31 rfl (lv_at hl 3 rfl) ?_
      refine lv_imul hx hb dX10_mirror_32 ?_
      refine lv_topi (fun v7 ev7 => ?_)
      have tv7 := a_mulL (c := 24) ev7 (by decide) (by omega) (by omega)
      refine lv_iload_n hx hb dX10_mirror_33 rfl (lv_at hl 2 rfl) ?_
      refine lv_iadd hx hb dX10_mirror_34 ?_
      refine lv_topi (fun v8 ev8 => ?_)
      have tv8 := a_add ev8 (by omega) (by omega)
      refine m_iald (1006) hx hb hE hM (hJ.2 6 (by decide)).1 rfl (vp_in_iff.mpr (by omega)) dX10_mirror_35 ?_
      have g9 := hI.get (1006) ((v8).toNatClampNeg) (lo := -1) (hi := 23) rfl
      have ec10 : (v8).toNatClampNeg = 24 * (a1).toNatClampNeg + (a0).toNatClampNeg := by have z1 := tn (i := v8) (by omega); have z2 := tn (i := a0) (by omega); have z3 := tn (i := a1) (by omega); omega
      have hat : (I (1006) (v8).toNatClampNeg).toInt = (I 1006 (24 * (a1).toNatClampNeg + (a0).toNatClampNeg)).toInt := by rw [ec10]
      refine lv_iconst (v := (-1)) hx hb dX10_mirror_36 (by decide) ?_
      refine lv_icmp_ne (tgt := 104) hx hb dX10_mirror_37 (by decide) (fun c11 => ?_) (fun c11 => ?_)
      · have hc11 := c11
        have q11 := q_ne hc11
        refine lv_iconst (v := (-1)) hx hb dX10_mirror_104 (by decide) ?_
        exact m_iret hx hb hr hlocks hM hS (Nat.le_of_ble_eq_true rfl) (Nat.le_of_ble_eq_true rfl) ⟨_, _, rfl, hI, hK, (Or.inr ⟨by omega, rfl, rfl⟩)⟩ dX10_mirror_105
      · have hc11 := c11
        have q11 := q_eq hc11
        refine lv_iload_n hx hb dX10_mirror_40 rfl (lv_at hl 4 rfl) ?_
        refine lv_i2l hx hb dX10_mirror_41 rfl ?_
        refine lv_topl (fun v12 ev12 => ?_)
        have tv12 := q_i2l ev12
        refine lv_lconst (v := 0) hx hb dX10_mirror_42 (by decide) ?_
        refine lv_ldc2 (v := (7)) hx hb hown (hts _ tb_1451) dX10_mirror_43 ?_
        refine m_calli (m_runS (As := [.long (v12), .long (0), .long ((7 : Int64))]) (rest := []) hx hb hml hown hts hE hM hS hA ce_X10_in tb_1425 (V_X10_in l D A ad ns I L G (v12) (0) ((7 : Int64)) hI) rfl rfl ⟨Nat.le_of_ble_eq_true rfl, Nat.le_of_ble_eq_true rfl⟩  rfl hl.1 rfl (Nat.le_of_ble_eq_true rfl) dX10_mirror_46 ⟨Nat.le_of_ble_eq_true rfl, Nat.le_of_ble_eq_true rfl⟩) hS (fun r13 u H locs hw hM hS => ?_)
        obtain ⟨rfl, xr13⟩ := hw
        have hM : Mem D A ad ns I L G H := hM
        have yr13 := bo01 xr13
        refine lv_if_eq (tgt := 104) hx hb dX10_mirror_49 (by decide) (fun c14 => ?_) (fun c14 => ?_)
        · have hc14 := c14
          have q14 := xr13.f hc14
          refine lv_iconst (v := (-1)) hx hb dX10_mirror_104 (by decide) ?_
          exact m_iret hx hb hr hlocks hM hS (Nat.le_of_ble_eq_true rfl) (Nat.le_of_ble_eq_true rfl) ⟨_, _, rfl, hI, hK, (Or.inr ⟨by omega, rfl, rfl⟩)⟩ dX10_mirror_105
        · have hc14 := c14
          have q14 := xr13.t hc14
          refine lv_iload hx hb dX10_mirror_52 (lv_at hl 5 rfl) ?_
          refine lv_i2l hx hb dX10_mirror_54 rfl ?_
          refine lv_topl (fun v15 ev15 => ?_)
          have tv15 := q_i2l ev15
          refine lv_lconst (v := 0) hx hb dX10_mirror_55 (by decide) ?_
          refine lv_ldc2 (v := (1000)) hx hb hown (hts _ tb_1428) dX10_mirror_56 ?_
          refine m_calli (m_runS (As := [.long (v15), .long (0), .long ((1000 : Int64))]) (rest := []) hx hb hml hown hts hE hM hS hA ce_X10_in tb_1425 (V_X10_in l D A ad ns I L G (v15) (0) ((1000 : Int64)) hI) rfl rfl ⟨Nat.le_of_ble_eq_true rfl, Nat.le_of_ble_eq_true rfl⟩  rfl hl.1 rfl (Nat.le_of_ble_eq_true rfl) dX10_mirror_59 ⟨Nat.le_of_ble_eq_true rfl, Nat.le_of_ble_eq_true rfl⟩) hS (fun r16 u H locs hw hM hS => ?_)
          obtain ⟨rfl, xr16⟩ := hw
          have hM : Mem D A ad ns I L G H := hM
          have yr16 := bo01 xr16
          refine lv_if_eq (tgt := 104) hx hb dX10_mirror_62 (by decide) (fun c17 => ?_) (fun c17 => ?_)
          · have hc17 := c17
            have q17 := xr16.f hc17
            refine lv_iconst (v := (-1)) hx hb dX10_mirror_104 (by decide) ?_
            exact m_iret hx hb hr hlocks hM hS (Nat.le_of_ble_eq_true rfl) (Nat.le_of_ble_eq_true rfl) ⟨_, _, rfl, hI, hK, (Or.inr ⟨by omega, rfl, rfl⟩)⟩ dX10_mirror_105
          · have hc17 := c17
            have q17 := xr16.t hc17
            refine lv_iload hx hb dX10_mirror_65 (lv_at hl 6 rfl) ?_
            refine lv_i2l hx hb dX10_mirror_67 rfl ?_
            refine lv_topl (fun v18 ev18 => ?_)
            have tv18 := q_i2l ev18
            refine lv_lconst (v := 0) hx hb dX10_mirror_68 (by decide) ?_
            refine lv_ldc2 (v := (1000)) hx hb hown (hts _ tb_1428) dX10_mirror_69 ?_
            refine m_calli (m_runS (As := [.long (v18), .long (0), .long ((1000 : Int64))]) (rest := []) hx hb hml hown hts hE hM hS hA ce_X10_in tb_1425 (V_X10_in l D A ad ns I L G (v18) (0) ((1000 : Int64)) hI) rfl rfl ⟨Nat.le_of_ble_eq_true rfl, Nat.le_of_ble_eq_true rfl⟩  rfl hl.1 rfl (Nat.le_of_ble_eq_true rfl) dX10_mirror_72 ⟨Nat.le_of_ble_eq_true rfl, Nat.le_of_ble_eq_true rfl⟩) hS (fun r19 u H locs hw hM hS => ?_)
            obtain ⟨rfl, xr19⟩ := hw
            have hM : Mem D A ad ns I L G H := hM
            have yr19 := bo01 xr19
            refine lv_if_eq (tgt := 104) hx hb dX10_mirror_75 (by decide) (fun c20 => ?_) (fun c20 => ?_)
            · have hc20 := c20
              have q20 := xr19.f hc20
              refine lv_iconst (v := (-1)) hx hb dX10_mirror_104 (by decide) ?_
              exact m_iret hx hb hr hlocks hM hS (Nat.le_of_ble_eq_true rfl) (Nat.le_of_ble_eq_true rfl) ⟨_, _, rfl, hI, hK, (Or.inr ⟨by omega, rfl, rfl⟩)⟩ dX10_mirror_105
            · have hc20 := c20
              have q20 := xr19.t hc20
              refine lv_iload hx hb dX10_mirror_78 (lv_at hl 7 rfl) ?_
              refine lv_i2l hx hb dX10_mirror_80 rfl ?_
              refine lv_topl (fun v21 ev21 => ?_)
              have tv21 := q_i2l ev21
              refine lv_lconst (v := 0) hx hb dX10_mirror_81 (by decide) ?_
              refine lv_ldc2 (v := (4)) hx hb hown (hts _ tb_1423) dX10_mirror_82 ?_
              refine m_calli (m_runS (As := [.long (v21), .long (0), .long ((4 : Int64))]) (rest := []) hx hb hml hown hts hE hM hS hA ce_X10_in tb_1425 (V_X10_in l D A ad ns I L G (v21) (0) ((4 : Int64)) hI) rfl rfl ⟨Nat.le_of_ble_eq_true rfl, Nat.le_of_ble_eq_true rfl⟩  rfl hl.1 rfl (Nat.le_of_ble_eq_true rfl) dX10_mirror_85 ⟨Nat.le_of_ble_eq_true rfl, Nat.le_of_ble_eq_true rfl⟩) hS (fun r22 u H locs hw hM hS => ?_)
              obtain ⟨rfl, xr22⟩ := hw
              have hM : Mem D A ad ns I L G H := hM
              have yr22 := bo01 xr22
              refine lv_if_eq (tgt := 104) hx hb dX10_mirror_88 (by decide) (fun c23 => ?_) (fun c23 => ?_)
              · have hc23 := c23
                have q23 := xr22.f hc23
                refine lv_iconst (v := (-1)) hx hb dX10_mirror_104 (by decide) ?_
                exact m_iret hx hb hr hlocks hM hS (Nat.le_of_ble_eq_true rfl) (Nat.le_of_ble_eq_true rfl) ⟨_, _, rfl, hI, hK, (Or.inr ⟨by omega, rfl, rfl⟩)⟩ dX10_mirror_105
              · have hc23 := c23
                have q23 := xr22.t hc23
                refine lv_iload hx hb dX10_mirror_91 (lv_at hl 8 rfl) ?_
                refine lv_i2l hx hb dX10_mirror_93 rfl ?_
                refine lv_topl (fun v24 ev24 => ?_)
                have tv24 := q_i2l ev24
                refine lv_lconst (v := 0) hx hb dX10_mirror_94 (by decide) ?_
                refine lv_ldc2 (v := (9)) hx hb hown (hts _ tb_1457) dX10_mirror_95 ?_
                refine m_calli (m_runS (As := [.long (v24), .long (0), .long ((9 : Int64))]) (rest := []) hx hb hml hown hts hE hM hS hA ce_X10_in tb_1425 (V_X10_in l D A ad ns I L G (v24) (0) ((9 : Int64)) hI) rfl rfl ⟨Nat.le_of_ble_eq_true rfl, Nat.le_of_ble_eq_true rfl⟩  rfl hl.1 rfl (Nat.le_of_ble_eq_true rfl) dX10_mirror_98 ⟨Nat.le_of_ble_eq_true rfl, Nat.le_of_ble_eq_true rfl⟩) hS (fun r25 u H locs hw hM hS => ?_)
                obtain ⟨rfl, xr25⟩ := hw
                have hM : Mem D A ad ns I L G H := hM
                have yr25 := bo01 xr25
                refine lv_if_ne (tgt := 106) hx hb dX10_mirror_101 (by decide) (fun c26 => ?_) (fun c26 => ?_)
                · have hc26 := c26
                  have q26 := xr25.t hc26
                  refine lv_aload_n hx hb dX10_mirror_106 rfl (lv_at hl 1 rfl) ?_
                  refine m_getr (1000) 7 (1007) hx hb hts hown hE oc10 hM hJ.1 rfl (by decide) rfl (hJ.2 7 (by decide)).2 (by decide) tb_1184 dX10_mirror_107 ?_
                  refine lv_iload hx hb dX10_mirror_110 (lv_at hl 0 rfl) ?_
                  refine lv_iload_n hx hb dX10_mirror_112 rfl (lv_at hl 2 rfl) ?_
                  refine m_iast (1007) hx hb hE hM hS (hJ.2 7 (by decide)).1 rfl (vp_in_iff.mpr (by omega)) dX10_mirror_113 (fun H locs I27 eI27 hM hS => ?_)
                  subst eI27
                  have hI := hI.putF (n := 1007) (k := ((I (1001) 8).toNatClampNeg)) (v := a0) rfl
                  have hK := hK.put (n := 1007) (k := ((I (1001) 8).toNatClampNeg)) (v := a0) (by first | rfl | simp [inR])
                  refine lv_aload_n hx hb dX10_mirror_114 rfl (lv_at hl 1 rfl) ?_
                  refine m_getr (1000) 8 (1008) hx hb hts hown hE oc10 hM hJ.1 rfl (by decide) rfl (hJ.2 8 (by decide)).2 (by decide) tb_1185 dX10_mirror_115 ?_
                  refine lv_iload hx hb dX10_mirror_118 (lv_at hl 0 rfl) ?_
                  refine lv_iload_n hx hb dX10_mirror_120 rfl (lv_at hl 3 rfl) ?_
                  refine m_iast (1008) hx hb hE hM hS (hJ.2 8 (by decide)).1 rfl (vp_in_iff.mpr (by omega)) dX10_mirror_121 (fun H locs I28 eI28 hM hS => ?_)
                  subst eI28
                  have hI := hI.putF (n := 1008) (k := ((I (1001) 8).toNatClampNeg)) (v := a1) rfl
                  have hK := hK.put (n := 1008) (k := ((I (1001) 8).toNatClampNeg)) (v := a1) (by first | rfl | simp [inR])
                  refine lv_aload_n hx hb dX10_mirror_122 rfl (lv_at hl 1 rfl) ?_
                  refine m_getr (1000) 9 (1009) hx hb hts hown hE oc10 hM hJ.1 rfl (by decide) rfl (hJ.2 9 (by decide)).2 (by decide) tb_1186 dX10_mirror_123 ?_
                  refine lv_iload hx hb dX10_mirror_126 (lv_at hl 0 rfl) ?_
                  refine lv_iload_n hx hb dX10_mirror_128 rfl (lv_at hl 4 rfl) ?_
                  refine m_iast (1009) hx hb hE hM hS (hJ.2 9 (by decide)).1 rfl (vp_in_iff.mpr (by omega)) dX10_mirror_129 (fun H locs I29 eI29 hM hS => ?_)
                  subst eI29
                  have hI := hI.putF (n := 1009) (k := ((I (1001) 8).toNatClampNeg)) (v := a2) rfl
                  have hK := hK.put (n := 1009) (k := ((I (1001) 8).toNatClampNeg)) (v := a2) (by first | rfl | simp [inR])
                  refine lv_aload_n hx hb dX10_mirror_130 rfl (lv_at hl 1 rfl) ?_
                  refine m_getr (1000) 10 (1010) hx hb hts hown hE oc10 hM hJ.1 rfl (by decide) rfl (hJ.2 10 (by decide)).2 (by decide) tb_1187 dX10_mirror_131 ?_
                  refine lv_iload hx hb dX10_mirror_134 (lv_at hl 0 rfl) ?_
                  refine lv_iload hx hb dX10_mirror_136 (lv_at hl 5 rfl) ?_
                  refine m_iast (1010) hx hb hE hM hS (hJ.2 10 (by decide)).1 rfl (vp_in_iff.mpr (by omega)) dX10_mirror_138 (fun H locs I30 eI30 hM hS => ?_)
                  subst eI30
                  have hI := hI.putF (n := 1010) (k := ((I (1001) 8).toNatClampNeg)) (v := a3) rfl
                  have hK := hK.put (n := 1010) (k := ((I (1001) 8).toNatClampNeg)) (v := a3) (by first | rfl | simp [inR])
                  refine lv_aload_n hx hb dX10_mirror_139 rfl (lv_at hl 1 rfl) ?_
                  refine m_getr (1000) 11 (1011) hx hb hts hown hE oc10 hM hJ.1 rfl (by decide) rfl (hJ.2 11 (by decide)).2 (by decide) tb_1188 dX10_mirror_140 ?_
                  refine lv_iload hx hb dX10_mirror_143 (lv_at hl 0 rfl) ?_
                  refine lv_iload hx hb dX10_mirror_145 (lv_at hl 6 rfl) ?_
                  refine m_iast (1011) hx hb hE hM hS (hJ.2 11 (by decide)).1 rfl (vp_in_iff.mpr (by omega)) dX10_mirror_147 (fun H locs I31 eI31 hM hS => ?_)
                  subst eI31
                  have hI := hI.putF (n := 1011) (k := ((I (1001) 8).toNatClampNeg)) (v := a4) rfl
                  have hK := hK.put (n := 1011) (k := ((I (1001) 8).toNatClampNeg)) (v := a4) (by first | rfl | simp [inR])
                  refine lv_aload_n hx hb dX10_mirror_148 rfl (lv_at hl 1 rfl) ?_
                  refine m_getr (1000) 12 (1012) hx hb hts hown hE oc10 hM hJ.1 rfl (by decide) rfl (hJ.2 12 (by decide)).2 (by decide) tb_1189 dX10_mirror_149 ?_
                  refine lv_iload hx hb dX10_mirror_152 (lv_at hl 0 rfl) ?_
                  refine lv_iload hx hb dX10_mirror_154 (lv_at hl 7 rfl) ?_
                  refine m_iast (1012) hx hb hE hM hS (hJ.2 12 (by decide)).1 rfl (vp_in_iff.mpr (by omega)) dX10_mirror_156 (fun H locs I32 eI32 hM hS => ?_)
                  subst eI32
                  have hI := hI.putF (n := 1012) (k := ((I (1001) 8).toNatClampNeg)) (v := a5) rfl
                  have hK := hK.put (n := 1012) (k := ((I (1001) 8).toNatClampNeg)) (v := a5) (by first | rfl | simp [inR])
                  refine lv_aload_n hx hb dX10_mirror_157 rfl (lv_at hl 1 rfl) ?_
                  refine m_getr (1000) 13 (1013) hx hb hts hown hE oc10 hM hJ.1 rfl (by decide) rfl (hJ.2 13 (by decide)).2 (by decide) tb_1190 dX10_mirror_158 ?_
                  refine lv_iload hx hb dX10_mirror_161 (lv_at hl 0 rfl) ?_
                  refine lv_iload hx hb dX10_mirror_163 (lv_at hl 8 rfl) ?_
                  refine m_iast (1013) hx hb hE hM hS (hJ.2 13 (by decide)).1 rfl (vp_in_iff.mpr (by omega)) dX10_mirror_165 (fun H locs I33 eI33 hM hS => ?_)
                  subst eI33
                  have hI := hI.putF (n := 1013) (k := ((I (1001) 8).toNatClampNeg)) (v := a6) rfl
                  have hK := hK.put (n := 1013) (k := ((I (1001) 8).toNatClampNeg)) (v := a6) (by first | rfl | simp [inR])
                  refine lv_aload_n hx hb dX10_mirror_166 rfl (lv_at hl 1 rfl) ?_
                  refine m_getr (1000) 14 (1014) hx hb hts hown hE oc10 hM hJ.1 rfl (by decide) rfl (hJ.2 14 (by decide)).2 (by decide) tb_1191 dX10_mirror_167 ?_
                  refine lv_iload hx hb dX10_mirror_170 (lv_at hl 0 rfl) ?_
                  refine lv_iconst (v := (0)) hx hb dX10_mirror_172 (by decide) ?_
                  refine m_iast (1014) hx hb hE hM hS (hJ.2 14 (by decide)).1 rfl (vp_in_iff.mpr (by omega)) dX10_mirror_173 (fun H locs I34 eI34 hM hS => ?_)
                  subst eI34
                  have hI := hI.putF (n := 1014) (k := ((I (1001) 8).toNatClampNeg)) (v := 0) rfl
                  have hK := hK.put (n := 1014) (k := ((I (1001) 8).toNatClampNeg)) (v := 0) (by first | rfl | simp [inR])
                  refine lv_aload_n hx hb dX10_mirror_174 rfl (lv_at hl 1 rfl) ?_
                  refine m_getr (1000) 15 (1015) hx hb hts hown hE oc10 hM hJ.1 rfl (by decide) rfl (hJ.2 15 (by decide)).2 (by decide) tb_1192 dX10_mirror_175 ?_
                  refine lv_iload hx hb dX10_mirror_178 (lv_at hl 0 rfl) ?_
                  refine lv_iconst (v := (0)) hx hb dX10_mirror_180 (by decide) ?_
                  refine m_iast (1015) hx hb hE hM hS (hJ.2 15 (by decide)).1 rfl (vp_in_iff.mpr (by omega)) dX10_mirror_181 (fun H locs I35 eI35 hM hS => ?_)
                  subst eI35
                  have hI := hI.putF (n := 1015) (k := ((I (1001) 8).toNatClampNeg)) (v := 0) rfl
                  have hK := hK.put (n := 1015) (k := ((I (1001) 8).toNatClampNeg)) (v := 0) (by first | rfl | simp [inR])
                  refine lv_aload_n hx hb dX10_mirror_182 rfl (lv_at hl 1 rfl) ?_
                  refine m_getr (1000) 16 (1016) hx hb hts hown hE oc10 hM hJ.1 rfl (by decide) rfl (hJ.2 16 (by decide)).2 (by decide) tb_1193 dX10_mirror_183 ?_
                  refine lv_iload hx hb dX10_mirror_186 (lv_at hl 0 rfl) ?_
                  refine lv_iconst (v := (-1)) hx hb dX10_mirror_188 (by decide) ?_
                  refine m_iast (1016) hx hb hE hM hS (hJ.2 16 (by decide)).1 rfl (vp_in_iff.mpr (by omega)) dX10_mirror_189 (fun H locs I36 eI36 hM hS => ?_)
                  subst eI36
                  have hI := hI.putF (n := 1016) (k := ((I (1001) 8).toNatClampNeg)) (v := (-1 : Int32)) rfl
                  have hK := hK.put (n := 1016) (k := ((I (1001) 8).toNatClampNeg)) (v := (-1 : Int32)) (by first | rfl | simp [inR])
                  refine lv_aload_n hx hb dX10_mirror_190 rfl (lv_at hl 1 rfl) ?_
                  refine m_getr (1000) 6 (1006) hx hb hts hown hE oc10 hM hJ.1 rfl (by decide) rfl (hJ.2 6 (by decide)).2 (by decide) tb_1183 dX10_mirror_191 ?_
                  refine lv_bipush (v := (24)) hx hb dX10_mirror_194 (by decide) ?_
                  refine lv_iload_n hx hb dX10_mirror_196 rfl (lv_at hl 3 rfl) ?_
                  refine lv_imul hx hb dX10_mirror_197 ?_
                  refine lv_topi (fun v37 ev37 => ?_)
                  have tv37 := a_mulL (c := 24) ev37 (by decide) (by omega) (by omega)
                  refine lv_iload_n hx hb dX10_mirror_198 rfl (lv_at hl 2 rfl) ?_
                  refine lv_iadd hx hb dX10_mirror_199 ?_
                  refine lv_topi (fun v38 ev38 => ?_)
                  have tv38 := a_add ev38 (by omega) (by omega)
                  refine lv_iload hx hb dX10_mirror_200 (lv_at hl 0 rfl) ?_
                  refine m_iast (1006) hx hb hE hM hS (hJ.2 6 (by decide)).1 rfl (vp_in_iff.mpr (by omega)) dX10_mirror_202 (fun H locs I39 eI39 hM hS => ?_)
                  subst eI39
                  have hI := hI.put (n := 1006) (k := ((v38).toNatClampNeg)) (v := I (1001) 8) (lo := -1) (hi := 23) rfl (by first | omega | decide)
                  have hK := hK.put (n := 1006) (k := ((v38).toNatClampNeg)) (v := I (1001) 8) (by first | rfl | simp [inR])
                  refine lv_aload_n hx hb dX10_mirror_203 rfl (lv_at hl 1 rfl) ?_
                  refine m_getr (1000) 1 (1001) hx hb hts hown hE oc10 hM hJ.1 rfl (by decide) rfl (hJ.2 1 (by decide)).2 (by decide) tb_1178 dX10_mirror_204 ?_
                  refine lv_bipush (v := (8)) hx hb dX10_mirror_207 (by decide) ?_
                  refine lv_dup2_11 hx hb dX10_mirror_209 rfl rfl ?_
                  refine m_iald (1001) hx hb hE hM (hJ.2 1 (by decide)).1 rfl (vp_in_iff.mpr (by decide)) dX10_mirror_210 ?_
                  rw [show (8 : Int32).toNatClampNeg = 8 from rfl]
                  have z40 : (u2 (u2 (u2 (u2 (u2 (u2 (u2 (u2 (u2 (u2 (u2 I (1007) ((I (1001) 8).toNatClampNeg) (a0)) (1008) ((I (1001) 8).toNatClampNeg) (a1)) (1009) ((I (1001) 8).toNatClampNeg) (a2)) (1010) ((I (1001) 8).toNatClampNeg) (a3)) (1011) ((I (1001) 8).toNatClampNeg) (a4)) (1012) ((I (1001) 8).toNatClampNeg) (a5)) (1013) ((I (1001) 8).toNatClampNeg) (a6)) (1014) ((I (1001) 8).toNatClampNeg) (0)) (1015) ((I (1001) 8).toNatClampNeg) (0)) (1016) ((I (1001) 8).toNatClampNeg) ((-1 : Int32))) (1006) ((v38).toNatClampNeg) (I (1001) 8)) (1001) 8 = I (1001) 8 := (show (u2 (u2 (u2 (u2 (u2 (u2 (u2 (u2 (u2 (u2 (u2 I (1007) ((I (1001) 8).toNatClampNeg) (a0)) (1008) ((I (1001) 8).toNatClampNeg) (a1)) (1009) ((I (1001) 8).toNatClampNeg) (a2)) (1010) ((I (1001) 8).toNatClampNeg) (a3)) (1011) ((I (1001) 8).toNatClampNeg) (a4)) (1012) ((I (1001) 8).toNatClampNeg) (a5)) (1013) ((I (1001) 8).toNatClampNeg) (a6)) (1014) ((I (1001) 8).toNatClampNeg) (0)) (1015) ((I (1001) 8).toNatClampNeg) (0)) (1016) ((I (1001) 8).toNatClampNeg) ((-1 : Int32))) (1006) ((v38).toNatClampNeg) (I (1001) 8)) (1001) 8 = I (1001) 8 from by simp [u2_v])
                  rw [z40]
                  refine lv_iconst (v := (1)) hx hb dX10_mirror_211 (by decide) ?_
                  refine lv_iadd hx hb dX10_mirror_212 ?_
                  refine lv_topi (fun v41 ev41 => ?_)
                  have tv41 := a_add ev41 (by omega) (by omega)
                  refine m_iast (1001) hx hb hE hM hS (hJ.2 1 (by decide)).1 rfl (vp_in_iff.mpr (by decide)) dX10_mirror_213 (fun H locs I42 eI42 hM hS => ?_)
                  rw [show (8 : Int32).toNatClampNeg = 8 from rfl] at eI42
                  subst eI42
                  have hI := hI.put (n := 1001) (k := 8) (v := v41) (lo := 0) (hi := 24) rfl (by first | omega | decide)
                  have hK := hK.put (n := 1001) (k := 8) (v := v41) (by first | rfl | simp [inR])
                  refine lv_iload hx hb dX10_mirror_214 (lv_at hl 0 rfl) ?_
                  have tz8 : ((u2 (u2 (u2 (u2 (u2 (u2 (u2 (u2 (u2 (u2 (u2 (u2 I (1007) ((I (1001) 8).toNatClampNeg) (a0)) (1008) ((I (1001) 8).toNatClampNeg) (a1)) (1009) ((I (1001) 8).toNatClampNeg) (a2)) (1010) ((I (1001) 8).toNatClampNeg) (a3)) (1011) ((I (1001) 8).toNatClampNeg) (a4)) (1012) ((I (1001) 8).toNatClampNeg) (a5)) (1013) ((I (1001) 8).toNatClampNeg) (a6)) (1014) ((I (1001) 8).toNatClampNeg) (0)) (1015) ((I (1001) 8).toNatClampNeg) (0)) (1016) ((I (1001) 8).toNatClampNeg) ((-1 : Int32))) (1006) ((v38).toNatClampNeg) (I (1001) 8)) (1001) 8 (v41)) 1001 8).toInt = _ := congrArg Int32.toInt ((show (u2 (u2 (u2 (u2 (u2 (u2 (u2 (u2 (u2 (u2 (u2 (u2 I (1007) ((I (1001) 8).toNatClampNeg) (a0)) (1008) ((I (1001) 8).toNatClampNeg) (a1)) (1009) ((I (1001) 8).toNatClampNeg) (a2)) (1010) ((I (1001) 8).toNatClampNeg) (a3)) (1011) ((I (1001) 8).toNatClampNeg) (a4)) (1012) ((I (1001) 8).toNatClampNeg) (a5)) (1013) ((I (1001) 8).toNatClampNeg) (a6)) (1014) ((I (1001) 8).toNatClampNeg) (0)) (1015) ((I (1001) 8).toNatClampNeg) (0)) (1016) ((I (1001) 8).toNatClampNeg) ((-1 : Int32))) (1006) ((v38).toNatClampNeg) (I (1001) 8)) (1001) 8 (v41)) (1001) 8 = v41 from by simp [u2_v]))
                  have ec43 : (v38).toNatClampNeg = 24 * (a1).toNatClampNeg + (a0).toNatClampNeg := by have z1 := tn (i := v38) (by omega); have z2 := tn (i := a0) (by omega); have z3 := tn (i := a1) (by omega); omega
                  have hb3 : (u2 (u2 (u2 (u2 (u2 (u2 (u2 (u2 (u2 (u2 (u2 (u2 I (1007) ((I (1001) 8).toNatClampNeg) (a0)) (1008) ((I (1001) 8).toNatClampNeg) (a1)) (1009) ((I (1001) 8).toNatClampNeg) (a2)) (1010) ((I (1001) 8).toNatClampNeg) (a3)) (1011) ((I (1001) 8).toNatClampNeg) (a4)) (1012) ((I (1001) 8).toNatClampNeg) (a5)) (1013) ((I (1001) 8).toNatClampNeg) (a6)) (1014) ((I (1001) 8).toNatClampNeg) (0)) (1015) ((I (1001) 8).toNatClampNeg) (0)) (1016) ((I (1001) 8).toNatClampNeg) ((-1 : Int32))) (1006) ((v38).toNatClampNeg) (I (1001) 8)) (1001) 8 (v41)) 1006 = u2 I 1006 (24 * (a1).toNatClampNeg + (a0).toNatClampNeg) (I 1001 8) 1006 := ((show (u2 (u2 (u2 (u2 (u2 (u2 (u2 (u2 (u2 (u2 (u2 (u2 I (1007) ((I (1001) 8).toNatClampNeg) (a0)) (1008) ((I (1001) 8).toNatClampNeg) (a1)) (1009) ((I (1001) 8).toNatClampNeg) (a2)) (1010) ((I (1001) 8).toNatClampNeg) (a3)) (1011) ((I (1001) 8).toNatClampNeg) (a4)) (1012) ((I (1001) 8).toNatClampNeg) (a5)) (1013) ((I (1001) 8).toNatClampNeg) (a6)) (1014) ((I (1001) 8).toNatClampNeg) (0)) (1015) ((I (1001) 8).toNatClampNeg) (0)) (1016) ((I (1001) 8).toNatClampNeg) ((-1 : Int32))) (1006) ((v38).toNatClampNeg) (I (1001) 8)) (1001) 8 (v41)) 1006 = (u2 (u2 (u2 (u2 (u2 (u2 (u2 (u2 (u2 (u2 (u2 I (1007) ((I (1001) 8).toNatClampNeg) (a0)) (1008) ((I (1001) 8).toNatClampNeg) (a1)) (1009) ((I (1001) 8).toNatClampNeg) (a2)) (1010) ((I (1001) 8).toNatClampNeg) (a3)) (1011) ((I (1001) 8).toNatClampNeg) (a4)) (1012) ((I (1001) 8).toNatClampNeg) (a5)) (1013) ((I (1001) 8).toNatClampNeg) (a6)) (1014) ((I (1001) 8).toNatClampNeg) (0)) (1015) ((I (1001) 8).toNatClampNeg) (0)) (1016) ((I (1001) 8).toNatClampNeg) ((-1 : Int32))) (1006) ((v38).toNatClampNeg) (I (1001) 8)) 1006 from by funext zz; simp [u2_v])).trans (by rw [← ec43]; funext zz; simp [u2_v])
                  exact m_iret hx hb hr hlocks hM hS (Nat.le_of_ble_eq_true rfl) (Nat.le_of_ble_eq_true rfl) ⟨_, _, rfl, hI, hK, (Or.inl ⟨by omega, rfl, by omega, hb3⟩)⟩ dX10_mirror_216
                · have hc26 := c26
                  have q26 := xr25.f hc26
                  refine lv_iconst (v := (-1)) hx hb dX10_mirror_104 (by decide) ?_
                  exact m_iret hx hb hr hlocks hM hS (Nat.le_of_ble_eq_true rfl) (Nat.le_of_ble_eq_true rfl) ⟨_, _, rfl, hI, hK, (Or.inr ⟨by omega, rfl, rfl⟩)⟩ dX10_mirror_105
