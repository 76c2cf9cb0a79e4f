-- a town as a table: rows as the reference has them; the class's town read so
def wdt (n : Nat) : Nat := if n = 1 then 10 else if n = 2 ∨ n = 3 ∨ n = 6 then 576 else if n = 4 ∨ n = 5 then 288 else if n < 17 then 24 else 8
def nc (n : Nat) : Nat := if n = 2 then 1 else if n = 3 then 2 else if n = 4 then 5 else if n = 5 then 6 else if n = 6 then 3 else if n < 17 then 7 else 8
def ofs (n : Nat) : Nat := if n < 7 then 0 else if n < 17 then 24 * (n - 7) else if n = 17 then 24 else if n = 18 then 32 else if n = 19 then 40 else if n = 20 then 48 else if n = 21 then 16 else if n = 22 then 8 else 0
def sC (b : Nat) (I : MI) (k : Nat) : Int32 := match k with
  | 0 => if 0 < (I b 0).toInt then 1 else 0
  | 1 => I b 0
  | 2 => I b 1
  | 3 => 24 * I b 3 + I b 2
  | 4 => I b 4
  | 5 => I b 5
  | 6 => I b 6
  | 7 => I b 7
  | 8 => I b 8
  | _ => I b 9
def VW : Type := Nat → Nat → Int32
def cF (b : Nat) (I : MI) : VW := fun n k => if n = 1 then sC b I k else I (b + nc n) (ofs n + k)
def EqV (V W : VW) : Prop := ∀ n k, 1 ≤ n → n ≤ 23 → k < wdt n → W n k = V n k
theorem EqV.rf {V : VW} : EqV V V := fun _ _ _ _ _ => rfl
theorem EqV.sy {V W : VW} (h : EqV V W) : EqV W V := fun n k a b c => (h n k a b c).symm
theorem EqV.tr {V W X : VW} (h : EqV V W) (h2 : EqV W X) : EqV V X := fun n k a b c => (h2 n k a b c).trans (h n k a b c)
def stV (V : VW) (n k : Nat) (v : Int32) : VW := fun m j => if m = n ∧ j = k then v else V m j
theorem stV_eq {V W : VW} (h : EqV V W) (n k : Nat) (v : Int32) : EqV (stV V n k v) (stV W n k v) := fun m j a b c => by
  unfold stV
  by_cases hq : m = n ∧ j = k
  · rw [if_pos hq, if_pos hq]
  · rw [if_neg hq, if_neg hq]; exact h m j a b c
theorem stV_same {V : VW} {n k : Nat} {v : Int32} (h : v = V n k) : stV V n k v = V := by
  funext m j
  unfold stV
  by_cases hq : m = n ∧ j = k
  · rw [if_pos hq, h, hq.1, hq.2]
  · rw [if_neg hq]
theorem stV_two {V : VW} {n k : Nat} {v w : Int32} : stV (stV V n k v) n k w = stV V n k w := by
  funext m j
  unfold stV
  by_cases hq : m = n ∧ j = k
  · rw [if_pos hq, if_pos hq]
  · rw [if_neg hq, if_neg hq, if_neg hq]
theorem stV_at (V : VW) (n k : Nat) (v : Int32) : stV V n k v n k = v := if_pos ⟨rfl, rfl⟩
theorem stV_ne {V : VW} {n k m j : Nat} {v : Int32} (h : ¬ (m = n ∧ j = k)) : stV V n k v m j = V m j := if_neg h
theorem nc_apart : ∀ n m : Fin 24, 2 ≤ n.val → 2 ≤ m.val → n ≠ m → nc n.val = nc m.val → ofs n.val + wdt n.val ≤ ofs m.val ∨ ofs m.val + wdt m.val ≤ ofs n.val := by decide
theorem nc_in : ∀ n : Fin 24, 2 ≤ n.val → 1 ≤ nc n.val ∧ nc n.val ≤ 8 ∧ nc n.val ≠ 4 := by decide
theorem nc_inj {n m j k : Nat} (hn : 2 ≤ n ∧ n ≤ 23) (hm : 2 ≤ m ∧ m ≤ 23) (hj : j < wdt n) (hk : k < wdt m) : (nc n = nc m ∧ ofs n + j = ofs m + k) ↔ (n = m ∧ j = k) := by
  constructor
  · rintro ⟨h1, h2⟩
    by_cases hq : n = m
    · subst hq; exact ⟨rfl, by omega⟩
    · exfalso
      have := nc_apart ⟨n, by omega⟩ ⟨m, by omega⟩ hn.1 hm.1 (fun e => hq (congrArg Fin.val e)) h1
      simp only at this
      omega
  · rintro ⟨rfl, rfl⟩; exact ⟨rfl, rfl⟩
-- one place of the class's tables changes
theorem cF_put {b : Nat} {I : MI} {n k : Nat} {v : Int32} (hn : 2 ≤ n ∧ n ≤ 23) (hk : k < wdt n) : EqV (stV (cF b I) n k v) (cF b (u2 I (b + nc n) (ofs n + k) v)) := fun m j h1 h2 hj => by
  unfold stV cF
  have hb := nc_in ⟨n, by omega⟩ hn.1
  simp only at hb
  by_cases hq : m = 1
  · subst hq
    rw [if_pos rfl, if_neg (by omega), if_pos rfl]
    unfold sC
    simp only [u2_ne _ _ _ (show b ≠ b + nc n by omega)]
  · rw [if_neg hq, if_neg hq, u2_v]
    have := nc_inj (n := m) (m := n) (j := j) (k := k) ⟨by omega, h2⟩ hn hj hk
    by_cases hz : m = n ∧ j = k
    · have h3 := this.mpr hz
      rw [if_pos ⟨by omega, h3.2⟩, if_pos hz]
    · rw [if_neg (fun z => hz (this.mp ⟨by omega, z.2⟩)), if_neg hz]
theorem cF_kp {b : Nat} {I I2 : MI} (h : ∀ n, b ≤ n → n < b + 9 → I2 n = I n) : cF b I2 = cF b I := by
  funext n k
  unfold cF
  by_cases hq : n = 1
  · rw [if_pos hq, if_pos hq]
    unfold sC
    rw [h b (by omega) (by omega)]
  · rw [if_neg hq, if_neg hq]
    have : nc n ≤ 8 := by unfold nc; (repeat' split) <;> omega
    rw [h _ (by omega) (by omega)]
-- a number of the town changes
theorem cF_sc {b : Nat} {I : MI} {n k : Nat} {v : Int32} (h : (n = 4 ∧ k = 4) ∨ (n = 5 ∧ k = 5) ∨ (n = 6 ∧ k = 6) ∨ (n = 7 ∧ k = 7) ∨ (n = 8 ∧ k = 8) ∨ (n = 9 ∧ k = 9)) : EqV (stV (cF b I) 1 n v) (cF b (u2 I b k v)) := fun m j h1 h2 hj => by
  unfold stV cF
  by_cases hq : m = 1
  · subst hq
    rw [if_pos rfl, if_pos rfl]
    have hj : j < 10 := hj
    rcases (show j = 0 ∨ j = 1 ∨ j = 2 ∨ j = 3 ∨ j = 4 ∨ j = 5 ∨ j = 6 ∨ j = 7 ∨ j = 8 ∨ j = 9 by omega) with rfl | rfl | rfl | rfl | rfl | rfl | rfl | rfl | rfl | rfl <;> rcases h with ⟨rfl, rfl⟩ | ⟨rfl, rfl⟩ | ⟨rfl, rfl⟩ | ⟨rfl, rfl⟩ | ⟨rfl, rfl⟩ | ⟨rfl, rfl⟩ <;> simp [sC, u2_v]
  · rw [if_neg hq, if_neg (by omega), if_neg hq]
    have : 1 ≤ nc m := by unfold nc; (repeat' split) <;> omega
    rw [u2_ne _ _ _ (by omega)]
def RKv (V : VW) : Prop := ((0 ≤ (V 1 4).toInt ∧ (V 1 4).toInt ≤ 1000) ∧ (0 ≤ (V 1 3).toInt ∧ (V 1 3).toInt < 576) ∧ (0 ≤ (V 1 5).toInt ∧ (V 1 5).toInt ≤ 11) ∧ (0 ≤ (V 1 6).toInt ∧ (V 1 6).toInt ≤ 9999) ∧ (0 ≤ (V 1 7).toInt ∧ (V 1 7).toInt ≤ 99) ∧ (0 ≤ (V 1 8).toInt ∧ (V 1 8).toInt ≤ 24) ∧ 0 ≤ (V 1 9).toInt ∧ (V 1 9).toInt ≤ 8) ∧ (∀ c, c < 576 → (V 2 c).toInt = 0 ∨ (V 2 c).toInt = 1) ∧ (∀ j, j < 288 → (-1 ≤ (V 4 j).toInt ∧ (V 4 j).toInt ≤ 7) ∧ 0 ≤ (V 5 j).toInt ∧ (V 5 j).toInt ≤ 99999) ∧ (∀ k, k < 24 → (0 ≤ (V 9 k).toInt ∧ (V 9 k).toInt ≤ 7) ∧ (0 ≤ (V 10 k).toInt ∧ (V 10 k).toInt ≤ 1000) ∧ (0 ≤ (V 11 k).toInt ∧ (V 11 k).toInt ≤ 1000) ∧ (0 ≤ (V 12 k).toInt ∧ (V 12 k).toInt ≤ 4) ∧ (0 ≤ (V 14 k).toInt ∧ (V 14 k).toInt ≤ 1000) ∧ 0 ≤ (V 15 k).toInt ∧ (V 15 k).toInt ≤ 1) ∧ ∀ k, k < 8 → 0 ≤ (V 21 k).toInt ∧ (V 21 k).toInt ≤ 1000
theorem RKv.eq {V W : VW} (h : RKv V) (e : EqV V W) : RKv W := by
  obtain ⟨⟨h1, h2, h3, h4, h5, h6, h7⟩, h8, h9, h10, h11⟩ := h
  have e1 : ∀ k, k < 10 → W 1 k = V 1 k := fun k hk => e 1 k (by decide) (by decide) hk
  refine ⟨?_, fun c hc => ?_, fun j hj => ?_, fun k hk => ?_, fun k hk => ?_⟩
  · rw [e1 4 (by decide), e1 3 (by decide), e1 5 (by decide), e1 6 (by decide), e1 7 (by decide), e1 8 (by decide), e1 9 (by decide)]
    exact ⟨h1, h2, h3, h4, h5, h6, h7⟩
  · rw [e 2 c (by decide) (by decide) hc]; exact h8 c hc
  · rw [e 4 j (by decide) (by decide) hj, e 5 j (by decide) (by decide) hj]; exact h9 j hj
  · rw [e 9 k (by decide) (by decide) hk, e 10 k (by decide) (by decide) hk, e 11 k (by decide) (by decide) hk, e 12 k (by decide) (by decide) hk, e 14 k (by decide) (by decide) hk, e 15 k (by decide) (by decide) hk]; exact h10 k hk
  · rw [e 21 k (by decide) (by decide) hk]; exact h11 k hk
-- yards are laid the same where the tables are
theorem yo_eq {V W : VW} (e : EqV V W) {c n : Nat} (hn : n ≤ 8) : yo W c n = yo V c n := yo_congr (fun k hk => ⟨e 17 k (by decide) (by decide) (show k < 8 by omega), e 18 k (by decide) (by decide) (show k < 8 by omega), e 19 k (by decide) (by decide) (show k < 8 by omega), e 20 k (by decide) (by decide) (show k < 8 by omega)⟩)
-- light sees the same town here and there
theorem twC_ok {b : Nat} {I : MI} (hI : INV I) (h0 : rg b 0 = (0, 24)) (h1 : rg b 1 = (0, 24)) (h4 : ∀ c, rg (b + 4) c = (-1, 7)) (h3 : ∀ c, rg (b + 3) c = (-1, 23)) : TNok (twC b I) := by
  have g0 := hI.get b 0 h0
  have g1 := hI.get b 1 h1
  refine ⟨⟨g0.2, g1.2⟩, fun c _ => ?_, fun c _ => ?_⟩
  · have := hI.get (b + 4) c (h4 c)
    show -1 ≤ (I (b + 4) c).toInt ∧ (I (b + 4) c).toInt < 8
    omega
  · have := hI.get (b + 3) c (h3 c)
    show -1 ≤ (I (b + 3) c).toInt ∧ (I (b + 3) c).toInt < 24
    omega
theorem RKv.mok {V : VW} {J : MI} (h : RKv V) (e : EqV V (live J)) (h1 : (J 1001 0).toInt = 1) (h59 : (J 1000 59).toInt = 0) : MOK J := by
  have hk := h.eq e
  obtain ⟨⟨a1, a2, a3, a4, a5, a6, a7⟩, a8, a9, a10, a11⟩ := hk
  exact ⟨h1, h59, a2, ⟨a1, a8, a11, fun k hk => ⟨(a10 k hk).2.1, (a10 k hk).2.2.2.2.1, (a10 k hk).2.2.1, (a10 k hk).1⟩⟩, a9⟩
