-- towns that are put back as they were
def KV (b : Nat) (I I2 : MI) : Prop := EqV (cF b I) (cF b I2)
theorem cF_u {b n k : Nat} {I : MI} {v : Int32} (h : n < b ∨ b + 9 ≤ n) : cF b (u2 I n k v) = cF b I := cF_kp (fun m h1 h2 => u2_ne _ _ _ (by omega))
theorem EqV.nx {V : VW} {b n k : Nat} {I : MI} {v : Int32} (h : EqV V (cF b I)) (hn : n < b ∨ b + 9 ≤ n) : EqV V (cF b (u2 I n k v)) := by rw [cF_u hn]; exact h
theorem EqV.nk {R P : List (Nat × Nat)} {V : VW} {b : Nat} {I I2 : MI} (h : EqV V (cF b I)) (hK : Kp R P I I2) (hc : apb b R P = true) : EqV V (cF b I2) := by rw [cF_fr hK hc]; exact h
theorem EqV.bk {V W : VW} {n k : Nat} {v w : Int32} (h : EqV (stV (stV V n k v) n k w) W) (e : w = V n k) : EqV V W := by
  rw [stV_two, stV_same e] at h
  exact h
theorem EqV.bk2 {V W : VW} {n k m j : Nat} {v w x y : Int32} (h : EqV (stV (stV (stV (stV V n k v) m j w) n k x) m j y) W) (e : x = V n k) (e2 : y = V m j) : EqV V W := by
  have : stV (stV (stV (stV V n k v) m j w) n k x) m j y = V := by
    funext p q
    unfold stV
    by_cases h1 : p = m ∧ q = j
    · rw [if_pos h1, e2, h1.1, h1.2]
    · rw [if_neg h1]
      by_cases h2 : p = n ∧ q = k
      · rw [if_pos h2, e, h2.1, h2.2]
      · rw [if_neg h2, if_neg h1, if_neg h2]
  rw [this] at h
  exact h
-- one place of a table that is tried with other numbers
def TRY1 (b n k : Nat) (I J : MI) : Prop := ∃ d, EqV (stV (cF b I) n k d) (cF b J)
theorem TRY1.rf {b n k : Nat} {I : MI} : TRY1 b n k I I := ⟨cF b I n k, by rw [stV_same rfl]; exact EqV.rf⟩
theorem TRY1.step {b n k : Nat} {I J J2 : MI} {d : Int32} (h : TRY1 b n k I J) (h2 : EqV (stV (cF b J) n k d) (cF b J2)) : TRY1 b n k I J2 := by
  obtain ⟨e, he⟩ := h
  refine ⟨d, ?_⟩
  have := he.st h2
  rw [stV_two] at this
  exact this
theorem TRY1.nk {R P : List (Nat × Nat)} {b n k : Nat} {I J J2 : MI} (h : TRY1 b n k I J) (hK : Kp R P J J2) (hc : apb b R P = true) : TRY1 b n k I J2 := by
  obtain ⟨e, he⟩ := h
  exact ⟨e, he.nk hK hc⟩
theorem TRY1.tr {b n k : Nat} {I J J2 : MI} (h : TRY1 b n k I J) (h2 : TRY1 b n k J J2) : TRY1 b n k I J2 := by
  obtain ⟨e, he⟩ := h2
  exact h.step he
theorem TRY1.fin {b n k : Nat} {I J J2 : MI} {d : Int32} (h : TRY1 b n k I J) (h2 : EqV (stV (cF b J) n k d) (cF b J2)) (e : d = cF b I n k) : KV b I J2 := by
  obtain ⟨x, hx⟩ := h
  exact (hx.st h2).bk e
-- two places
def TRY2 (b n k j : Nat) (I J : MI) : Prop := ∃ d e, EqV (stV (stV (cF b I) n k d) n j e) (cF b J)
theorem TRY2.rf {b n k j : Nat} {I : MI} : TRY2 b n k j I I := ⟨cF b I n k, cF b I n j, by rw [stV_same (V := cF b I) rfl, stV_same rfl]; exact EqV.rf⟩
theorem TRY2.step {b n k j : Nat} {I J J2 : MI} {d e : Int32} (h : TRY2 b n k j I J) (h2 : EqV (stV (stV (cF b J) n k d) n j e) (cF b J2)) : TRY2 b n k j I J2 := by
  obtain ⟨x, y, hx⟩ := h
  refine ⟨d, e, ?_⟩
  have hh := (stV_eq (stV_eq hx n k d) n j e).tr h2
  have : stV (stV (stV (stV (cF b I) n k x) n j y) n k d) n j e = stV (stV (cF b I) n k d) n j e := by
    funext p q
    unfold stV
    by_cases h1 : p = n ∧ q = j
    · simp only [if_pos h1]
    · by_cases h2 : p = n ∧ q = k
      · simp only [if_neg h1, if_pos h2]
      · simp only [if_neg h1, if_neg h2]
  rw [this] at hh
  exact hh
theorem TRY2.nk {R P : List (Nat × Nat)} {b n k j : Nat} {I J J2 : MI} (h : TRY2 b n k j I J) (hK : Kp R P J J2) (hc : apb b R P = true) : TRY2 b n k j I J2 := by
  obtain ⟨x, y, hx⟩ := h
  exact ⟨x, y, hx.nk hK hc⟩
theorem TRY2.fin {b n k j : Nat} {I J J2 : MI} {d e : Int32} (h : TRY2 b n k j I J) (h2 : EqV (stV (stV (cF b J) n k d) n j e) (cF b J2)) (hd : d = cF b I n k) (he : e = cF b I n j) : KV b I J2 := by
  obtain ⟨x, y, hx⟩ := h
  exact ((stV_eq (stV_eq hx n k d) n j e).tr h2).bk2 hd he
-- the gap and the sun of one hour are moved
def GAPK (i : Nat) (I J : MI) : Prop := (∀ n, 100 ≤ n → n < 109 → n ≠ 100 → n ≠ 105 → J n = I n) ∧ (∀ k, k ≠ 2 → k ≠ 3 → J 100 k = I 100 k) ∧ ∀ j, j ≠ i → J 105 j = I 105 j
theorem GAPK.fin {i : Nat} {I J : MI} (h : GAPK i I J) (h2 : J 100 2 = I 100 2) (h3 : J 100 3 = I 100 3) (h5 : J 105 i = I 105 i) : KV 100 I J := by
  have e : cF 100 J = cF 100 I := cF_kp (fun n a b => by
    by_cases hq : n = 100
    · subst hq
      funext k
      by_cases g2 : k = 2
      · rw [g2]; exact h2
      by_cases g3 : k = 3
      · rw [g3]; exact h3
      exact h.2.1 k g2 g3
    by_cases hq5 : n = 105
    · subst hq5
      funext k
      by_cases g2 : k = i
      · rw [g2]; exact h5
      exact h.2.2 k g2
    exact h.1 n a (by omega) hq hq5)
  unfold KV
  rw [e]
  exact EqV.rf
theorem GAPK.rf {i : Nat} {I : MI} : GAPK i I I := ⟨fun _ _ _ _ _ => rfl, fun _ _ _ => rfl, fun _ _ => rfl⟩
theorem GAPK.tr {i : Nat} {I J K : MI} (h : GAPK i I J) (h2 : GAPK i J K) : GAPK i I K := ⟨fun n a b c d => (h2.1 n a b c d).trans (h.1 n a b c d), fun k a b => (h2.2.1 k a b).trans (h.2.1 k a b), fun j a => (h2.2.2 j a).trans (h.2.2 j a)⟩
theorem GAPK.nk {R P : List (Nat × Nat)} {i : Nat} {I J J2 : MI} (h : GAPK i I J) (hK : Kp R P J J2) (hc : apb 100 R P = true) : GAPK i I J2 := h.tr ⟨fun n a b _ _ => hK.ap hc n a b, fun k _ _ => congrFun (hK.ap hc 100 (by decide) (by decide)) k, fun j _ => congrFun (hK.ap hc 105 (by decide) (by decide)) j⟩
theorem GAPK.nx {i : Nat} {I J : MI} {n k : Nat} {v : Int32} (h : GAPK i I J) (hn : n < 100 ∨ 109 ≤ n) : GAPK i I (u2 J n k v) := h.tr ⟨fun m a b _ _ => u2_ne _ _ _ (by omega), fun k _ _ => by rw [u2_ne _ _ _ (by omega)], fun j _ => by rw [u2_ne _ _ _ (by omega)]⟩
theorem GAPK.gap {i : Nat} {I J : MI} {k : Nat} {v : Int32} (h : GAPK i I J) (hk : k = 2 ∨ k = 3) : GAPK i I (u2 J 100 k v) := h.tr ⟨fun m a b c _ => u2_ne _ _ _ c, fun j a b => by rw [u2_v, if_neg (by omega)], fun j _ => by rw [u2_ne _ _ _ (by decide)]⟩
theorem GAPK.way {i : Nat} {I J : MI} {v : Int32} (h : GAPK i I J) : GAPK i I (u2 J 105 i v) := h.tr ⟨fun m a b _ d => u2_ne _ _ _ d, fun j _ _ => by rw [u2_ne _ _ _ (by decide)], fun j hj => by rw [u2_v, if_neg (by omega)]⟩
