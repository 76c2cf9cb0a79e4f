def CWL (ns : List Nat) (G : MG) (c : Nat) : Prop := c ≤ 6 ∧ G 0 13 = 200 + 10 * c ∧ (∀ j, j ≤ c → LOK ns G (200 + 10 * j)) ∧ (∀ j, j < c → G 2 j = 200 + 10 * j) ∧ ∀ j, c < j → j ≤ 6 → ∀ i, i < 6 → 200 + 10 * j + i ∉ ns
def CWI (ns : List Nat) (G : MG) : Prop := ∀ k, k < 4 → (G 1 k = 0 ∧ ∀ i, i < 9 → 120 + 10 * k + i ∉ ns) ∨ (G 1 k = 120 + 10 * k ∧ TOK ns G (120 + 10 * k))
def CW (ns : List Nat) (I : MI) (G : MG) : Prop := SGC ns G ∧ CWI ns G ∧ ∃ c : Nat, (I 0 14).toInt = c ∧ CWL ns G c
theorem CWI.ims {ns : List Nat} {G : MG} (h : CWI ns G) : IMS ns G := fun k hk => by
  rcases h k hk with ⟨h1, -⟩ | h1
  · exact Or.inl h1
  · exact Or.inr h1
theorem CW.lws {ns : List Nat} {I : MI} {G : MG} (h : CW ns I G) : LWS ns I G := by
  obtain ⟨-, -, c, hc, hl⟩ := h
  intro k hk
  exact ⟨_, rfl, by rw [hl.2.2.2.1 k (by omega)]; exact hl.2.2.1 k (by omega)⟩
theorem lB_j {j : Nat} (h : j ≤ 6) : 200 + 10 * j ∈ lB := by
  have : j = 0 ∨ j = 1 ∨ j = 2 ∨ j = 3 ∨ j = 4 ∨ j = 5 ∨ j = 6 := by omega
  rcases this with rfl | rfl | rfl | rfl | rfl | rfl | rfl <;> decide
theorem tB_k {k : Nat} (h : k < 4) : 120 + 10 * k ∈ tB := by
  have : k = 0 ∨ k = 1 ∨ k = 2 ∨ k = 3 := by omega
  rcases this with rfl | rfl | rfl | rfl <;> decide
theorem feC_r : ∀ t ∈ feC, t.1 < 200 ∧ ¬ (t.1 = 70 ∧ t.2.1 = 13) ∧ ¬ t.1 = 2 ∧ ¬ (t.1 = 0 ∧ t.2.1 = 13) ∧ ¬ t.1 = 1 ∧ (t.1 < 120) := by decide
theorem tB_lt {b : Nat} (h : b ∈ tB) : 100 ≤ b ∧ b ≤ 150 := by
  simp only [tB, List.mem_cons, List.mem_nil_iff, or_false] at h
  omega
theorem lB_lt {b : Nat} (h : b ∈ lB) : 200 ≤ b ∧ b ≤ 260 := by
  simp only [lB, List.mem_cons, List.mem_nil_iff, or_false] at h
  omega
theorem cw_70 {ns : List Nat} {I I2 : MI} {G : MG} {w : Nat} (h : CW ns I G) (hi : I2 0 14 = I 0 14) : CW ns I2 (u2 G 70 13 w) := by
  obtain ⟨hG, hi', c, hc, h1, h2, h3, h4, h5⟩ := h
  have e : ∀ n k, ¬ n = 70 → u2 G 70 13 w n k = G n k := fun n k hn => by rw [u2_ne G 13 w hn]
  refine ⟨sgc_put hG rfl, fun k hk => ?_, c, by rw [hi]; exact hc, h1, by rw [e 0 13 (by decide)]; exact h2, fun j hj => lok_put (h3 j hj) (by decide), fun j hj => by rw [e 2 j (by decide)]; exact h4 j hj, h5⟩
  rcases hi' k hk with ⟨a, b⟩ | ⟨a, b⟩
  · exact Or.inl ⟨by rw [e 1 k (by decide)]; exact a, b⟩
  · refine Or.inr ⟨by rw [e 1 k (by decide)]; exact a, b.1, b.2.1, fun j hj => ?_⟩
    rw [e _ _ (by omega)]
    exact b.2.2 j hj
theorem cw_keep {ns : List Nat} {I I2 : MI} {G : MG} (h : CW ns I G) (hi : I2 0 14 = I 0 14) : CW ns I2 G := by
  obtain ⟨hG, hi', c, hc, h1⟩ := h
  exact ⟨hG, hi', c, by rw [hi]; exact hc, h1⟩
theorem cw_law {ns ns2 : List Nat} {I I2 : MI} {G G2 : MG} {c v : Nat} (hv : v = 200 + 10 * (c + 1)) (hc6 : c < 6) (hG : SGC ns G) (hI : CWI ns G) (hl : CWL ns G c) (hi : (I2 0 14).toInt = ((c + 1 : Nat) : Int))
    (ha : ∀ n k, ¬ (n = 70 ∧ k = 13) → ¬ (n = 2 ∧ k = c) → ¬ (n = 0 ∧ k = 13) → n ≠ v → G2 n k = G n k) (hb1 : G2 0 13 = v) (hb2 : G2 2 c = 200 + 10 * c) (hb3 : ∀ k, k < 5 → G2 v k = v + 1 + k) (hn : ∀ x, x ∈ ns2 ↔ x ∈ ns ∨ (v ≤ x ∧ x < v + 6)) : CW ns2 I2 G2 := by
  obtain ⟨h1, h2, h3, h4, h5⟩ := hl
  refine ⟨⟨fun n hn' => (hn n).mpr (Or.inl (hG.1 n hn')), fun t ht => ?_⟩, fun k hk => ?_, c + 1, hi, by omega, by rw [hb1, hv], fun j hj => ?_, fun j hj => ?_, fun j hj hj6 i hi' => ?_⟩
  · obtain ⟨f1, f2, f3, f4, -, -⟩ := feC_r t ht
    rw [ha _ _ f2 (fun h => f3 h.1) f4 (by omega)]
    exact hG.2 t ht
  · rcases hI k hk with ⟨a, b⟩ | ⟨a, b⟩
    · refine Or.inl ⟨by rw [ha 1 k (by omega) (by omega) (by omega) (by omega)]; exact a, fun i hi' hx => ?_⟩
      rcases (hn _).mp hx with hx | hx
      · exact b i hi' hx
      · omega
    · refine Or.inr ⟨by rw [ha 1 k (by omega) (by omega) (by omega) (by omega)]; exact a, b.1, fun j hj => (hn _).mpr (Or.inl (b.2.1 j hj)), fun j hj => ?_⟩
      rw [ha _ _ (by omega) (by omega) (by omega) (by omega)]
      exact b.2.2 j hj
  · by_cases hjc : j = c + 1
    · subst hjc
      rw [← hv]
      exact ⟨by rw [hv]; exact lB_j (by omega), fun k hk => (hn _).mpr (Or.inr (by omega)), fun k hk => hb3 k hk⟩
    · have h6 := h3 j (by omega)
      refine ⟨h6.1, fun k hk => (hn _).mpr (Or.inl (h6.2.1 k hk)), fun k hk => ?_⟩
      rw [ha _ _ (by omega) (by omega) (by omega) (by omega)]
      exact h6.2.2 k hk
  · by_cases hjc : j = c
    · subst hjc
      exact hb2
    · rw [ha 2 j (by omega) (by omega) (by omega) (by omega)]
      exact h4 j (by omega)
  · intro hx
    rcases (hn _).mp hx with hx | hx
    · exact h5 j (by omega) hj6 i hi' hx
    · omega
theorem cw_img {ns ns2 : List Nat} {I I2 : MI} {G G2 : MG} {kk b : Nat} (hb : b = 120 + 10 * kk) (hk4 : kk < 4) (h : CW ns I G) (hi : I2 0 14 = I 0 14)
    (ha : ∀ n k, ¬ (n = 1 ∧ k = kk) → n ≠ b → G2 n k = G n k) (hb1 : G2 1 kk = b) (hb3 : ∀ k, k < 8 → G2 b (10 + k) = b + 1 + k) (hn : ∀ x, x ∈ ns2 ↔ x ∈ ns ∨ (b ≤ x ∧ x < b + 9)) : CW ns2 I2 G2 := by
  obtain ⟨hG, hI, c, hc, h1, h2, h3, h4, h5⟩ := h
  refine ⟨⟨fun n hn' => (hn n).mpr (Or.inl (hG.1 n hn')), fun t ht => ?_⟩, fun k hk => ?_, c, by rw [hi]; exact hc, h1, by rw [ha 0 13 (by omega) (by omega)]; exact h2, fun j hj => ?_, fun j hj => by rw [ha 2 j (by omega) (by omega)]; exact h4 j hj, fun j hj hj6 i hi' => ?_⟩
  · obtain ⟨f1, f2, f3, f4, f5, f6⟩ := feC_r t ht
    rw [ha _ _ (fun h => f5 h.1) (by omega)]
    exact hG.2 t ht
  · by_cases hkk : k = kk
    · subst hkk
      rw [← hb]
      exact Or.inr ⟨hb1, by rw [hb]; exact tB_k hk, fun j hj => (hn _).mpr (Or.inr (by omega)), fun j hj => hb3 j hj⟩
    · rcases hI k hk with ⟨a, b'⟩ | ⟨a, b'⟩
      · refine Or.inl ⟨by rw [ha 1 k (by omega) (by omega)]; exact a, fun i hi' hx => ?_⟩
        rcases (hn _).mp hx with hx | hx
        · exact b' i hi' hx
        · omega
      · refine Or.inr ⟨by rw [ha 1 k (by omega) (by omega)]; exact a, b'.1, fun j hj => (hn _).mpr (Or.inl (b'.2.1 j hj)), fun j hj => ?_⟩
        rw [ha _ _ (by omega) (by omega)]
        exact b'.2.2 j hj
  · have h6 := h3 j (by omega)
    refine ⟨h6.1, fun k hk => (hn _).mpr (Or.inl (h6.2.1 k hk)), fun k hk => ?_⟩
    rw [ha _ _ (by omega) (by omega)]
    exact h6.2.2 k hk
  · intro hx
    rcases (hn _).mp hx with hx | hx
    · exact h5 j (by omega) hj6 i hi' hx
    · omega
def Ext (ns : List Nat) (ad : Nat → Nat) (ns2 : List Nat) (ad2 : Nat → Nat) : Prop := ∀ x ∈ ns, x ∈ ns2 ∧ ad2 x = ad x
theorem Ext.rf {ns : List Nat} {ad : Nat → Nat} : Ext ns ad ns ad := fun _ h => ⟨h, rfl⟩
theorem nin1 {ns : List Nat} {x v : Nat} (h : x ∉ ns) (hv : x ≠ v) : x ∉ ns ++ [v] := by
  simp [h, hv]
