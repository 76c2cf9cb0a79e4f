def CWL (ns : List Nat) (G : MG) (c : Nat) : Prop := c ≤ 6 ∧ G 0 13 = 200 + 10 * c ∧ (∀ j, j ≤ c → LOK ns G (200 + 10 * j)) ∧ (∀ j, j < c → G 2 j = 200 + 10 * j) ∧ ∀ j, c < j → j ≤ 6 → ∀ i, i < 6 → 200 + 10 * j + i ∉ ns
def CWI (ns : List Nat) (G : MG) : Prop := ∀ k, k < 4 → (G 1 k = 0 ∧ ∀ i, i < 9 → 120 + 10 * k + i ∉ ns) ∨ (G 1 k = 120 + 10 * k ∧ TOK ns G (120 + 10 * k))
def CW (ns : List Nat) (I : MI) (G : MG) : Prop := SGC ns G ∧ CWI ns G ∧ ∃ c : Nat, (I 0 14).toInt = c ∧ CWL ns G c
theorem CWI.ims {ns : List Nat} {G : MG} (h : CWI ns G) : IMS ns G := fun k hk => by
  rcases h k hk with ⟨h1, -⟩ | h1
  · exact Or.inl h1
  · exact Or.inr h1
theorem CW.lws {ns : List Nat} {I : MI} {G : MG} (h : CW ns I G) : LWS ns I G := by
  obtain ⟨-, -, c, hc, hl⟩ := h
  intro k hk
  exact ⟨_, rfl, by rw [hl.2.2.2.1 k (by omega)]; exact hl.2.2.1 k (by omega)⟩
theorem lB_j {j : Nat} (h : j ≤ 6) : 200 + 10 * j ∈ lB := by
  have : j = 0 ∨ j = 1 ∨ j = 2 ∨ j = 3 ∨ j = 4 ∨ j = 5 ∨ j = 6 := by omega
  rcases this with rfl | rfl | rfl | rfl | rfl | rfl | rfl <;> decide
theorem tB_k {k : Nat} (h : k < 4) : 120 + 10 * k ∈ tB := by
  have : k = 0 ∨ k = 1 ∨ k = 2 ∨ k = 3 := by omega
  rcases this with rfl | rfl | rfl | rfl <;> decide
theorem feC_r : ∀ t ∈ feC, t.1 < 200 ∧ ¬ (t.1 = 70 ∧ t.2.1 = 13) ∧ ¬ t.1 = 2 ∧ ¬ (t.1 = 0 ∧ t.2.1 = 13) ∧ ¬ t.1 = 1 ∧ (t.1 < 120) := by decide
theorem cw_70 {ns : List Nat} {I I2 : MI} {G : MG} {w : Nat} (h : CW ns I G) (hi : I2 0 14 = I 0 14) : CW ns I2 (u2 G 70 13 w) := by
  obtain ⟨hG, hi', c, hc, h1, h2, h3, h4, h5⟩ := h
  have e : ∀ n k, ¬ n = 70 → u2 G 70 13 w n k = G n k := fun n k hn => by rw [u2_ne G 13 w hn]
  refine ⟨sgc_put hG rfl, fun k hk => ?_, c, by rw [hi]; exact hc, h1, by rw [e 0 13 (by decide)]; exact h2, fun j hj => lok_put (h3 j hj) (by decide), fun j hj => by rw [e 2 j (by decide)]; exact h4 j hj, h5⟩
  rcases hi' k hk with ⟨a, b⟩ | ⟨a, b⟩
  · exact Or.inl ⟨by rw [e 1 k (by decide)]; exact a, b⟩
  · refine Or.inr ⟨by rw [e 1 k (by decide)]; exact a, b.1, b.2.1, fun j hj => ?_⟩
    rw [e _ _ (by omega)]
    exact b.2.2 j hj
theorem cw_keep {ns : List Nat} {I I2 : MI} {G : MG} (h : CW ns I G) (hi : I2 0 14 = I 0 14) : CW ns I2 G := by
  obtain ⟨hG, hi', c, hc, h1⟩ := h
  exact ⟨hG, hi', c, by rw [hi]; exact hc, h1⟩
theorem cw_law {ns ns2 : List Nat} {I I2 : MI} {G G2 : MG} {c v : Nat} (hv : v = 200 + 10 * (c + 1)) (hc6 : c < 6) (hG : SGC ns G) (hI : CWI ns G) (hl : CWL ns G c) (hi : (I2 0 14).toInt = ((c + 1 : Nat) : Int))
    (ha : ∀ n k, ¬ (n = 70 ∧ k = 13) → ¬ (n = 2 ∧ k = c) → ¬ (n = 0 ∧ k = 13) → n ≠ v → G2 n k = G n k) (hb1 : G2 0 13 = v) (hb2 : G2 2 c = 200 + 10 * c) (hb3 : ∀ k, k < 5 → G2 v k = v + 1 + k) (hn : ∀ x, x ∈ ns2 ↔ x ∈ ns ∨ (v ≤ x ∧ x < v + 6)) : CW ns2 I2 G2 := by
  obtain ⟨h1, h2, h3, h4, h5⟩ := hl
  refine ⟨⟨fun n hn' => (hn n).mpr (Or.inl (hG.1 n hn')), fun t ht => ?_⟩, fun k hk => ?_, c + 1, hi, by omega, by rw [hb1, hv], fun j hj => ?_, fun j hj => ?_, fun j hj hj6 i hi' => ?_⟩
  · obtain ⟨f1, f2, f3, f4, -, -⟩ := feC_r t ht
    rw [ha _ _ f2 (fun h => f3 h.1) f4 (by omega)]
    exact hG.2 t ht
  · rcases hI k hk with ⟨a, b⟩ | ⟨a, b⟩
    · refine Or.inl ⟨by rw [ha 1 k (by omega) (by omega) (by omega) (by omega)]; exact a, fun i hi' hx => ?_⟩
      rcases (hn _).mp hx with hx | hx
      · exact b i hi' hx
      · omega
    · refine Or.inr ⟨by rw [ha 1 k (by omega) (by omega) (by omega) (by omega)]; exact a, b.1, fun j hj => (hn _).mpr (Or.inl (b.2.1 j hj)), fun j hj => ?_⟩
      rw [ha _ _ (by omega) (by omega) (by omega) (by omega)]
      exact b.2.2 j hj
  · by_cases hjc : j = c + 1
    · subst hjc
      rw [← hv]
      exact ⟨by rw [hv]; exact lB_j (by omega), fun k hk => (hn _).mpr (Or.inr (by omega)), fun k hk => hb3 k hk⟩
    · have h6 := h3 j (by omega)
      refine ⟨h6.1, fun k hk => (hn _).mpr (Or.inl (h6.2.1 k hk)), fun k hk => ?_⟩
      rw [ha _ _ (by omega) (by omega) (by omega) (by omega)]
      exact h6.2.2 k hk
  · by_cases hjc : j = c
    · subst hjc
      exact hb2
    · rw [ha 2 j (by omega) (by omega) (by omega) (by omega)]
      exact h4 j (by omega)
  · intro hx
    rcases (hn _).mp hx with hx | hx
    · exact h5 j (by omega) hj6 i hi' hx
    · omega
theorem cw_img {ns ns2 : List Nat} {I I2 : MI} {G G2 : MG} {kk b : Nat} (hb : b = 120 + 10 * kk) (hk4 : kk < 4) (h : CW ns I G) (hi : I2 0 14 = I 0 14)
    (ha : ∀ n k, ¬ (n = 1 ∧ k = kk) → n ≠ b → G2 n k = G n k) (hb1 : G2 1 kk = b) (hb3 : ∀ k, k < 8 → G2 b (10 + k) = b + 1 + k) (hn : ∀ x, x ∈ ns2 ↔ x ∈ ns ∨ (b ≤ x ∧ x < b + 9)) : CW ns2 I2 G2 := by
  obtain ⟨hG, hI, c, hc, h1, h2, h3, h4, h5⟩ := h
  refine ⟨⟨fun n hn' => (hn n).mpr (Or.inl (hG.1 n hn')), fun t ht => ?_⟩, fun k hk => ?_, c, by rw [hi]; exact hc, h1, by rw [ha 0 13 (by omega) (by omega)]; exact h2, fun j hj => ?_, fun j hj => by rw [ha 2 j (by omega) (by omega)]; exact h4 j hj, fun j hj hj6 i hi' => ?_⟩
  · obtain ⟨f1, f2, f3, f4, f5, f6⟩ := feC_r t ht
    rw [ha _ _ (fun h => f5 h.1) (by omega)]
    exact hG.2 t ht
  · by_cases hkk : k = kk
    · subst hkk
      rw [← hb]
      exact Or.inr ⟨hb1, by rw [hb]; exact tB_k hk, fun j hj => (hn _).mpr (Or.inr (by omega)), fun j hj => hb3 j hj⟩
    · rcases hI k hk with ⟨a, b'⟩ | ⟨a, b'⟩
      · refine Or.inl ⟨by rw [ha 1 k (by omega) (by omega)]; exact a, fun i hi' hx => ?_⟩
        rcases (hn _).mp hx with hx | hx
        · exact b' i hi' hx
        · omega
      · refine Or.inr ⟨by rw [ha 1 k (by omega) (by omega)]; exact a, b'.1, fun j hj => (hn _).mpr (Or.inl (b'.2.1 j hj)), fun j hj => ?_⟩
        rw [ha _ _ (by omega) (by omega)]
        exact b'.2.2 j hj
  · have h6 := h3 j (by omega)
    refine ⟨h6.1, fun k hk => (hn _).mpr (Or.inl (h6.2.1 k hk)), fun k hk => ?_⟩
    rw [ha _ _ (by omega) (by omega)]
    exact h6.2.2 k hk
  · intro hx
    rcases (hn _).mp hx with hx | hx
    · exact h5 j (by omega) hj6 i hi' hx
    · omega
def Ext (ns : List Nat) (ad : Nat → Nat) (ns2 : List Nat) (ad2 : Nat → Nat) : Prop := ∀ x ∈ ns, x ∈ ns2 ∧ ad2 x = ad x
theorem Ext.rf {ns : List Nat} {ad : Nat → Nat} : Ext ns ad ns ad := fun _ h => ⟨h, rfl⟩
theorem nin1 {ns : List Nat} {x v : Nat} (h : x ∉ ns) (hv : x ≠ v) : x ∉ ns ++ [v] := by
  simp [h, hv]
theorem Kp.out {R P : List (Nat × Nat)} {I I2 : MI} (h : Kp R P I I2) (hR : (R.all (fun r => decide (r.2 ≤ 1000)) && P.all (fun q => decide (q.1 < 1000))) = true) : ∀ n, 1000 ≤ n → I2 n = I n := by
  intro n hn
  simp only [Bool.and_eq_true, List.all_eq_true, decide_eq_true_eq] at hR
  funext k
  refine h n k ?_ ?_
  · cases hq : inR R n with
    | false => rfl
    | true =>
      exfalso
      obtain ⟨r, hr, hb⟩ := List.any_eq_true.mp hq
      have h1 := hR.1 r hr
      simp at hb
      omega
  · cases hq : P.contains (n, k) with
    | false => rfl
    | true =>
      exfalso
      have h3 : (n, k) ∈ P := by simpa using hq
      have h1 := hR.2 (n, k) h3
      simp at h1
      omega
theorem sgc_putn {ns : List Nat} {G : MG} {n k g : Nat} (h : SGC ns G) (hf : ∀ t ∈ feC, t.1 ≠ n) : SGC ns (u2 G n k g) := by
  refine ⟨h.1, fun t ht => ?_⟩
  rw [u2_ne G k g (hf t ht)]
  exact h.2 t ht
theorem dX9_law_0 : decode cX9_law 0 = .ok (.aload_n 0, 1) := by decide +kernel
theorem dX9_law_1 : decode cX9_law 1 = .ok (.getfield 179, 3) := by decide +kernel
theorem dX9_law_4 : decode cX9_law 4 = .ok (.bipush 6, 2) := by decide +kernel
theorem dX9_law_6 : decode cX9_law 6 = .ok (.if_icmp .lt 5, 3) := by decide +kernel
theorem dX9_law_9 : decode cX9_law 9 = .ok (.iconst (-1), 1) := by decide +kernel
theorem dX9_law_10 : decode cX9_law 10 = .ok (.ireturn, 1) := by decide +kernel
theorem dX9_law_11 : decode cX9_law 11 = .ok (.aload_n 0, 1) := by decide +kernel
theorem dX9_law_12 : decode cX9_law 12 = .ok (.getfield 72, 3) := by decide +kernel
theorem dX9_law_15 : decode cX9_law 15 = .ok (.aload_n 0, 1) := by decide +kernel
theorem dX9_law_16 : decode cX9_law 16 = .ok (.getfield 82, 3) := by decide +kernel
theorem dX9_law_19 : decode cX9_law 19 = .ok (.aload_n 0, 1) := by decide +kernel
theorem dX9_law_20 : decode cX9_law 20 = .ok (.getfield 172, 3) := by decide +kernel
theorem dX9_law_23 : decode cX9_law 23 = .ok (.aload_n 0, 1) := by decide +kernel
theorem dX9_law_24 : decode cX9_law 24 = .ok (.getfield 91, 3) := by decide +kernel
theorem dX9_law_27 : decode cX9_law 27 = .ok (.invokevirtual 182, 3) := by decide +kernel
theorem dX9_law_30 : decode cX9_law 30 = .ok (.istore_n 1, 1) := by decide +kernel
theorem dX9_law_31 : decode cX9_law 31 = .ok (.aload_n 0, 1) := by decide +kernel
theorem dX9_law_32 : decode cX9_law 32 = .ok (.iconst 0, 1) := by decide +kernel
theorem dX9_law_33 : decode cX9_law 33 = .ok (.putfield 172, 3) := by decide +kernel
theorem dX9_law_36 : decode cX9_law 36 = .ok (.iload_n 1, 1) := by decide +kernel
theorem dX9_law_37 : decode cX9_law 37 = .ok (.ifCond .eq 8, 3) := by decide +kernel
theorem dX9_law_40 : decode cX9_law 40 = .ok (.bipush (-2), 2) := by decide +kernel
theorem dX9_law_42 : decode cX9_law 42 = .ok (.iload_n 1, 1) := by decide +kernel
theorem dX9_law_43 : decode cX9_law 43 = .ok (.isub, 1) := by decide +kernel
theorem dX9_law_44 : decode cX9_law 44 = .ok (.ireturn, 1) := by decide +kernel
theorem dX9_law_45 : decode cX9_law 45 = .ok (.aload_n 0, 1) := by decide +kernel
theorem dX9_law_46 : decode cX9_law 46 = .ok (.getfield 78, 3) := by decide +kernel
theorem dX9_law_49 : decode cX9_law 49 = .ok (.aload_n 0, 1) := by decide +kernel
theorem dX9_law_50 : decode cX9_law 50 = .ok (.getfield 179, 3) := by decide +kernel
theorem dX9_law_53 : decode cX9_law 53 = .ok (.aload_n 0, 1) := by decide +kernel
theorem dX9_law_54 : decode cX9_law 54 = .ok (.getfield 91, 3) := by decide +kernel
theorem dX9_law_57 : decode cX9_law 57 = .ok (.aastore, 1) := by decide +kernel
theorem dX9_law_58 : decode cX9_law 58 = .ok (.aload_n 0, 1) := by decide +kernel
theorem dX9_law_59 : decode cX9_law 59 = .ok (.new 76, 3) := by decide +kernel
theorem dX9_law_62 : decode cX9_law 62 = .ok (.dup, 1) := by decide +kernel
theorem dX9_law_63 : decode cX9_law 63 = .ok (.invokespecial 90, 3) := by decide +kernel
theorem dX9_law_66 : decode cX9_law 66 = .ok (.putfield 91, 3) := by decide +kernel
theorem dX9_law_69 : decode cX9_law 69 = .ok (.aload_n 0, 1) := by decide +kernel
theorem dX9_law_70 : decode cX9_law 70 = .ok (.dup, 1) := by decide +kernel
theorem dX9_law_71 : decode cX9_law 71 = .ok (.getfield 179, 3) := by decide +kernel
theorem dX9_law_74 : decode cX9_law 74 = .ok (.iconst 1, 1) := by decide +kernel
theorem dX9_law_75 : decode cX9_law 75 = .ok (.iadd, 1) := by decide +kernel
theorem dX9_law_76 : decode cX9_law 76 = .ok (.putfield 179, 3) := by decide +kernel
theorem dX9_law_79 : decode cX9_law 79 = .ok (.aload_n 0, 1) := by decide +kernel
theorem dX9_law_80 : decode cX9_law 80 = .ok (.getfield 179, 3) := by decide +kernel
theorem dX9_law_83 : decode cX9_law 83 = .ok (.iconst 1, 1) := by decide +kernel
theorem dX9_law_84 : decode cX9_law 84 = .ok (.isub, 1) := by decide +kernel
theorem dX9_law_85 : decode cX9_law 85 = .ok (.ireturn, 1) := by decide +kernel
theorem ce_X9_law : CeV RX9 yX9_law cX9_law 2 (some .int) 0 := ⟨tb_559, tb_560, tb_1, tb_561, rfl, by decide, by decide, by decide +kernel⟩
theorem dX9_image_0 : decode cX9_image 0 = .ok (.iload_n 1, 1) := by decide +kernel
theorem dX9_image_1 : decode cX9_image 1 = .ok (.iconst 0, 1) := by decide +kernel
theorem dX9_image_2 : decode cX9_image 2 = .ok (.iconst 3, 1) := by decide +kernel
theorem dX9_image_3 : decode cX9_image 3 = .ok (.invokestatic 95, 3) := by decide +kernel
theorem dX9_image_6 : decode cX9_image 6 = .ok (.ifCond .eq 13, 3) := by decide +kernel
theorem dX9_image_9 : decode cX9_image 9 = .ok (.aload_n 0, 1) := by decide +kernel
theorem dX9_image_10 : decode cX9_image 10 = .ok (.getfield 10, 3) := by decide +kernel
theorem dX9_image_13 : decode cX9_image 13 = .ok (.invokevirtual 111, 3) := by decide +kernel
theorem dX9_image_16 : decode cX9_image 16 = .ok (.ifCond .ne 5, 3) := by decide +kernel
theorem dX9_image_19 : decode cX9_image 19 = .ok (.iconst (-1), 1) := by decide +kernel
theorem dX9_image_20 : decode cX9_image 20 = .ok (.ireturn, 1) := by decide +kernel
theorem dX9_image_21 : decode cX9_image 21 = .ok (.aload_n 0, 1) := by decide +kernel
theorem dX9_image_22 : decode cX9_image 22 = .ok (.getfield 19, 3) := by decide +kernel
theorem dX9_image_25 : decode cX9_image 25 = .ok (.iload_n 1, 1) := by decide +kernel
theorem dX9_image_26 : decode cX9_image 26 = .ok (.aaload, 1) := by decide +kernel
theorem dX9_image_27 : decode cX9_image 27 = .ok (.astore_n 2, 1) := by decide +kernel
theorem dX9_image_28 : decode cX9_image 28 = .ok (.aload_n 2, 1) := by decide +kernel
theorem dX9_image_29 : decode cX9_image 29 = .ok (.ifnonnull 18, 3) := by decide +kernel
theorem dX9_image_32 : decode cX9_image 32 = .ok (.new 7, 3) := by decide +kernel
theorem dX9_image_35 : decode cX9_image 35 = .ok (.dup, 1) := by decide +kernel
theorem dX9_image_36 : decode cX9_image 36 = .ok (.invokespecial 9, 3) := by decide +kernel
theorem dX9_image_39 : decode cX9_image 39 = .ok (.astore_n 2, 1) := by decide +kernel
theorem dX9_image_40 : decode cX9_image 40 = .ok (.aload_n 0, 1) := by decide +kernel
theorem dX9_image_41 : decode cX9_image 41 = .ok (.getfield 19, 3) := by decide +kernel
theorem dX9_image_44 : decode cX9_image 44 = .ok (.iload_n 1, 1) := by decide +kernel
theorem dX9_image_45 : decode cX9_image 45 = .ok (.aload_n 2, 1) := by decide +kernel
theorem dX9_image_46 : decode cX9_image 46 = .ok (.aastore, 1) := by decide +kernel
theorem dX9_image_47 : decode cX9_image 47 = .ok (.aload_n 2, 1) := by decide +kernel
theorem dX9_image_48 : decode cX9_image 48 = .ok (.aload_n 0, 1) := by decide +kernel
theorem dX9_image_49 : decode cX9_image 49 = .ok (.getfield 10, 3) := by decide +kernel
theorem dX9_image_52 : decode cX9_image 52 = .ok (.invokevirtual 320, 3) := by decide +kernel
theorem dX9_image_55 : decode cX9_image 55 = .ok (.aload_n 0, 1) := by decide +kernel
theorem dX9_image_56 : decode cX9_image 56 = .ok (.getfield 10, 3) := by decide +kernel
theorem dX9_image_59 : decode cX9_image 59 = .ok (.getfield 190, 3) := by decide +kernel
theorem dX9_image_62 : decode cX9_image 62 = .ok (.ireturn, 1) := by decide +kernel
theorem ce_X9_image : CeV RX9 yX9_image cX9_image 3 (some .int) 1 := ⟨tb_1165, tb_1166, tb_1, tb_1167, rfl, by decide, by decide, by decide +kernel⟩
