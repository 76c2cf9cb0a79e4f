def CWL (ns : List Nat) (G : MG) (c : Nat) : Prop := c ≤ 6 ∧ G 0 13 = 200 + 10 * c ∧ (∀ j, j ≤ c → LOK ns G (200 + 10 * j)) ∧ (∀ j, j < c → G 2 j = 200 + 10 * j) ∧ ∀ j, c < j → j ≤ 6 → ∀ i, i < 6 → 200 + 10 * j + i ∉ ns
def CWI (ns : List Nat) (G : MG) : Prop := ∀ k, k < 4 → (G 1 k = 0 ∧ ∀ i, i < 9 → 120 + 10 * k + i ∉ ns) ∨ (G 1 k = 120 + 10 * k ∧ TOK ns G (120 + 10 * k))
def CW (ns : List Nat) (I : MI) (G : MG) : Prop := SGC ns G ∧ CWI ns G ∧ ∃ c : Nat, (I 0 14).toInt = c ∧ CWL ns G c
theorem CWI.ims {ns : List Nat} {G : MG} (h : CWI ns G) : IMS ns G := fun k hk => by
  rcases h k hk with ⟨h1, -⟩ | h1
  · exact Or.inl h1
  · exact Or.inr h1
theorem CW.lws {ns : List Nat} {I : MI} {G : MG} (h : CW ns I G) : LWS ns I G := by
  obtain ⟨-, -, c, hc, hl⟩ := h
  intro k hk
  exact ⟨_, rfl, by rw [hl.2.2.2.1 k (by omega)]; exact hl.2.2.1 k (by omega)⟩
theorem lB_j {j : Nat} (h : j ≤ 6) : 200 + 10 * j ∈ lB := by
  have : j = 0 ∨ j = 1 ∨ j = 2 ∨ j = 3 ∨ j = 4 ∨ j = 5 ∨ j = 6 := by omega
  rcases this with rfl | rfl | rfl | rfl | rfl | rfl | rfl <;> decide
theorem tB_k {k : Nat} (h : k < 4) : 120 + 10 * k ∈ tB := by
  have : k = 0 ∨ k = 1 ∨ k = 2 ∨ k = 3 := by omega
  rcases this with rfl | rfl | rfl | rfl <;> decide
theorem feC_r : ∀ t ∈ feC, t.1 < 200 ∧ ¬ (t.1 = 70 ∧ t.2.1 = 13) ∧ ¬ t.1 = 2 ∧ ¬ (t.1 = 0 ∧ t.2.1 = 13) ∧ ¬ t.1 = 1 ∧ (t.1 < 120) := by decide
theorem tB_lt {b : Nat} (h : b ∈ tB) : 100 ≤ b ∧ b ≤ 150 := by
  simp only [tB, List.mem_cons, List.mem_nil_iff, or_false] at h
  omega
theorem lB_lt {b : Nat} (h : b ∈ lB) : 200 ≤ b ∧ b ≤ 260 := by
  simp only [lB, List.mem_cons, List.mem_nil_iff, or_false] at h
  omega
theorem cw_70 {ns : List Nat} {I I2 : MI} {G : MG} {w : Nat} (h : CW ns I G) (hi : I2 0 14 = I 0 14) : CW ns I2 (u2 G 70 13 w) := by
  obtain ⟨hG, hi', c, hc, h1, h2, h3, h4, h5⟩ := h
  have e : ∀ n k, ¬ n = 70 → u2 G 70 13 w n k = G n k := fun n k hn => by rw [u2_ne G 13 w hn]
  refine ⟨sgc_put hG rfl, fun k hk => ?_, c, by rw [hi]; exact hc, h1, by rw [e 0 13 (by decide)]; exact h2, fun j hj => lok_put (h3 j hj) (by decide), fun j hj => by rw [e 2 j (by decide)]; exact h4 j hj, h5⟩
  rcases hi' k hk with ⟨a, b⟩ | ⟨a, b⟩
  · exact Or.inl ⟨by rw [e 1 k (by decide)]; exact a, b⟩
  · refine Or.inr ⟨by rw [e 1 k (by decide)]; exact a, b.1, b.2.1, fun j hj => ?_⟩
    rw [e _ _ (by omega)]
    exact b.2.2 j hj
theorem cw_keep {ns : List Nat} {I I2 : MI} {G : MG} (h : CW ns I G) (hi : I2 0 14 = I 0 14) : CW ns I2 G := by
  obtain ⟨hG, hi', c, hc, h1⟩ := h
  exact ⟨hG, hi', c, by rw [hi]; exact hc, h1⟩
theorem cw_law {ns ns2 : List Nat} {I I2 : MI} {G G2 : MG} {c v : Nat} (hv : v = 200 + 10 * (c + 1)) (hc6 : c < 6) (hG : SGC ns G) (hI : CWI ns G) (hl : CWL ns G c) (hi : (I2 0 14).toInt = ((c + 1 : Nat) : Int))
    (ha : ∀ n k, ¬ (n = 70 ∧ k = 13) → ¬ (n = 2 ∧ k = c) → ¬ (n = 0 ∧ k = 13) → n ≠ v → G2 n k = G n k) (hb1 : G2 0 13 = v) (hb2 : G2 2 c = 200 + 10 * c) (hb3 : ∀ k, k < 5 → G2 v k = v + 1 + k) (hn : ∀ x, x ∈ ns2 ↔ x ∈ ns ∨ (v ≤ x ∧ x < v + 6)) : CW ns2 I2 G2 := by
  obtain ⟨h1, h2, h3, h4, h5⟩ := hl
  refine ⟨⟨fun n hn' => (hn n).mpr (Or.inl (hG.1 n hn')), fun t ht => ?_⟩, fun k hk => ?_, c + 1, hi, by omega, by rw [hb1, hv], fun j hj => ?_, fun j hj => ?_, fun j hj hj6 i hi' => ?_⟩
  · obtain ⟨f1, f2, f3, f4, -, -⟩ := feC_r t ht
    rw [ha _ _ f2 (fun h => f3 h.1) f4 (by omega)]
    exact hG.2 t ht
  · rcases hI k hk with ⟨a, b⟩ | ⟨a, b⟩
    · refine Or.inl ⟨by rw [ha 1 k (by omega) (by omega) (by omega) (by omega)]; exact a, fun i hi' hx => ?_⟩
      rcases (hn _).mp hx with hx | hx
      · exact b i hi' hx
      · omega
    · refine Or.inr ⟨by rw [ha 1 k (by omega) (by omega) (by omega) (by omega)]; exact a, b.1, fun j hj => (hn _).mpr (Or.inl (b.2.1 j hj)), fun j hj => ?_⟩
      rw [ha _ _ (by omega) (by omega) (by omega) (by omega)]
      exact b.2.2 j hj
  · by_cases hjc : j = c + 1
    · subst hjc
      rw [← hv]
      exact ⟨by rw [hv]; exact lB_j (by omega), fun k hk => (hn _).mpr (Or.inr (by omega)), fun k hk => hb3 k hk⟩
    · have h6 := h3 j (by omega)
      refine ⟨h6.1, fun k hk => (hn _).mpr (Or.inl (h6.2.1 k hk)), fun k hk => ?_⟩
      rw [ha _ _ (by omega) (by omega) (by omega) (by omega)]
      exact h6.2.2 k hk
  · by_cases hjc : j = c
    · subst hjc
      exact hb2
    · rw [ha 2 j (by omega) (by omega) (by omega) (by omega)]
      exact h4 j (by omega)
  · intro hx
    rcases (hn _).mp hx with hx | hx
    · exact h5 j (by omega) hj6 i hi' hx
    · omega
theorem cw_img {ns ns2 : List Nat} {I I2 : MI} {G G2 : MG} {kk b : Nat} (hb : b = 120 + 10 * kk) (hk4 : kk < 4) (h : CW ns I G) (hi : I2 0 14 = I 0 14)
    (ha : ∀ n k, ¬ (n = 1 ∧ k = kk) → n ≠ b → G2 n k = G n k) (hb1 : G2 1 kk = b) (hb3 : ∀ k, k < 8 → G2 b (10 + k) = b + 1 + k) (hn : ∀ x, x ∈ ns2 ↔ x ∈ ns ∨ (b ≤ x ∧ x < b + 9)) : CW ns2 I2 G2 := by
  obtain ⟨hG, hI, c, hc, h1, h2, h3, h4, h5⟩ := h
  refine ⟨⟨fun n hn' => (hn n).mpr (Or.inl (hG.1 n hn')), fun t ht => ?_⟩, fun k hk => ?_, c, by rw [hi]; exact hc, h1, by rw [ha 0 13 (by omega) (by omega)]; exact h2, fun j hj => ?_, fun j hj => by rw [ha 2 j (by omega) (by omega)]; exact h4 j hj, fun j hj hj6 i hi' => ?_⟩
  · obtain ⟨f1, f2, f3, f4, f5, f6⟩ := feC_r t ht
    rw [ha _ _ (fun h => f5 h.1) (by omega)]
    exact hG.2 t ht
  · by_cases hkk : k = kk
    · subst hkk
      rw [← hb]
      exact Or.inr ⟨hb1, by rw [hb]; exact tB_k hk, fun j hj => (hn _).mpr (Or.inr (by omega)), fun j hj => hb3 j hj⟩
    · rcases hI k hk with ⟨a, b'⟩ | ⟨a, b'⟩
      · refine Or.inl ⟨by rw [ha 1 k (by omega) (by omega)]; exact a, fun i hi' hx => ?_⟩
        rcases (hn _).mp hx with hx | hx
        · exact b' i hi' hx
        · omega
      · refine Or.inr ⟨by rw [ha 1 k (by omega) (by omega)]; exact a, b'.1, fun j hj => (hn _).mpr (Or.inl (b'.2.1 j hj)), fun j hj => ?_⟩
        rw [ha _ _ (by omega) (by omega)]
        exact b'.2.2 j hj
  · have h6 := h3 j (by omega)
    refine ⟨h6.1, fun k hk => (hn _).mpr (Or.inl (h6.2.1 k hk)), fun k hk => ?_⟩
    rw [ha _ _ (by omega) (by omega)]
    exact h6.2.2 k hk
  · intro hx
    rcases (hn _).mp hx with hx | hx
    · exact h5 j (by omega) hj6 i hi' hx
    · omega
def Ext (ns : List Nat) (ad : Nat → Nat) (ns2 : List Nat) (ad2 : Nat → Nat) : Prop := ∀ x ∈ ns, x ∈ ns2 ∧ ad2 x = ad x
theorem Ext.rf {ns : List Nat} {ad : Nat → Nat} : Ext ns ad ns ad := fun _ h => ⟨h, rfl⟩
theorem nin1 {ns : List Nat} {x v : Nat} (h : x ∉ ns) (hv : x ≠ v) : x ∉ ns ++ [v] := by
  simp [h, hv]
theorem Kp.out {R P : List (Nat × Nat)} {I I2 : MI} (h : Kp R P I I2) (hR : (R.all (fun r => decide (r.2 ≤ 1000)) && P.all (fun q => decide (q.1 < 1000))) = true) : ∀ n, 1000 ≤ n → I2 n = I n := by
  intro n hn
  simp only [Bool.and_eq_true, List.all_eq_true, decide_eq_true_eq] at hR
  funext k
  refine h n k ?_ ?_
  · cases hq : inR R n with
    | false => rfl
    | true =>
      exfalso
      obtain ⟨r, hr, hb⟩ := List.any_eq_true.mp hq
      have h1 := hR.1 r hr
      simp at hb
      omega
  · cases hq : P.contains (n, k) with
    | false => rfl
    | true =>
      exfalso
      have h3 : (n, k) ∈ P := by simpa using hq
      have h1 := hR.2 (n, k) h3
      simp at h1
      omega
theorem sgc_putn {ns : List Nat} {G : MG} {n k g : Nat} (h : SGC ns G) (hf : ∀ t ∈ feC, t.1 ≠ n) : SGC ns (u2 G n k g) := by
  refine ⟨h.1, fun t ht => ?_⟩
  rw [u2_ne G k g (hf t ht)]
  exact h.2 t ht
theorem dX9_law_0 : decode cX9_law 0 = .ok (.aload_n 0, 1) := by decide +kernel
theorem dX9_law_1 : decode cX9_law 1 = .ok (.getfield 179, 3) := by decide +kernel
theorem dX9_law_4 : decode cX9_law 4 = .ok (.bipush 6, 2) := by decide +kernel
theorem dX9_law_6 : decode cX9_law 6 = .ok (.if_icmp .lt 5, 3) := by decide +kernel
theorem dX9_law_9 : decode cX9_law 9 = .ok (.iconst (-1), 1) := by decide +kernel
theorem dX9_law_10 : decode cX9_law 10 = .ok (.ireturn, 1) := by decide +kernel
theorem dX9_law_11 : decode cX9_law 11 = .ok (.aload_n 0, 1) := by decide +kernel
theorem dX9_law_12 : decode cX9_law 12 = .ok (.getfield 72, 3) := by decide +kernel
theorem dX9_law_15 : decode cX9_law 15 = .ok (.aload_n 0, 1) := by decide +kernel
theorem dX9_law_16 : decode cX9_law 16 = .ok (.getfield 82, 3) := by decide +kernel
theorem dX9_law_19 : decode cX9_law 19 = .ok (.aload_n 0, 1) := by decide +kernel
theorem dX9_law_20 : decode cX9_law 20 = .ok (.getfield 172, 3) := by decide +kernel
theorem dX9_law_23 : decode cX9_law 23 = .ok (.aload_n 0, 1) := by decide +kernel
theorem dX9_law_24 : decode cX9_law 24 = .ok (.getfield 91, 3) := by decide +kernel
theorem dX9_law_27 : decode cX9_law 27 = .ok (.invokevirtual 182, 3) := by decide +kernel
theorem dX9_law_30 : decode cX9_law 30 = .ok (.istore_n 1, 1) := by decide +kernel
theorem dX9_law_31 : decode cX9_law 31 = .ok (.aload_n 0, 1) := by decide +kernel
theorem dX9_law_32 : decode cX9_law 32 = .ok (.iconst 0, 1) := by decide +kernel
theorem dX9_law_33 : decode cX9_law 33 = .ok (.putfield 172, 3) := by decide +kernel
theorem dX9_law_36 : decode cX9_law 36 = .ok (.iload_n 1, 1) := by decide +kernel
theorem dX9_law_37 : decode cX9_law 37 = .ok (.ifCond .eq 8, 3) := by decide +kernel
theorem dX9_law_40 : decode cX9_law 40 = .ok (.bipush (-2), 2) := by decide +kernel
theorem dX9_law_42 : decode cX9_law 42 = .ok (.iload_n 1, 1) := by decide +kernel
theorem dX9_law_43 : decode cX9_law 43 = .ok (.isub, 1) := by decide +kernel
theorem dX9_law_44 : decode cX9_law 44 = .ok (.ireturn, 1) := by decide +kernel
theorem dX9_law_45 : decode cX9_law 45 = .ok (.aload_n 0, 1) := by decide +kernel
theorem dX9_law_46 : decode cX9_law 46 = .ok (.getfield 78, 3) := by decide +kernel
theorem dX9_law_49 : decode cX9_law 49 = .ok (.aload_n 0, 1) := by decide +kernel
theorem dX9_law_50 : decode cX9_law 50 = .ok (.getfield 179, 3) := by decide +kernel
theorem dX9_law_53 : decode cX9_law 53 = .ok (.aload_n 0, 1) := by decide +kernel
theorem dX9_law_54 : decode cX9_law 54 = .ok (.getfield 91, 3) := by decide +kernel
theorem dX9_law_57 : decode cX9_law 57 = .ok (.aastore, 1) := by decide +kernel
theorem dX9_law_58 : decode cX9_law 58 = .ok (.aload_n 0, 1) := by decide +kernel
theorem dX9_law_59 : decode cX9_law 59 = .ok (.new 76, 3) := by decide +kernel
theorem dX9_law_62 : decode cX9_law 62 = .ok (.dup, 1) := by decide +kernel
theorem dX9_law_63 : decode cX9_law 63 = .ok (.invokespecial 90, 3) := by decide +kernel
theorem dX9_law_66 : decode cX9_law 66 = .ok (.putfield 91, 3) := by decide +kernel
theorem dX9_law_69 : decode cX9_law 69 = .ok (.aload_n 0, 1) := by decide +kernel
theorem dX9_law_70 : decode cX9_law 70 = .ok (.dup, 1) := by decide +kernel
theorem dX9_law_71 : decode cX9_law 71 = .ok (.getfield 179, 3) := by decide +kernel
theorem dX9_law_74 : decode cX9_law 74 = .ok (.iconst 1, 1) := by decide +kernel
theorem dX9_law_75 : decode cX9_law 75 = .ok (.iadd, 1) := by decide +kernel
theorem dX9_law_76 : decode cX9_law 76 = .ok (.putfield 179, 3) := by decide +kernel
theorem dX9_law_79 : decode cX9_law 79 = .ok (.aload_n 0, 1) := by decide +kernel
theorem dX9_law_80 : decode cX9_law 80 = .ok (.getfield 179, 3) := by decide +kernel
theorem dX9_law_83 : decode cX9_law 83 = .ok (.iconst 1, 1) := by decide +kernel
theorem dX9_law_84 : decode cX9_law 84 = .ok (.isub, 1) := by decide +kernel
theorem dX9_law_85 : decode cX9_law 85 = .ok (.ireturn, 1) := by decide +kernel
theorem ce_X9_law : CeV RX9 yX9_law cX9_law 2 (some .int) 0 := ⟨tb_559, tb_560, tb_1, tb_561, rfl, by decide, by decide, by decide +kernel⟩
set_option maxHeartbeats 4000000 in
set_option maxRecDepth 20000 in
theorem V_X9_law (l : Launch) (D : va_G) (A : Nat → Prop) (ad : Nat → Nat) (ns : List Nat) (I : MI) (L : ML) (G : MG) (hI : INV I) (hC : CW ns I G) : Met l yX9_law (wd yX9_law cX9_law 2 (some .int)) ({ frames := 8, cells := 6, slots := 455, locals := 171 }) (va_Pc [.ref (ad (0))] (PM D A ad ns I L G)) (va_Qi (fun r u => ∃ ad2 ns2 I2 L2 G2, u = (ad2, ns2, I2, L2, G2) ∧ INV I2 ∧ CW ns2 I2 G2 ∧ Ext ns ad ns2 ad2 ∧ ∀ n, 1000 ≤ n → I2 n = I n ∧ G2 n = G n) (BM D A) A) 6 455 A := by
  refine m_ofW (by decide) (Nat.le_of_ble_eq_true rfl) ?_
  intro p e s m below meth c ls args hC hE hM hA hS hl
  obtain ⟨hx, hb, hml, hown, hts, hr, hlocks, hin⟩ := hC
  have km2 : (-2 : Int32).toInt = -2 := by decide
  have km1 : (-1 : Int32).toInt = -1 := by decide
  have k0 : (0 : Int32).toInt = 0 := by decide
  have k1 : (1 : Int32).toInt = 1 := by decide
  have k6 : (6 : Int32).toInt = 6 := by decide
  obtain ⟨hG, hCI, c0, hc, hcl⟩ := id hC
  have hG0 := hG
  obtain ⟨w, hw0⟩ : ∃ z : Nat, z = 200 + 10 * c0 := ⟨_, rfl⟩
  obtain ⟨v, hv⟩ : ∃ z : Nat, z = 200 + 10 * (c0 + 1) := ⟨_, rfl⟩
  have hW : LOK ns G w := by rw [hw0]; exact hcl.2.2.1 c0 (Nat.le_refl c0)
  have hd0 : G 0 13 = w := by rw [hw0]; exact hcl.2.1
  have hK : Kp [(71, 73), (200, 300)] [(0, 14), (0, 15), (70, 2), (70, 3), (70, 4), (70, 5), (70, 6), (70, 7), (70, 8), (70, 9), (70, 10), (70, 11), (70, 12)] I I := Kp.rf
  have hl : lv_has ls 2 [(0, .ref (ad (0)))] := hl
  refine lv_aload_n hx hb dX9_law_0 rfl (lv_at hl 0 rfl) ?_
  refine m_geti (0) 14 hx hb hts hown hE oc9 hM (hG.1 0 (by decide)) rfl (by decide) rfl tb_412 dX9_law_1 ?_
  have g1 := hI.get (0) 14 (lo := 0) (hi := 6) rfl
  refine lv_bipush (v := (6)) hx hb dX9_law_4 (by decide) ?_
  refine lv_icmp_lt (tgt := 11) hx hb dX9_law_6 (by decide) (fun c2 => ?_) (fun c2 => ?_)
  · have hc2 := c2
    have q2 := q_lt hc2
    refine lv_aload_n hx hb dX9_law_11 rfl (lv_at hl 0 rfl) ?_
    refine m_getr (0) 9 (70) hx hb hts hown hE oc9 hM (hG.1 0 (by decide)) rfl (by decide) rfl (hG.2 (0, 9, 70) (by decide)) (by decide) tb_407 dX9_law_12 ?_
    refine lv_aload_n hx hb dX9_law_15 rfl (lv_at hl 0 rfl) ?_
    refine m_getr (0) 11 (3) hx hb hts hown hE oc9 hM (hG.1 0 (by decide)) rfl (by decide) rfl (hG.2 (0, 11, 3) (by decide)) (by decide) tb_409 dX9_law_16 ?_
    refine lv_aload_n hx hb dX9_law_19 rfl (lv_at hl 0 rfl) ?_
    refine m_geti (0) 15 hx hb hts hown hE oc9 hM (hG.1 0 (by decide)) rfl (by decide) rfl tb_413 dX9_law_20 ?_
    have g3 := hI.get (0) 15 (lo := 0) (hi := 400) rfl
    refine lv_aload_n hx hb dX9_law_23 rfl (lv_at hl 0 rfl) ?_
    refine m_getr (0) 13 (w) hx hb hts hown hE oc9 hM (hG.1 0 (by decide)) rfl (by decide) rfl hd0 (by have := lbw hW.1; omega) tb_411 dX9_law_24 ?_
    refine m_calli (m_runV (70) (As := [.ref (ad (3)), .int (I (0) 15), .ref (ad (w))]) (rest := []) hx hb hml hown hts hE hM hS hA ce_X4_read tb_562 (V_X4_read l D A ad ns I L G (w) (I (0) 15) hG hI hW (by first | omega | decide)) rfl rfl ⟨Nat.le_of_ble_eq_true rfl, Nat.le_of_ble_eq_true rfl⟩ (hG.1 70 (by decide)) rfl rfl (by decide) rfl hl.1 rfl (Nat.le_of_ble_eq_true rfl) dX9_law_27 ⟨Nat.le_of_ble_eq_true rfl, Nat.le_of_ble_eq_true rfl⟩) hS (fun r4 u H locs hw hM hS => ?_)
    obtain ⟨I5, L6, rfl, hI, hkI5⟩ := hw
    have hG : SGC ns (u2 G 70 13 w) := sgc_put hG rfl
    have hW : LOK ns (u2 G 70 13 w) w := lok_put hW (by decide)
    have hd0 : u2 G 70 13 w 0 13 = w := by rw [u2_v, if_neg (by decide)]; exact hd0
    have hM : Mem D A ad ns I5 L6 (u2 G 70 13 w) H := hM
    have hK := hK.trans hkI5 rfl
    refine lv_istore_n (lv' := [(1, .int (r4)), (0, .ref (ad (0)))]) hx hb dX9_law_30 rfl hl (by decide) rfl (fun ls hl => ?_)
    refine lv_aload_n hx hb dX9_law_31 rfl (lv_at hl 1 rfl) ?_
    refine lv_iconst (v := (0)) hx hb dX9_law_32 (by decide) ?_
    refine m_puti (0) 15 hx hb hts hown hE oc9 hM hS (hG.1 0 (by decide)) rfl (by decide) rfl rfl rfl rfl tb_413 dX9_law_33 (fun H locs I7 eI7 hM hS => ?_)
    subst eI7
    have hI := hI.put (n := 0) (k := 15) (v := 0) (lo := 0) (hi := 400) rfl (by first | omega | decide)
    have hK := hK.put (n := 0) (k := 15) (v := 0) (by first | rfl | simp [inR])
    refine lv_iload_n hx hb dX9_law_36 rfl (lv_at hl 0 rfl) ?_
    refine lv_if_eq (tgt := 45) hx hb dX9_law_37 (by decide) (fun c8 => ?_) (fun c8 => ?_)
    · have hc8 := c8
      have q8 := q_eq hc8
      refine lv_aload_n hx hb dX9_law_45 rfl (lv_at hl 1 rfl) ?_
      refine m_getr (0) 10 (2) hx hb hts hown hE oc9 hM (hG.1 0 (by decide)) rfl (by decide) rfl (hG.2 (0, 10, 2) (by decide)) (by decide) tb_408 dX9_law_46 ?_
      refine lv_aload_n hx hb dX9_law_49 rfl (lv_at hl 1 rfl) ?_
      refine m_geti (0) 14 hx hb hts hown hE oc9 hM (hG.1 0 (by decide)) rfl (by decide) rfl tb_412 dX9_law_50 ?_
      have g9 := hI.get (0) 14 (lo := 0) (hi := 6) rfl
      have z10 : (u2 I5 (0) 15 (0)) (0) 14 = I (0) 14 := ((show (u2 I5 (0) 15 (0)) (0) 14 = I5 (0) 14 from by simp [u2_v])).trans (hkI5.get (0) 14 rfl)
      rw [z10] at g9 ⊢
      refine lv_aload_n hx hb dX9_law_53 rfl (lv_at hl 1 rfl) ?_
      refine m_getr (0) 13 (w) hx hb hts hown hE oc9 hM (hG.1 0 (by decide)) rfl (by decide) rfl hd0 (by have := lbw hW.1; omega) tb_411 dX9_law_54 ?_
      refine m_aast (2) (w) hx hb hE hM hS (hG.1 2 (by decide)) rfl hW.l (by have := lbw hW.1; omega) (kW _ hW.1).1 (by decide) (vp_in_iff.mpr (by omega)) dX9_law_57 (fun H locs G11 eG11 hM hS => ?_)
      subst eG11
      have hG : SGC ns (u2 (u2 G 70 13 w) 2 (I (0) 14).toNatClampNeg (w)) := sgc_putn hG (by decide)
      refine lv_aload_n hx hb dX9_law_58 rfl (lv_at hl 1 rfl) ?_
      have hc6 : c0 < 6 := by omega
      have hvB : v ∈ lB := by rw [hv]; exact lB_j (by omega)
      have fv : ∀ i, i < 6 → v + i ∉ ns := fun i hi => by rw [hv]; exact hcl.2.2.2.2 (c0 + 1) (by omega) (by omega) i hi
      have hcc : (I 0 14).toNatClampNeg = c0 := tn_n hc
      refine m_new (v) hx hb hts hown hE oc3 hM hS hA (fv 0 (by decide)) (by have := lbw hvB; omega) (kW _ hvB).1 df3 tb_362 tb_364 tb_10 (Nat.le_of_ble_eq_true rfl) (Nat.le_of_ble_eq_true rfl) dX9_law_59 (fun H ad1 had hM hS => ?_)
      rw [← had (0) (hG.1 0 (by decide))] at hl
      rw [← had (0) (hG.1 0 (by decide))]
      refine lv_dup hx hb dX9_law_62 rfl ?_
      refine m_callv (m_runIN (v) (As := []) (rest := [.ref (ad1 (v)), .ref (ad1 (0))]) hx hb hml hown hts hE hM hS hA ce_X3_init (List.mem_of_getElem? (i := 4) rfl) (C_X3_init l D A ad1 (ns ++ [v]) (u2 I5 (0) 15 (0)) L6 (u2 (u2 G 70 13 w) 2 (I (0) 14).toNatClampNeg (w)) (v) (List.mem_append_right _ (List.mem_singleton.mpr rfl)) hvB (nin1 (fv 1 (by decide)) (by omega)) (nin1 (fv 2 (by decide)) (by omega)) (nin1 (fv 3 (by decide)) (by omega)) (nin1 (fv 4 (by decide)) (by omega)) (nin1 (fv 5 (by decide)) (by omega))) rfl rfl ⟨Nat.le_of_ble_eq_true rfl, Nat.le_of_ble_eq_true rfl⟩  rfl hl.1 rfl (Nat.le_of_ble_eq_true rfl) dX9_law_63 ⟨Nat.le_of_ble_eq_true rfl, Nat.le_of_ble_eq_true rfl⟩) hS (fun u H locs hw hM hS => ?_)
      obtain ⟨ad2, rfl, had2⟩ := hw
      obtain ⟨nsv, ensv⟩ : ∃ z : List Nat, z = ((((((ns ++ [v]) ++ [v + 1]) ++ [v + 2]) ++ [v + 3]) ++ [v + 4]) ++ [v + 5]) := ⟨_, rfl⟩
      obtain ⟨Gv, eGv⟩ : ∃ z : MG, z = (u2 (u2 (u2 (u2 (u2 (u2 (u2 G 70 13 w) 2 (I (0) 14).toNatClampNeg (w)) (v) 0 (v + 1)) (v) 1 (v + 2)) (v) 2 (v + 3)) (v) 3 (v + 4)) (v) 4 (v + 5)) := ⟨_, rfl⟩
      have hM : Mem D A ad2 nsv (u2 I5 (0) 15 (0)) L6 Gv H := by rw [ensv, eGv]; exact hM
      have hnsv : ∀ x, x ∈ nsv ↔ x ∈ ns ∨ (v ≤ x ∧ x < v + 6) := by intro x; rw [ensv]; by_cases hx : x ∈ ns <;> simp only [List.mem_append, List.mem_singleton, hx, true_or, false_or, iff_self] <;> omega
      have hext : Ext ns ad nsv ad2 := fun x hx => ⟨(hnsv x).mpr (Or.inl hx), (had2 x (List.mem_append_left _ hx)).trans (had x hx)⟩
      rw [← had2 (0) (List.mem_append_left _ (hG.1 0 (by decide)))] at hl
      rw [← had2 (v) (List.mem_append_right _ (List.mem_singleton.mpr rfl))]
      rw [← had2 (0) (List.mem_append_left _ (hG.1 0 (by decide)))]
      refine m_putr (0) 13 (v) hx hb hts hown hE oc9 hM hS ((hnsv 0).mpr (Or.inl (hG0.1 0 (by decide)))) rfl (by decide) rfl (by have := lbw hvB; omega) ((hnsv (v)).mpr (Or.inr (by omega))) rfl rfl rfl tb_411 dX9_law_66 (fun H locs G13 eG13 hM hS => ?_)
      subst eG13
      refine lv_aload_n hx hb dX9_law_69 rfl (lv_at hl 1 rfl) ?_
      refine lv_dup hx hb dX9_law_70 rfl ?_
      refine m_geti (0) 14 hx hb hts hown hE oc9 hM ((hnsv 0).mpr (Or.inl (hG0.1 0 (by decide)))) rfl (by decide) rfl tb_412 dX9_law_71 ?_
      have z14 : (u2 I5 (0) 15 (0)) (0) 14 = I (0) 14 := ((show (u2 I5 (0) 15 (0)) (0) 14 = I5 (0) 14 from by simp [u2_v])).trans (hkI5.get (0) 14 rfl)
      rw [z14]
      refine lv_iconst (v := (1)) hx hb dX9_law_74 (by decide) ?_
      refine lv_iadd hx hb dX9_law_75 ?_
      refine lv_topi (fun v15 ev15 => ?_)
      have tv15 := a_add ev15 (by omega) (by omega)
      refine m_puti (0) 14 hx hb hts hown hE oc9 hM hS ((hnsv 0).mpr (Or.inl (hG0.1 0 (by decide)))) rfl (by decide) rfl rfl rfl rfl tb_412 dX9_law_76 (fun H locs I16 eI16 hM hS => ?_)
      subst eI16
      have hI := hI.put (n := 0) (k := 14) (v := v15) (lo := 0) (hi := 6) rfl (by first | omega | decide)
      have hK := hK.put (n := 0) (k := 14) (v := v15) (by first | rfl | simp [inR])
      refine lv_aload_n hx hb dX9_law_79 rfl (lv_at hl 1 rfl) ?_
      refine m_geti (0) 14 hx hb hts hown hE oc9 hM ((hnsv 0).mpr (Or.inl (hG0.1 0 (by decide)))) rfl (by decide) rfl tb_412 dX9_law_80 ?_
      have g17 := hI.get (0) 14 (lo := 0) (hi := 6) rfl
      have z18 : (u2 (u2 I5 (0) 15 (0)) (0) 14 (v15)) (0) 14 = v15 := (show (u2 (u2 I5 (0) 15 (0)) (0) 14 (v15)) (0) 14 = v15 from by simp [u2_v])
      rw [z18] at g17 ⊢
      refine lv_iconst (v := (1)) hx hb dX9_law_83 (by decide) ?_
      refine lv_isub hx hb dX9_law_84 ?_
      refine lv_topi (fun v19 ev19 => ?_)
      have tv19 := a_sub ev19 (by omega) (by omega)
      have hga : ∀ n k, ¬ (n = 70 ∧ k = 13) → ¬ (n = 2 ∧ k = c0) → ¬ (n = 0 ∧ k = 13) → n ≠ v → u2 Gv 0 13 v n k = G n k := fun n k h1 h2 h3 h4 => by rw [u2_v, if_neg h3, eGv, u2_ne _ _ _ h4, u2_ne _ _ _ h4, u2_ne _ _ _ h4, u2_ne _ _ _ h4, u2_ne _ _ _ h4, u2_v, if_neg (by rw [hcc]; exact h2), u2_v, if_neg h1]
      have h2v : 2 ≠ v := by omega
      have h0v : v ≠ 0 := by omega
      have hgb : u2 Gv 0 13 v 2 c0 = 200 + 10 * c0 := by rw [u2_v, if_neg (by omega), eGv, u2_ne _ _ _ h2v, u2_ne _ _ _ h2v, u2_ne _ _ _ h2v, u2_ne _ _ _ h2v, u2_ne _ _ _ h2v, u2_v, if_pos ⟨rfl, hcc.symm⟩, hw0]
      have hgc : ∀ k, k < 5 → u2 Gv 0 13 v v k = v + 1 + k := by
        intro k hk
        rw [u2_ne _ _ _ h0v, eGv]
        rcases (show k = 0 ∨ k = 1 ∨ k = 2 ∨ k = 3 ∨ k = 4 by omega) with rfl | rfl | rfl | rfl | rfl <;> simp [u2_v] <;> omega
      exact m_iret hx hb hr hlocks hM hS (Nat.le_of_ble_eq_true rfl) (Nat.le_of_ble_eq_true rfl) ⟨_, _, _, _, _, rfl, hI, cw_law (I := I) hv hc6 hG0 hCI hcl (by rw [u2_self]; omega) hga (u2_self _ _ _ _) hgb hgc hnsv, hext, fun n hn => ⟨hK.out rfl n hn, funext fun k => hga n k (by omega) (by omega) (by omega) (by omega)⟩⟩ dX9_law_85
    · have hc8 := c8
      have q8 := q_ne hc8
      refine lv_bipush (v := (-2)) hx hb dX9_law_40 (by decide) ?_
      refine lv_iload_n hx hb dX9_law_42 rfl (lv_at hl 0 rfl) ?_
      refine lv_isub hx hb dX9_law_43 ?_
      refine lv_topi (fun v20 ev20 => ?_)
      exact m_iret hx hb hr hlocks hM hS (Nat.le_of_ble_eq_true rfl) (Nat.le_of_ble_eq_true rfl) ⟨_, _, _, _, _, rfl, hI, cw_70 hC (((show (u2 I5 (0) 15 (0)) (0) 14 = I5 (0) 14 from by simp [u2_v])).trans (hkI5.get (0) 14 rfl)), Ext.rf, fun n hn => ⟨hK.out rfl n hn, u2_ne _ _ _ (by omega)⟩⟩ dX9_law_44
  · have hc2 := c2
    have q2 := q_nlt hc2
    refine lv_iconst (v := (-1)) hx hb dX9_law_9 (by decide) ?_
    exact m_iret hx hb hr hlocks hM hS (Nat.le_of_ble_eq_true rfl) (Nat.le_of_ble_eq_true rfl) ⟨_, _, _, _, _, rfl, hI, hC, Ext.rf, fun n _ => ⟨rfl, rfl⟩⟩ dX9_law_10
theorem dX9_image_0 : decode cX9_image 0 = .ok (.iload_n 1, 1) := by decide +kernel
theorem dX9_image_1 : decode cX9_image 1 = .ok (.iconst 0, 1) := by decide +kernel
theorem dX9_image_2 : decode cX9_image 2 = .ok (.iconst 3, 1) := by decide +kernel
theorem dX9_image_3 : decode cX9_image 3 = .ok (.invokestatic 95, 3) := by decide +kernel
theorem dX9_image_6 : decode cX9_image 6 = .ok (.ifCond .eq 13, 3) := by decide +kernel
theorem dX9_image_9 : decode cX9_image 9 = .ok (.aload_n 0, 1) := by decide +kernel
theorem dX9_image_10 : decode cX9_image 10 = .ok (.getfield 10, 3) := by decide +kernel
theorem dX9_image_13 : decode cX9_image 13 = .ok (.invokevirtual 111, 3) := by decide +kernel
theorem dX9_image_16 : decode cX9_image 16 = .ok (.ifCond .ne 5, 3) := by decide +kernel
theorem dX9_image_19 : decode cX9_image 19 = .ok (.iconst (-1), 1) := by decide +kernel
theorem dX9_image_20 : decode cX9_image 20 = .ok (.ireturn, 1) := by decide +kernel
theorem dX9_image_21 : decode cX9_image 21 = .ok (.aload_n 0, 1) := by decide +kernel
theorem dX9_image_22 : decode cX9_image 22 = .ok (.getfield 19, 3) := by decide +kernel
theorem dX9_image_25 : decode cX9_image 25 = .ok (.iload_n 1, 1) := by decide +kernel
theorem dX9_image_26 : decode cX9_image 26 = .ok (.aaload, 1) := by decide +kernel
theorem dX9_image_27 : decode cX9_image 27 = .ok (.astore_n 2, 1) := by decide +kernel
theorem dX9_image_28 : decode cX9_image 28 = .ok (.aload_n 2, 1) := by decide +kernel
theorem dX9_image_29 : decode cX9_image 29 = .ok (.ifnonnull 18, 3) := by decide +kernel
theorem dX9_image_32 : decode cX9_image 32 = .ok (.new 7, 3) := by decide +kernel
theorem dX9_image_35 : decode cX9_image 35 = .ok (.dup, 1) := by decide +kernel
theorem dX9_image_36 : decode cX9_image 36 = .ok (.invokespecial 9, 3) := by decide +kernel
theorem dX9_image_39 : decode cX9_image 39 = .ok (.astore_n 2, 1) := by decide +kernel
theorem dX9_image_40 : decode cX9_image 40 = .ok (.aload_n 0, 1) := by decide +kernel
theorem dX9_image_41 : decode cX9_image 41 = .ok (.getfield 19, 3) := by decide +kernel
theorem dX9_image_44 : decode cX9_image 44 = .ok (.iload_n 1, 1) := by decide +kernel
theorem dX9_image_45 : decode cX9_image 45 = .ok (.aload_n 2, 1) := by decide +kernel
theorem dX9_image_46 : decode cX9_image 46 = .ok (.aastore, 1) := by decide +kernel
theorem dX9_image_47 : decode cX9_image 47 = .ok (.aload_n 2, 1) := by decide +kernel
theorem dX9_image_48 : decode cX9_image 48 = .ok (.aload_n 0, 1) := by decide +kernel
theorem dX9_image_49 : decode cX9_image 49 = .ok (.getfield 10, 3) := by decide +kernel
theorem dX9_image_52 : decode cX9_image 52 = .ok (.invokevirtual 320, 3) := by decide +kernel
theorem dX9_image_55 : decode cX9_image 55 = .ok (.aload_n 0, 1) := by decide +kernel
theorem dX9_image_56 : decode cX9_image 56 = .ok (.getfield 10, 3) := by decide +kernel
theorem dX9_image_59 : decode cX9_image 59 = .ok (.getfield 190, 3) := by decide +kernel
theorem dX9_image_62 : decode cX9_image 62 = .ok (.ireturn, 1) := by decide +kernel
theorem ce_X9_image : CeV RX9 yX9_image cX9_image 3 (some .int) 1 := ⟨tb_1165, tb_1166, tb_1, tb_1167, rfl, by decide, by decide, by decide +kernel⟩
set_option maxHeartbeats 4000000 in
set_option maxRecDepth 20000 in
theorem V_X9_image (l : Launch) (D : va_G) (A : Nat → Prop) (ad : Nat → Nat) (ns : List Nat) (I : MI) (L : ML) (G : MG) (a0 : Int32) (hI : INV I) (hC : CW ns I G) : Met l yX9_image (wd yX9_image cX9_image 3 (some .int)) ({ frames := 2, cells := 9, slots := 3194, locals := 61 }) (va_Pc [.ref (ad (0)), .int a0] (PM D A ad ns I L G)) (va_Qi (fun r u => ∃ ad2 ns2 I2 L2 G2, u = (ad2, ns2, I2, L2, G2) ∧ INV I2 ∧ CW ns2 I2 G2 ∧ Ext ns ad ns2 ad2 ∧ ∀ n, 1000 ≤ n → I2 n = I n ∧ G2 n = G n) (BM D A) A) 9 3194 A := by
  refine m_ofW (by decide) (Nat.le_of_ble_eq_true rfl) ?_
  intro p e s m below meth c ls args hC hE hM hA hS hl
  obtain ⟨hx, hb, hml, hown, hts, hr, hlocks, hin⟩ := hC
  have km1 : (-1 : Int32).toInt = -1 := by decide
  have k0 : (0 : Int32).toInt = 0 := by decide
  have k3 : (3 : Int32).toInt = 3 := by decide
  obtain ⟨hG, hCI, c0, hc, hcl⟩ := id hC
  have hG0 := hG
  have hK : Kp [(121, 129), (131, 139), (141, 149), (151, 159)] [(120, 0), (120, 1), (120, 2), (120, 3), (120, 4), (120, 5), (120, 6), (120, 7), (120, 8), (120, 9), (130, 0), (130, 1), (130, 2), (130, 3), (130, 4), (130, 5), (130, 6), (130, 7), (130, 8), (130, 9), (140, 0), (140, 1), (140, 2), (140, 3), (140, 4), (140, 5), (140, 6), (140, 7), (140, 8), (140, 9), (150, 0), (150, 1), (150, 2), (150, 3), (150, 4), (150, 5), (150, 6), (150, 7), (150, 8), (150, 9)] I I := Kp.rf
  have hl : lv_has ls 3 [(0, .ref (ad (0))), (1, .int (a0))] := hl
  refine lv_iload_n hx hb dX9_image_0 rfl (lv_at hl 1 rfl) ?_
  refine lv_iconst (v := (0)) hx hb dX9_image_1 (by decide) ?_
  refine lv_iconst (v := (3)) hx hb dX9_image_2 (by decide) ?_
  refine m_calli (m_runS (As := [.int (a0), .int (0), .int (3)]) (rest := []) hx hb hml hown hts hE hM hS hA ce_X9_isWithin tb_451 (V_X9_isWithin l D A ad ns I L G (a0) (0) (3) hI) rfl rfl ⟨Nat.le_of_ble_eq_true rfl, Nat.le_of_ble_eq_true rfl⟩  rfl hl.1 rfl (Nat.le_of_ble_eq_true rfl) dX9_image_3 ⟨Nat.le_of_ble_eq_true rfl, Nat.le_of_ble_eq_true rfl⟩) hS (fun r1 u H locs hw hM hS => ?_)
  obtain ⟨rfl, xr1⟩ := hw
  have hM : Mem D A ad ns I L G H := hM
  have yr1 := bo01 xr1
  refine lv_if_eq (tgt := 19) hx hb dX9_image_6 (by decide) (fun c2 => ?_) (fun c2 => ?_)
  · have hc2 := c2
    have q2 := xr1.f hc2
    refine lv_iconst (v := (-1)) hx hb dX9_image_19 (by decide) ?_
    exact m_iret hx hb hr hlocks hM hS (Nat.le_of_ble_eq_true rfl) (Nat.le_of_ble_eq_true rfl) ⟨_, _, _, _, _, rfl, hI, hC, Ext.rf, fun n _ => ⟨rfl, rfl⟩⟩ dX9_image_20
  · have hc2 := c2
    have q2 := xr1.t hc2
    refine lv_aload_n hx hb dX9_image_9 rfl (lv_at hl 0 rfl) ?_
    refine m_getr (0) 0 (100) hx hb hts hown hE oc9 hM (hG.1 0 (by decide)) rfl (by decide) rfl (hG.2 (0, 0, 100) (by decide)) (by decide) tb_398 dX9_image_10 ?_
    refine m_calli (m_runV (100) (As := []) (rest := []) hx hb hml hown hts hE hM hS hA ce_X8_isBegun tb_484 (V_X8_isBegun_100 l D A ad ns I L G hG hI) rfl rfl ⟨Nat.le_of_ble_eq_true rfl, Nat.le_of_ble_eq_true rfl⟩ (hG.1 100 (by decide)) rfl rfl (by decide) rfl hl.1 rfl (Nat.le_of_ble_eq_true rfl) dX9_image_13 ⟨Nat.le_of_ble_eq_true rfl, Nat.le_of_ble_eq_true rfl⟩) hS (fun r3 u H locs hw hM hS => ?_)
    obtain ⟨rfl, xr3⟩ := hw
    have hM : Mem D A ad ns I L G H := hM
    have yr3 := bo01 xr3
    refine lv_if_ne (tgt := 21) hx hb dX9_image_16 (by decide) (fun c4 => ?_) (fun c4 => ?_)
    · have hc4 := c4
      have q4 := xr3.t hc4
      refine lv_aload_n hx hb dX9_image_21 rfl (lv_at hl 0 rfl) ?_
      refine m_getr (0) 2 (1) hx hb hts hown hE oc9 hM (hG.1 0 (by decide)) rfl (by decide) rfl (hG.2 (0, 2, 1) (by decide)) (by decide) tb_400 dX9_image_22 ?_
      refine lv_iload_n hx hb dX9_image_25 rfl (lv_at hl 1 rfl) ?_
      refine m_aald (1) hx hb hE hM (hG.1 1 (by decide)) rfl (by decide) (vp_in_iff.mpr (by omega)) dX9_image_26 ?_
      have hk4 : (a0).toInt = 0 ∨ (a0).toInt = 1 ∨ (a0).toInt = 2 ∨ (a0).toInt = 3 := by omega
      rcases hk4 with hk4 | hk4 | hk4 | hk4
      · have hkk := tn_n (i := a0) (n := 0) (by omega)
        rw [hkk]
        rcases hCI 0 (by decide) with ⟨hz, hz2⟩ | ⟨hz, hT⟩
        · rw [show rn ad (G 1 0) = none from by rw [hz]; rfl]
          have fv : ∀ i, i < 9 → 120 + i ∉ ns := fun i hi => hz2 i hi
          refine lv_astore_nN (lv' := [(2, .null), (0, .ref (ad (0))), (1, .int (a0))]) hx hb dX9_image_27 rfl hl (by decide) rfl (fun ls hl => ?_)
          refine lv_aload_nN hx hb dX9_image_28 rfl (lv_at hl 0 rfl) ?_
          refine lv_ifnonnullN hx hb dX9_image_29 ?_
          refine m_new (120) hx hb hts hown hE oc8 hM hS hA (fv 0 (by decide)) (by decide) rfl df8 tb_28 tb_29 tb_2 (Nat.le_of_ble_eq_true rfl) (Nat.le_of_ble_eq_true rfl) dX9_image_32 (fun H ad1 had hM hS => ?_)
          rw [← had (0) (hG.1 0 (by decide))] at hl
          refine lv_dup hx hb dX9_image_35 rfl ?_
          refine m_callv (m_runIN (120) (As := []) (rest := [.ref (ad1 (120))]) hx hb hml hown hts hE hM hS hA ce_X8_init (List.mem_of_getElem? (i := 0) rfl) (C_X8_init l D A ad1 (ns ++ [120]) I L G (120) (List.mem_append_right _ (List.mem_singleton.mpr rfl)) (by decide) (nin1 (fv 1 (by decide)) (by omega)) (nin1 (fv 2 (by decide)) (by omega)) (nin1 (fv 3 (by decide)) (by omega)) (nin1 (fv 4 (by decide)) (by omega)) (nin1 (fv 5 (by decide)) (by omega)) (nin1 (fv 6 (by decide)) (by omega)) (nin1 (fv 7 (by decide)) (by omega)) (nin1 (fv 8 (by decide)) (by omega))) rfl rfl ⟨Nat.le_of_ble_eq_true rfl, Nat.le_of_ble_eq_true rfl⟩  rfl hl.1 rfl (Nat.le_of_ble_eq_true rfl) dX9_image_36 ⟨Nat.le_of_ble_eq_true rfl, Nat.le_of_ble_eq_true rfl⟩) hS (fun u H locs hw hM hS => ?_)
          obtain ⟨ad2, rfl, had2⟩ := hw
          obtain ⟨nsv, ensv⟩ : ∃ z : List Nat, z = (((((((((ns ++ [120]) ++ [120 + 1]) ++ [120 + 2]) ++ [120 + 3]) ++ [120 + 4]) ++ [120 + 5]) ++ [120 + 6]) ++ [120 + 7]) ++ [120 + 8]) := ⟨_, rfl⟩
          obtain ⟨Gv, eGv⟩ : ∃ z : MG, z = (u2 (u2 (u2 (u2 (u2 (u2 (u2 (u2 G (120) 10 (120 + 1)) (120) 11 (120 + 2)) (120) 12 (120 + 3)) (120) 13 (120 + 4)) (120) 14 (120 + 5)) (120) 15 (120 + 6)) (120) 16 (120 + 7)) (120) 17 (120 + 8)) := ⟨_, rfl⟩
          have hM : Mem D A ad2 nsv I L Gv H := by rw [ensv, eGv]; exact hM
          have hnsv : ∀ x, x ∈ nsv ↔ x ∈ ns ∨ (120 ≤ x ∧ x < 120 + 9) := by intro x; rw [ensv]; by_cases hx : x ∈ ns <;> simp only [List.mem_append, List.mem_singleton, hx, true_or, false_or, iff_self] <;> omega
          have hext : Ext ns ad nsv ad2 := fun x hx => ⟨(hnsv x).mpr (Or.inl hx), (had2 x (List.mem_append_left _ hx)).trans (had x hx)⟩
          rw [← had2 (0) (List.mem_append_left _ (hG.1 0 (by decide)))] at hl
          rw [← had2 (120) (List.mem_append_right _ (List.mem_singleton.mpr rfl))]
          have hG : SGC nsv Gv := ⟨fun n hn => (hnsv n).mpr (Or.inl (hG0.1 n hn)), fun t ht => by rw [eGv]; have := feC_r t ht; rw [u2_ne _ _ _ (by omega), u2_ne _ _ _ (by omega), u2_ne _ _ _ (by omega), u2_ne _ _ _ (by omega), u2_ne _ _ _ (by omega), u2_ne _ _ _ (by omega), u2_ne _ _ _ (by omega), u2_ne _ _ _ (by omega)]; exact hG0.2 t ht⟩
          refine lv_astore_n (lv' := [(2, .ref (ad2 (120))), (0, .ref (ad2 (0))), (1, .int (a0))]) hx hb dX9_image_39 rfl hl (by decide) rfl (fun ls hl => ?_)
          refine lv_aload_n hx hb dX9_image_40 rfl (lv_at hl 1 rfl) ?_
          refine m_getr (0) 2 (1) hx hb hts hown hE oc9 hM ((hnsv 0).mpr (Or.inl (hG0.1 0 (by decide)))) rfl (by decide) rfl (hG.2 (0, 2, 1) (by decide)) (by decide) tb_400 dX9_image_41 ?_
          refine lv_iload_n hx hb dX9_image_44 rfl (lv_at hl 2 rfl) ?_
          refine lv_aload_n hx hb dX9_image_45 rfl (lv_at hl 0 rfl) ?_
          refine m_aast (1) (120) hx hb hE hM hS (hG.1 1 (by decide)) rfl ((hnsv (120)).mpr (Or.inr (by omega))) (by decide) rfl (by decide) (vp_in_iff.mpr (by omega)) dX9_image_46 (fun H locs G5 eG5 hM hS => ?_)
          subst eG5
          rw [hkk] at hM
          have hG : SGC nsv (u2 Gv 1 0 120) := sgc_putn hG (by decide)
          have hgb : ∀ j, j < 8 → u2 Gv 1 0 120 120 (10 + j) = 120 + 1 + j := by
            intro j hj
            rw [u2_ne _ _ _ (by decide), eGv]
            rcases (show j = 0 ∨ j = 1 ∨ j = 2 ∨ j = 3 ∨ j = 4 ∨ j = 5 ∨ j = 6 ∨ j = 7 by omega) with rfl | rfl | rfl | rfl | rfl | rfl | rfl | rfl <;> simp [u2_v]
          have hT : TOK nsv (u2 Gv 1 0 120) 120 := ⟨by decide, fun j hj => (hnsv _).mpr (Or.inr (by omega)), hgb⟩
          refine lv_aload_n hx hb dX9_image_47 rfl (lv_at hl 0 rfl) ?_
          refine lv_aload_n hx hb dX9_image_48 rfl (lv_at hl 1 rfl) ?_
          refine m_getr (0) 0 (100) hx hb hts hown hE oc9 hM ((hnsv 0).mpr (Or.inl (hG0.1 0 (by decide)))) rfl (by decide) rfl (hG.2 (0, 0, 100) (by decide)) (by decide) tb_398 dX9_image_49 ?_
          refine m_callv (m_runV (120) (As := [.ref (ad2 (100))]) (rest := []) hx hb hml hown hts hE hM hS hA ce_X8_copyFrom tb_1147 (V_X8_copyFrom_120_100 l D A ad2 nsv I L (u2 Gv 1 0 120) hG hI hT) rfl rfl ⟨Nat.le_of_ble_eq_true rfl, Nat.le_of_ble_eq_true rfl⟩ ((hnsv (120)).mpr (Or.inr (by omega))) rfl rfl (by decide) rfl hl.1 rfl (Nat.le_of_ble_eq_true rfl) dX9_image_52 ⟨Nat.le_of_ble_eq_true rfl, Nat.le_of_ble_eq_true rfl⟩) hS (fun u H locs hw hM hS => ?_)
          obtain ⟨I6, L7, rfl, hI, hkI6⟩ := hw
          have hM : Mem D A ad2 nsv I6 L7 (u2 Gv 1 0 120) H := hM
          have hK := hK.trans hkI6 rfl
          refine lv_aload_n hx hb dX9_image_55 rfl (lv_at hl 1 rfl) ?_
          refine m_getr (0) 0 (100) hx hb hts hown hE oc9 hM ((hnsv 0).mpr (Or.inl (hG0.1 0 (by decide)))) rfl (by decide) rfl (hG.2 (0, 0, 100) (by decide)) (by decide) tb_398 dX9_image_56 ?_
          refine m_geti (100) 6 hx hb hts hown hE oc8 hM (hG.1 100 (by decide)) rfl (by decide) rfl tb_56 dX9_image_59 ?_
          have z8 : I6 (100) 6 = I (100) 6 := (hkI6.get (100) 6 rfl)
          rw [z8]
          have hga : ∀ n k, ¬ (n = 1 ∧ k = 0) → n ≠ 120 → u2 Gv 1 0 120 n k = G n k := fun n k h1 h4 => by rw [u2_v, if_neg h1, eGv, u2_ne _ _ _ h4, u2_ne _ _ _ h4, u2_ne _ _ _ h4, u2_ne _ _ _ h4, u2_ne _ _ _ h4, u2_ne _ _ _ h4, u2_ne _ _ _ h4, u2_ne _ _ _ h4]
          exact m_iret hx hb hr hlocks hM hS (Nat.le_of_ble_eq_true rfl) (Nat.le_of_ble_eq_true rfl) ⟨_, _, _, _, _, rfl, hI, cw_img (kk := 0) (b := 120) rfl (by decide) hC ((hkI6.get (0) 14 rfl)) hga (u2_self _ _ _ _) hgb hnsv, hext, fun n hn => ⟨hK.out rfl n hn, funext fun k => hga n k (by omega) (by omega)⟩⟩ dX9_image_62
        · rw [show rn ad (G 1 0) = some (ad 120) from by rw [hz]; rfl]
          refine lv_astore_n (lv' := [(2, .ref (ad (120))), (0, .ref (ad (0))), (1, .int (a0))]) hx hb dX9_image_27 rfl hl (by decide) rfl (fun ls hl => ?_)
          refine lv_aload_n hx hb dX9_image_28 rfl (lv_at hl 0 rfl) ?_
          refine lv_ifnonnull (tgt := 47) hx hb dX9_image_29 (by decide) ?_
          refine lv_aload_n hx hb dX9_image_47 rfl (lv_at hl 0 rfl) ?_
          refine lv_aload_n hx hb dX9_image_48 rfl (lv_at hl 1 rfl) ?_
          refine m_getr (0) 0 (100) hx hb hts hown hE oc9 hM (hG.1 0 (by decide)) rfl (by decide) rfl (hG.2 (0, 0, 100) (by decide)) (by decide) tb_398 dX9_image_49 ?_
          refine m_callv (m_runV (120) (As := [.ref (ad (100))]) (rest := []) hx hb hml hown hts hE hM hS hA ce_X8_copyFrom tb_1147 (V_X8_copyFrom_120_100 l D A ad ns I L G hG hI hT) rfl rfl ⟨Nat.le_of_ble_eq_true rfl, Nat.le_of_ble_eq_true rfl⟩ (hT.2.1 0 (by decide)) rfl rfl (by decide) rfl hl.1 rfl (Nat.le_of_ble_eq_true rfl) dX9_image_52 ⟨Nat.le_of_ble_eq_true rfl, Nat.le_of_ble_eq_true rfl⟩) hS (fun u H locs hw hM hS => ?_)
          obtain ⟨I9, L10, rfl, hI, hkI9⟩ := hw
          have hM : Mem D A ad ns I9 L10 G H := hM
          have hK := hK.trans hkI9 rfl
          refine lv_aload_n hx hb dX9_image_55 rfl (lv_at hl 1 rfl) ?_
          refine m_getr (0) 0 (100) hx hb hts hown hE oc9 hM (hG.1 0 (by decide)) rfl (by decide) rfl (hG.2 (0, 0, 100) (by decide)) (by decide) tb_398 dX9_image_56 ?_
          refine m_geti (100) 6 hx hb hts hown hE oc8 hM (hG.1 100 (by decide)) rfl (by decide) rfl tb_56 dX9_image_59 ?_
          have z11 : I9 (100) 6 = I (100) 6 := (hkI9.get (100) 6 rfl)
          rw [z11]
          exact m_iret hx hb hr hlocks hM hS (Nat.le_of_ble_eq_true rfl) (Nat.le_of_ble_eq_true rfl) ⟨_, _, _, _, _, rfl, hI, cw_keep hC ((hkI9.get (0) 14 rfl)), Ext.rf, fun n hn => ⟨hK.out rfl n hn, rfl⟩⟩ dX9_image_62
      · have hkk := tn_n (i := a0) (n := 1) (by omega)
        rw [hkk]
        rcases hCI 1 (by decide) with ⟨hz, hz2⟩ | ⟨hz, hT⟩
        · rw [show rn ad (G 1 1) = none from by rw [hz]; rfl]
          have fv : ∀ i, i < 9 → 130 + i ∉ ns := fun i hi => hz2 i hi
          refine lv_astore_nN (lv' := [(2, .null), (0, .ref (ad (0))), (1, .int (a0))]) hx hb dX9_image_27 rfl hl (by decide) rfl (fun ls hl => ?_)
          refine lv_aload_nN hx hb dX9_image_28 rfl (lv_at hl 0 rfl) ?_
          refine lv_ifnonnullN hx hb dX9_image_29 ?_
          refine m_new (130) hx hb hts hown hE oc8 hM hS hA (fv 0 (by decide)) (by decide) rfl df8 tb_28 tb_29 tb_2 (Nat.le_of_ble_eq_true rfl) (Nat.le_of_ble_eq_true rfl) dX9_image_32 (fun H ad1 had hM hS => ?_)
          rw [← had (0) (hG.1 0 (by decide))] at hl
          refine lv_dup hx hb dX9_image_35 rfl ?_
          refine m_callv (m_runIN (130) (As := []) (rest := [.ref (ad1 (130))]) hx hb hml hown hts hE hM hS hA ce_X8_init (List.mem_of_getElem? (i := 0) rfl) (C_X8_init l D A ad1 (ns ++ [130]) I L G (130) (List.mem_append_right _ (List.mem_singleton.mpr rfl)) (by decide) (nin1 (fv 1 (by decide)) (by omega)) (nin1 (fv 2 (by decide)) (by omega)) (nin1 (fv 3 (by decide)) (by omega)) (nin1 (fv 4 (by decide)) (by omega)) (nin1 (fv 5 (by decide)) (by omega)) (nin1 (fv 6 (by decide)) (by omega)) (nin1 (fv 7 (by decide)) (by omega)) (nin1 (fv 8 (by decide)) (by omega))) rfl rfl ⟨Nat.le_of_ble_eq_true rfl, Nat.le_of_ble_eq_true rfl⟩  rfl hl.1 rfl (Nat.le_of_ble_eq_true rfl) dX9_image_36 ⟨Nat.le_of_ble_eq_true rfl, Nat.le_of_ble_eq_true rfl⟩) hS (fun u H locs hw hM hS => ?_)
          obtain ⟨ad2, rfl, had2⟩ := hw
          obtain ⟨nsv, ensv⟩ : ∃ z : List Nat, z = (((((((((ns ++ [130]) ++ [130 + 1]) ++ [130 + 2]) ++ [130 + 3]) ++ [130 + 4]) ++ [130 + 5]) ++ [130 + 6]) ++ [130 + 7]) ++ [130 + 8]) := ⟨_, rfl⟩
          obtain ⟨Gv, eGv⟩ : ∃ z : MG, z = (u2 (u2 (u2 (u2 (u2 (u2 (u2 (u2 G (130) 10 (130 + 1)) (130) 11 (130 + 2)) (130) 12 (130 + 3)) (130) 13 (130 + 4)) (130) 14 (130 + 5)) (130) 15 (130 + 6)) (130) 16 (130 + 7)) (130) 17 (130 + 8)) := ⟨_, rfl⟩
          have hM : Mem D A ad2 nsv I L Gv H := by rw [ensv, eGv]; exact hM
          have hnsv : ∀ x, x ∈ nsv ↔ x ∈ ns ∨ (130 ≤ x ∧ x < 130 + 9) := by intro x; rw [ensv]; by_cases hx : x ∈ ns <;> simp only [List.mem_append, List.mem_singleton, hx, true_or, false_or, iff_self] <;> omega
          have hext : Ext ns ad nsv ad2 := fun x hx => ⟨(hnsv x).mpr (Or.inl hx), (had2 x (List.mem_append_left _ hx)).trans (had x hx)⟩
          rw [← had2 (0) (List.mem_append_left _ (hG.1 0 (by decide)))] at hl
          rw [← had2 (130) (List.mem_append_right _ (List.mem_singleton.mpr rfl))]
          have hG : SGC nsv Gv := ⟨fun n hn => (hnsv n).mpr (Or.inl (hG0.1 n hn)), fun t ht => by rw [eGv]; have := feC_r t ht; rw [u2_ne _ _ _ (by omega), u2_ne _ _ _ (by omega), u2_ne _ _ _ (by omega), u2_ne _ _ _ (by omega), u2_ne _ _ _ (by omega), u2_ne _ _ _ (by omega), u2_ne _ _ _ (by omega), u2_ne _ _ _ (by omega)]; exact hG0.2 t ht⟩
          refine lv_astore_n (lv' := [(2, .ref (ad2 (130))), (0, .ref (ad2 (0))), (1, .int (a0))]) hx hb dX9_image_39 rfl hl (by decide) rfl (fun ls hl => ?_)
          refine lv_aload_n hx hb dX9_image_40 rfl (lv_at hl 1 rfl) ?_
          refine m_getr (0) 2 (1) hx hb hts hown hE oc9 hM ((hnsv 0).mpr (Or.inl (hG0.1 0 (by decide)))) rfl (by decide) rfl (hG.2 (0, 2, 1) (by decide)) (by decide) tb_400 dX9_image_41 ?_
          refine lv_iload_n hx hb dX9_image_44 rfl (lv_at hl 2 rfl) ?_
          refine lv_aload_n hx hb dX9_image_45 rfl (lv_at hl 0 rfl) ?_
          refine m_aast (1) (130) hx hb hE hM hS (hG.1 1 (by decide)) rfl ((hnsv (130)).mpr (Or.inr (by omega))) (by decide) rfl (by decide) (vp_in_iff.mpr (by omega)) dX9_image_46 (fun H locs G12 eG12 hM hS => ?_)
          subst eG12
          rw [hkk] at hM
          have hG : SGC nsv (u2 Gv 1 1 130) := sgc_putn hG (by decide)
          have hgb : ∀ j, j < 8 → u2 Gv 1 1 130 130 (10 + j) = 130 + 1 + j := by
            intro j hj
            rw [u2_ne _ _ _ (by decide), eGv]
            rcases (show j = 0 ∨ j = 1 ∨ j = 2 ∨ j = 3 ∨ j = 4 ∨ j = 5 ∨ j = 6 ∨ j = 7 by omega) with rfl | rfl | rfl | rfl | rfl | rfl | rfl | rfl <;> simp [u2_v]
          have hT : TOK nsv (u2 Gv 1 1 130) 130 := ⟨by decide, fun j hj => (hnsv _).mpr (Or.inr (by omega)), hgb⟩
          refine lv_aload_n hx hb dX9_image_47 rfl (lv_at hl 0 rfl) ?_
          refine lv_aload_n hx hb dX9_image_48 rfl (lv_at hl 1 rfl) ?_
          refine m_getr (0) 0 (100) hx hb hts hown hE oc9 hM ((hnsv 0).mpr (Or.inl (hG0.1 0 (by decide)))) rfl (by decide) rfl (hG.2 (0, 0, 100) (by decide)) (by decide) tb_398 dX9_image_49 ?_
          refine m_callv (m_runV (130) (As := [.ref (ad2 (100))]) (rest := []) hx hb hml hown hts hE hM hS hA ce_X8_copyFrom tb_1147 (V_X8_copyFrom_130_100 l D A ad2 nsv I L (u2 Gv 1 1 130) hG hI hT) rfl rfl ⟨Nat.le_of_ble_eq_true rfl, Nat.le_of_ble_eq_true rfl⟩ ((hnsv (130)).mpr (Or.inr (by omega))) rfl rfl (by decide) rfl hl.1 rfl (Nat.le_of_ble_eq_true rfl) dX9_image_52 ⟨Nat.le_of_ble_eq_true rfl, Nat.le_of_ble_eq_true rfl⟩) hS (fun u H locs hw hM hS => ?_)
          obtain ⟨I13, L14, rfl, hI, hkI13⟩ := hw
          have hM : Mem D A ad2 nsv I13 L14 (u2 Gv 1 1 130) H := hM
          have hK := hK.trans hkI13 rfl
          refine lv_aload_n hx hb dX9_image_55 rfl (lv_at hl 1 rfl) ?_
          refine m_getr (0) 0 (100) hx hb hts hown hE oc9 hM ((hnsv 0).mpr (Or.inl (hG0.1 0 (by decide)))) rfl (by decide) rfl (hG.2 (0, 0, 100) (by decide)) (by decide) tb_398 dX9_image_56 ?_
          refine m_geti (100) 6 hx hb hts hown hE oc8 hM (hG.1 100 (by decide)) rfl (by decide) rfl tb_56 dX9_image_59 ?_
          have z15 : I13 (100) 6 = I (100) 6 := (hkI13.get (100) 6 rfl)
          rw [z15]
          have hga : ∀ n k, ¬ (n = 1 ∧ k = 1) → n ≠ 130 → u2 Gv 1 1 130 n k = G n k := fun n k h1 h4 => by rw [u2_v, if_neg h1, eGv, u2_ne _ _ _ h4, u2_ne _ _ _ h4, u2_ne _ _ _ h4, u2_ne _ _ _ h4, u2_ne _ _ _ h4, u2_ne _ _ _ h4, u2_ne _ _ _ h4, u2_ne _ _ _ h4]
          exact m_iret hx hb hr hlocks hM hS (Nat.le_of_ble_eq_true rfl) (Nat.le_of_ble_eq_true rfl) ⟨_, _, _, _, _, rfl, hI, cw_img (kk := 1) (b := 130) rfl (by decide) hC ((hkI13.get (0) 14 rfl)) hga (u2_self _ _ _ _) hgb hnsv, hext, fun n hn => ⟨hK.out rfl n hn, funext fun k => hga n k (by omega) (by omega)⟩⟩ dX9_image_62
        · rw [show rn ad (G 1 1) = some (ad 130) from by rw [hz]; rfl]
          refine lv_astore_n (lv' := [(2, .ref (ad (130))), (0, .ref (ad (0))), (1, .int (a0))]) hx hb dX9_image_27 rfl hl (by decide) rfl (fun ls hl => ?_)
          refine lv_aload_n hx hb dX9_image_28 rfl (lv_at hl 0 rfl) ?_
          refine lv_ifnonnull (tgt := 47) hx hb dX9_image_29 (by decide) ?_
          refine lv_aload_n hx hb dX9_image_47 rfl (lv_at hl 0 rfl) ?_
          refine lv_aload_n hx hb dX9_image_48 rfl (lv_at hl 1 rfl) ?_
          refine m_getr (0) 0 (100) hx hb hts hown hE oc9 hM (hG.1 0 (by decide)) rfl (by decide) rfl (hG.2 (0, 0, 100) (by decide)) (by decide) tb_398 dX9_image_49 ?_
          refine m_callv (m_runV (130) (As := [.ref (ad (100))]) (rest := []) hx hb hml hown hts hE hM hS hA ce_X8_copyFrom tb_1147 (V_X8_copyFrom_130_100 l D A ad ns I L G hG hI hT) rfl rfl ⟨Nat.le_of_ble_eq_true rfl, Nat.le_of_ble_eq_true rfl⟩ (hT.2.1 0 (by decide)) rfl rfl (by decide) rfl hl.1 rfl (Nat.le_of_ble_eq_true rfl) dX9_image_52 ⟨Nat.le_of_ble_eq_true rfl, Nat.le_of_ble_eq_true rfl⟩) hS (fun u H locs hw hM hS => ?_)
          obtain ⟨I16, L17, rfl, hI, hkI16⟩ := hw
          have hM : Mem D A ad ns I16 L17 G H := hM
          have hK := hK.trans hkI16 rfl
          refine lv_aload_n hx hb dX9_image_55 rfl (lv_at hl 1 rfl) ?_
          refine m_getr (0) 0 (100) hx hb hts hown hE oc9 hM (hG.1 0 (by decide)) rfl (by decide) rfl (hG.2 (0, 0, 100) (by decide)) (by decide) tb_398 dX9_image_56 ?_
          refine m_geti (100) 6 hx hb hts hown hE oc8 hM (hG.1 100 (by decide)) rfl (by decide) rfl tb_56 dX9_image_59 ?_
          have z18 : I16 (100) 6 = I (100) 6 := (hkI16.get (100) 6 rfl)
          rw [z18]
          exact m_iret hx hb hr hlocks hM hS (Nat.le_of_ble_eq_true rfl) (Nat.le_of_ble_eq_true rfl) ⟨_, _, _, _, _, rfl, hI, cw_keep hC ((hkI16.get (0) 14 rfl)), Ext.rf, fun n hn => ⟨hK.out rfl n hn, rfl⟩⟩ dX9_image_62
      · have hkk := tn_n (i := a0) (n := 2) (by omega)
        rw [hkk]
        rcases hCI 2 (by decide) with ⟨hz, hz2⟩ | ⟨hz, hT⟩
        · rw [show rn ad (G 1 2) = none from by rw [hz]; rfl]
          have fv : ∀ i, i < 9 → 140 + i ∉ ns := fun i hi => hz2 i hi
          refine lv_astore_nN (lv' := [(2, .null), (0, .ref (ad (0))), (1, .int (a0))]) hx hb dX9_image_27 rfl hl (by decide) rfl (fun ls hl => ?_)
          refine lv_aload_nN hx hb dX9_image_28 rfl (lv_at hl 0 rfl) ?_
          refine lv_ifnonnullN hx hb dX9_image_29 ?_
          refine m_new (140) hx hb hts hown hE oc8 hM hS hA (fv 0 (by decide)) (by decide) rfl df8 tb_28 tb_29 tb_2 (Nat.le_of_ble_eq_true rfl) (Nat.le_of_ble_eq_true rfl) dX9_image_32 (fun H ad1 had hM hS => ?_)
          rw [← had (0) (hG.1 0 (by decide))] at hl
          refine lv_dup hx hb dX9_image_35 rfl ?_
          refine m_callv (m_runIN (140) (As := []) (rest := [.ref (ad1 (140))]) hx hb hml hown hts hE hM hS hA ce_X8_init (List.mem_of_getElem? (i := 0) rfl) (C_X8_init l D A ad1 (ns ++ [140]) I L G (140) (List.mem_append_right _ (List.mem_singleton.mpr rfl)) (by decide) (nin1 (fv 1 (by decide)) (by omega)) (nin1 (fv 2 (by decide)) (by omega)) (nin1 (fv 3 (by decide)) (by omega)) (nin1 (fv 4 (by decide)) (by omega)) (nin1 (fv 5 (by decide)) (by omega)) (nin1 (fv 6 (by decide)) (by omega)) (nin1 (fv 7 (by decide)) (by omega)) (nin1 (fv 8 (by decide)) (by omega))) rfl rfl ⟨Nat.le_of_ble_eq_true rfl, Nat.le_of_ble_eq_true rfl⟩  rfl hl.1 rfl (Nat.le_of_ble_eq_true rfl) dX9_image_36 ⟨Nat.le_of_ble_eq_true rfl, Nat.le_of_ble_eq_true rfl⟩) hS (fun u H locs hw hM hS => ?_)
          obtain ⟨ad2, rfl, had2⟩ := hw
          obtain ⟨nsv, ensv⟩ : ∃ z : List Nat, z = (((((((((ns ++ [140]) ++ [140 + 1]) ++ [140 + 2]) ++ [140 + 3]) ++ [140 + 4]) ++ [140 + 5]) ++ [140 + 6]) ++ [140 + 7]) ++ [140 + 8]) := ⟨_, rfl⟩
          obtain ⟨Gv, eGv⟩ : ∃ z : MG, z = (u2 (u2 (u2 (u2 (u2 (u2 (u2 (u2 G (140) 10 (140 + 1)) (140) 11 (140 + 2)) (140) 12 (140 + 3)) (140) 13 (140 + 4)) (140) 14 (140 + 5)) (140) 15 (140 + 6)) (140) 16 (140 + 7)) (140) 17 (140 + 8)) := ⟨_, rfl⟩
          have hM : Mem D A ad2 nsv I L Gv H := by rw [ensv, eGv]; exact hM
          have hnsv : ∀ x, x ∈ nsv ↔ x ∈ ns ∨ (140 ≤ x ∧ x < 140 + 9) := by intro x; rw [ensv]; by_cases hx : x ∈ ns <;> simp only [List.mem_append, List.mem_singleton, hx, true_or, false_or, iff_self] <;> omega
          have hext : Ext ns ad nsv ad2 := fun x hx => ⟨(hnsv x).mpr (Or.inl hx), (had2 x (List.mem_append_left _ hx)).trans (had x hx)⟩
          rw [← had2 (0) (List.mem_append_left _ (hG.1 0 (by decide)))] at hl
          rw [← had2 (140) (List.mem_append_right _ (List.mem_singleton.mpr rfl))]
          have hG : SGC nsv Gv := ⟨fun n hn => (hnsv n).mpr (Or.inl (hG0.1 n hn)), fun t ht => by rw [eGv]; have := feC_r t ht; rw [u2_ne _ _ _ (by omega), u2_ne _ _ _ (by omega), u2_ne _ _ _ (by omega), u2_ne _ _ _ (by omega), u2_ne _ _ _ (by omega), u2_ne _ _ _ (by omega), u2_ne _ _ _ (by omega), u2_ne _ _ _ (by omega)]; exact hG0.2 t ht⟩
          refine lv_astore_n (lv' := [(2, .ref (ad2 (140))), (0, .ref (ad2 (0))), (1, .int (a0))]) hx hb dX9_image_39 rfl hl (by decide) rfl (fun ls hl => ?_)
          refine lv_aload_n hx hb dX9_image_40 rfl (lv_at hl 1 rfl) ?_
          refine m_getr (0) 2 (1) hx hb hts hown hE oc9 hM ((hnsv 0).mpr (Or.inl (hG0.1 0 (by decide)))) rfl (by decide) rfl (hG.2 (0, 2, 1) (by decide)) (by decide) tb_400 dX9_image_41 ?_
          refine lv_iload_n hx hb dX9_image_44 rfl (lv_at hl 2 rfl) ?_
          refine lv_aload_n hx hb dX9_image_45 rfl (lv_at hl 0 rfl) ?_
          refine m_aast (1) (140) hx hb hE hM hS (hG.1 1 (by decide)) rfl ((hnsv (140)).mpr (Or.inr (by omega))) (by decide) rfl (by decide) (vp_in_iff.mpr (by omega)) dX9_image_46 (fun H locs G19 eG19 hM hS => ?_)
          subst eG19
          rw [hkk] at hM
          have hG : SGC nsv (u2 Gv 1 2 140) := sgc_putn hG (by decide)
          have hgb : ∀ j, j < 8 → u2 Gv 1 2 140 140 (10 + j) = 140 + 1 + j := by
            intro j hj
            rw [u2_ne _ _ _ (by decide), eGv]
            rcases (show j = 0 ∨ j = 1 ∨ j = 2 ∨ j = 3 ∨ j = 4 ∨ j = 5 ∨ j = 6 ∨ j = 7 by omega) with rfl | rfl | rfl | rfl | rfl | rfl | rfl | rfl <;> simp [u2_v]
          have hT : TOK nsv (u2 Gv 1 2 140) 140 := ⟨by decide, fun j hj => (hnsv _).mpr (Or.inr (by omega)), hgb⟩
          refine lv_aload_n hx hb dX9_image_47 rfl (lv_at hl 0 rfl) ?_
          refine lv_aload_n hx hb dX9_image_48 rfl (lv_at hl 1 rfl) ?_
          refine m_getr (0) 0 (100) hx hb hts hown hE oc9 hM ((hnsv 0).mpr (Or.inl (hG0.1 0 (by decide)))) rfl (by decide) rfl (hG.2 (0, 0, 100) (by decide)) (by decide) tb_398 dX9_image_49 ?_
          refine m_callv (m_runV (140) (As := [.ref (ad2 (100))]) (rest := []) hx hb hml hown hts hE hM hS hA ce_X8_copyFrom tb_1147 (V_X8_copyFrom_140_100 l D A ad2 nsv I L (u2 Gv 1 2 140) hG hI hT) rfl rfl ⟨Nat.le_of_ble_eq_true rfl, Nat.le_of_ble_eq_true rfl⟩ ((hnsv (140)).mpr (Or.inr (by omega))) rfl rfl (by decide) rfl hl.1 rfl (Nat.le_of_ble_eq_true rfl) dX9_image_52 ⟨Nat.le_of_ble_eq_true rfl, Nat.le_of_ble_eq_true rfl⟩) hS (fun u H locs hw hM hS => ?_)
          obtain ⟨I20, L21, rfl, hI, hkI20⟩ := hw
          have hM : Mem D A ad2 nsv I20 L21 (u2 Gv 1 2 140) H := hM
          have hK := hK.trans hkI20 rfl
          refine lv_aload_n hx hb dX9_image_55 rfl (lv_at hl 1 rfl) ?_
          refine m_getr (0) 0 (100) hx hb hts hown hE oc9 hM ((hnsv 0).mpr (Or.inl (hG0.1 0 (by decide)))) rfl (by decide) rfl (hG.2 (0, 0, 100) (by decide)) (by decide) tb_398 dX9_image_56 ?_
          refine m_geti (100) 6 hx hb hts hown hE oc8 hM (hG.1 100 (by decide)) rfl (by decide) rfl tb_56 dX9_image_59 ?_
          have z22 : I20 (100) 6 = I (100) 6 := (hkI20.get (100) 6 rfl)
          rw [z22]
          have hga : ∀ n k, ¬ (n = 1 ∧ k = 2) → n ≠ 140 → u2 Gv 1 2 140 n k = G n k := fun n k h1 h4 => by rw [u2_v, if_neg h1, eGv, u2_ne _ _ _ h4, u2_ne _ _ _ h4, u2_ne _ _ _ h4, u2_ne _ _ _ h4, u2_ne _ _ _ h4, u2_ne _ _ _ h4, u2_ne _ _ _ h4, u2_ne _ _ _ h4]
          exact m_iret hx hb hr hlocks hM hS (Nat.le_of_ble_eq_true rfl) (Nat.le_of_ble_eq_true rfl) ⟨_, _, _, _, _, rfl, hI, cw_img (kk := 2) (b := 140) rfl (by decide) hC ((hkI20.get (0) 14 rfl)) hga (u2_self _ _ _ _) hgb hnsv, hext, fun n hn => ⟨hK.out rfl n hn, funext fun k => hga n k (by omega) (by omega)⟩⟩ dX9_image_62
        · rw [show rn ad (G 1 2) = some (ad 140) from by rw [hz]; rfl]
          refine lv_astore_n (lv' := [(2, .ref (ad (140))), (0, .ref (ad (0))), (1, .int (a0))]) hx hb dX9_image_27 rfl hl (by decide) rfl (fun ls hl => ?_)
          refine lv_aload_n hx hb dX9_image_28 rfl (lv_at hl 0 rfl) ?_
          refine lv_ifnonnull (tgt := 47) hx hb dX9_image_29 (by decide) ?_
          refine lv_aload_n hx hb dX9_image_47 rfl (lv_at hl 0 rfl) ?_
          refine lv_aload_n hx hb dX9_image_48 rfl (lv_at hl 1 rfl) ?_
          refine m_getr (0) 0 (100) hx hb hts hown hE oc9 hM (hG.1 0 (by decide)) rfl (by decide) rfl (hG.2 (0, 0, 100) (by decide)) (by decide) tb_398 dX9_image_49 ?_
          refine m_callv (m_runV (140) (As := [.ref (ad (100))]) (rest := []) hx hb hml hown hts hE hM hS hA ce_X8_copyFrom tb_1147 (V_X8_copyFrom_140_100 l D A ad ns I L G hG hI hT) rfl rfl ⟨Nat.le_of_ble_eq_true rfl, Nat.le_of_ble_eq_true rfl⟩ (hT.2.1 0 (by decide)) rfl rfl (by decide) rfl hl.1 rfl (Nat.le_of_ble_eq_true rfl) dX9_image_52 ⟨Nat.le_of_ble_eq_true rfl, Nat.le_of_ble_eq_true rfl⟩) hS (fun u H locs hw hM hS => ?_)
          obtain ⟨I23, L24, rfl, hI, hkI23⟩ := hw
          have hM : Mem D A ad ns I23 L24 G H := hM
          have hK := hK.trans hkI23 rfl
          refine lv_aload_n hx hb dX9_image_55 rfl (lv_at hl 1 rfl) ?_
          refine m_getr (0) 0 (100) hx hb hts hown hE oc9 hM (hG.1 0 (by decide)) rfl (by decide) rfl (hG.2 (0, 0, 100) (by decide)) (by decide) tb_398 dX9_image_56 ?_
          refine m_geti (100) 6 hx hb hts hown hE oc8 hM (hG.1 100 (by decide)) rfl (by decide) rfl tb_56 dX9_image_59 ?_
          have z25 : I23 (100) 6 = I (100) 6 := (hkI23.get (100) 6 rfl)
          rw [z25]
          exact m_iret hx hb hr hlocks hM hS (Nat.le_of_ble_eq_true rfl) (Nat.le_of_ble_eq_true rfl) ⟨_, _, _, _, _, rfl, hI, cw_keep hC ((hkI23.get (0) 14 rfl)), Ext.rf, fun n hn => ⟨hK.out rfl n hn, rfl⟩⟩ dX9_image_62
      · have hkk := tn_n (i := a0) (n := 3) (by omega)
        rw [hkk]
        rcases hCI 3 (by decide) with ⟨hz, hz2⟩ | ⟨hz, hT⟩
        · rw [show rn ad (G 1 3) = none from by rw [hz]; rfl]
          have fv : ∀ i, i < 9 → 150 + i ∉ ns := fun i hi => hz2 i hi
          refine lv_astore_nN (lv' := [(2, .null), (0, .ref (ad (0))), (1, .int (a0))]) hx hb dX9_image_27 rfl hl (by decide) rfl (fun ls hl => ?_)
          refine lv_aload_nN hx hb dX9_image_28 rfl (lv_at hl 0 rfl) ?_
          refine lv_ifnonnullN hx hb dX9_image_29 ?_
          refine m_new (150) hx hb hts hown hE oc8 hM hS hA (fv 0 (by decide)) (by decide) rfl df8 tb_28 tb_29 tb_2 (Nat.le_of_ble_eq_true rfl) (Nat.le_of_ble_eq_true rfl) dX9_image_32 (fun H ad1 had hM hS => ?_)
          rw [← had (0) (hG.1 0 (by decide))] at hl
          refine lv_dup hx hb dX9_image_35 rfl ?_
          refine m_callv (m_runIN (150) (As := []) (rest := [.ref (ad1 (150))]) hx hb hml hown hts hE hM hS hA ce_X8_init (List.mem_of_getElem? (i := 0) rfl) (C_X8_init l D A ad1 (ns ++ [150]) I L G (150) (List.mem_append_right _ (List.mem_singleton.mpr rfl)) (by decide) (nin1 (fv 1 (by decide)) (by omega)) (nin1 (fv 2 (by decide)) (by omega)) (nin1 (fv 3 (by decide)) (by omega)) (nin1 (fv 4 (by decide)) (by omega)) (nin1 (fv 5 (by decide)) (by omega)) (nin1 (fv 6 (by decide)) (by omega)) (nin1 (fv 7 (by decide)) (by omega)) (nin1 (fv 8 (by decide)) (by omega))) rfl rfl ⟨Nat.le_of_ble_eq_true rfl, Nat.le_of_ble_eq_true rfl⟩  rfl hl.1 rfl (Nat.le_of_ble_eq_true rfl) dX9_image_36 ⟨Nat.le_of_ble_eq_true rfl, Nat.le_of_ble_eq_true rfl⟩) hS (fun u H locs hw hM hS => ?_)
          obtain ⟨ad2, rfl, had2⟩ := hw
          obtain ⟨nsv, ensv⟩ : ∃ z : List Nat, z = (((((((((ns ++ [150]) ++ [150 + 1]) ++ [150 + 2]) ++ [150 + 3]) ++ [150 + 4]) ++ [150 + 5]) ++ [150 + 6]) ++ [150 + 7]) ++ [150 + 8]) := ⟨_, rfl⟩
          obtain ⟨Gv, eGv⟩ : ∃ z : MG, z = (u2 (u2 (u2 (u2 (u2 (u2 (u2 (u2 G (150) 10 (150 + 1)) (150) 11 (150 + 2)) (150) 12 (150 + 3)) (150) 13 (150 + 4)) (150) 14 (150 + 5)) (150) 15 (150 + 6)) (150) 16 (150 + 7)) (150) 17 (150 + 8)) := ⟨_, rfl⟩
          have hM : Mem D A ad2 nsv I L Gv H := by rw [ensv, eGv]; exact hM
          have hnsv : ∀ x, x ∈ nsv ↔ x ∈ ns ∨ (150 ≤ x ∧ x < 150 + 9) := by intro x; rw [ensv]; by_cases hx : x ∈ ns <;> simp only [List.mem_append, List.mem_singleton, hx, true_or, false_or, iff_self] <;> omega
          have hext : Ext ns ad nsv ad2 := fun x hx => ⟨(hnsv x).mpr (Or.inl hx), (had2 x (List.mem_append_left _ hx)).trans (had x hx)⟩
          rw [← had2 (0) (List.mem_append_left _ (hG.1 0 (by decide)))] at hl
          rw [← had2 (150) (List.mem_append_right _ (List.mem_singleton.mpr rfl))]
          have hG : SGC nsv Gv := ⟨fun n hn => (hnsv n).mpr (Or.inl (hG0.1 n hn)), fun t ht => by rw [eGv]; have := feC_r t ht; rw [u2_ne _ _ _ (by omega), u2_ne _ _ _ (by omega), u2_ne _ _ _ (by omega), u2_ne _ _ _ (by omega), u2_ne _ _ _ (by omega), u2_ne _ _ _ (by omega), u2_ne _ _ _ (by omega), u2_ne _ _ _ (by omega)]; exact hG0.2 t ht⟩
          refine lv_astore_n (lv' := [(2, .ref (ad2 (150))), (0, .ref (ad2 (0))), (1, .int (a0))]) hx hb dX9_image_39 rfl hl (by decide) rfl (fun ls hl => ?_)
          refine lv_aload_n hx hb dX9_image_40 rfl (lv_at hl 1 rfl) ?_
          refine m_getr (0) 2 (1) hx hb hts hown hE oc9 hM ((hnsv 0).mpr (Or.inl (hG0.1 0 (by decide)))) rfl (by decide) rfl (hG.2 (0, 2, 1) (by decide)) (by decide) tb_400 dX9_image_41 ?_
          refine lv_iload_n hx hb dX9_image_44 rfl (lv_at hl 2 rfl) ?_
          refine lv_aload_n hx hb dX9_image_45 rfl (lv_at hl 0 rfl) ?_
          refine m_aast (1) (150) hx hb hE hM hS (hG.1 1 (by decide)) rfl ((hnsv (150)).mpr (Or.inr (by omega))) (by decide) rfl (by decide) (vp_in_iff.mpr (by omega)) dX9_image_46 (fun H locs G26 eG26 hM hS => ?_)
          subst eG26
          rw [hkk] at hM
          have hG : SGC nsv (u2 Gv 1 3 150) := sgc_putn hG (by decide)
          have hgb : ∀ j, j < 8 → u2 Gv 1 3 150 150 (10 + j) = 150 + 1 + j := by
            intro j hj
            rw [u2_ne _ _ _ (by decide), eGv]
            rcases (show j = 0 ∨ j = 1 ∨ j = 2 ∨ j = 3 ∨ j = 4 ∨ j = 5 ∨ j = 6 ∨ j = 7 by omega) with rfl | rfl | rfl | rfl | rfl | rfl | rfl | rfl <;> simp [u2_v]
          have hT : TOK nsv (u2 Gv 1 3 150) 150 := ⟨by decide, fun j hj => (hnsv _).mpr (Or.inr (by omega)), hgb⟩
          refine lv_aload_n hx hb dX9_image_47 rfl (lv_at hl 0 rfl) ?_
          refine lv_aload_n hx hb dX9_image_48 rfl (lv_at hl 1 rfl) ?_
          refine m_getr (0) 0 (100) hx hb hts hown hE oc9 hM ((hnsv 0).mpr (Or.inl (hG0.1 0 (by decide)))) rfl (by decide) rfl (hG.2 (0, 0, 100) (by decide)) (by decide) tb_398 dX9_image_49 ?_
          refine m_callv (m_runV (150) (As := [.ref (ad2 (100))]) (rest := []) hx hb hml hown hts hE hM hS hA ce_X8_copyFrom tb_1147 (V_X8_copyFrom_150_100 l D A ad2 nsv I L (u2 Gv 1 3 150) hG hI hT) rfl rfl ⟨Nat.le_of_ble_eq_true rfl, Nat.le_of_ble_eq_true rfl⟩ ((hnsv (150)).mpr (Or.inr (by omega))) rfl rfl (by decide) rfl hl.1 rfl (Nat.le_of_ble_eq_true rfl) dX9_image_52 ⟨Nat.le_of_ble_eq_true rfl, Nat.le_of_ble_eq_true rfl⟩) hS (fun u H locs hw hM hS => ?_)
          obtain ⟨I27, L28, rfl, hI, hkI27⟩ := hw
          have hM : Mem D A ad2 nsv I27 L28 (u2 Gv 1 3 150) H := hM
          have hK := hK.trans hkI27 rfl
          refine lv_aload_n hx hb dX9_image_55 rfl (lv_at hl 1 rfl) ?_
          refine m_getr (0) 0 (100) hx hb hts hown hE oc9 hM ((hnsv 0).mpr (Or.inl (hG0.1 0 (by decide)))) rfl (by decide) rfl (hG.2 (0, 0, 100) (by decide)) (by decide) tb_398 dX9_image_56 ?_
          refine m_geti (100) 6 hx hb hts hown hE oc8 hM (hG.1 100 (by decide)) rfl (by decide) rfl tb_56 dX9_image_59 ?_
          have z29 : I27 (100) 6 = I (100) 6 := (hkI27.get (100) 6 rfl)
          rw [z29]
          have hga : ∀ n k, ¬ (n = 1 ∧ k = 3) → n ≠ 150 → u2 Gv 1 3 150 n k = G n k := fun n k h1 h4 => by rw [u2_v, if_neg h1, eGv, u2_ne _ _ _ h4, u2_ne _ _ _ h4, u2_ne _ _ _ h4, u2_ne _ _ _ h4, u2_ne _ _ _ h4, u2_ne _ _ _ h4, u2_ne _ _ _ h4, u2_ne _ _ _ h4]
          exact m_iret hx hb hr hlocks hM hS (Nat.le_of_ble_eq_true rfl) (Nat.le_of_ble_eq_true rfl) ⟨_, _, _, _, _, rfl, hI, cw_img (kk := 3) (b := 150) rfl (by decide) hC ((hkI27.get (0) 14 rfl)) hga (u2_self _ _ _ _) hgb hnsv, hext, fun n hn => ⟨hK.out rfl n hn, funext fun k => hga n k (by omega) (by omega)⟩⟩ dX9_image_62
        · rw [show rn ad (G 1 3) = some (ad 150) from by rw [hz]; rfl]
          refine lv_astore_n (lv' := [(2, .ref (ad (150))), (0, .ref (ad (0))), (1, .int (a0))]) hx hb dX9_image_27 rfl hl (by decide) rfl (fun ls hl => ?_)
          refine lv_aload_n hx hb dX9_image_28 rfl (lv_at hl 0 rfl) ?_
          refine lv_ifnonnull (tgt := 47) hx hb dX9_image_29 (by decide) ?_
          refine lv_aload_n hx hb dX9_image_47 rfl (lv_at hl 0 rfl) ?_
          refine lv_aload_n hx hb dX9_image_48 rfl (lv_at hl 1 rfl) ?_
          refine m_getr (0) 0 (100) hx hb hts hown hE oc9 hM (hG.1 0 (by decide)) rfl (by decide) rfl (hG.2 (0, 0, 100) (by decide)) (by decide) tb_398 dX9_image_49 ?_
          refine m_callv (m_runV (150) (As := [.ref (ad (100))]) (rest := []) hx hb hml hown hts hE hM hS hA ce_X8_copyFrom tb_1147 (V_X8_copyFrom_150_100 l D A ad ns I L G hG hI hT) rfl rfl ⟨Nat.le_of_ble_eq_true rfl, Nat.le_of_ble_eq_true rfl⟩ (hT.2.1 0 (by decide)) rfl rfl (by decide) rfl hl.1 rfl (Nat.le_of_ble_eq_true rfl) dX9_image_52 ⟨Nat.le_of_ble_eq_true rfl, Nat.le_of_ble_eq_true rfl⟩) hS (fun u H locs hw hM hS => ?_)
          obtain ⟨I30, L31, rfl, hI, hkI30⟩ := hw
          have hM : Mem D A ad ns I30 L31 G H := hM
          have hK := hK.trans hkI30 rfl
          refine lv_aload_n hx hb dX9_image_55 rfl (lv_at hl 1 rfl) ?_
          refine m_getr (0) 0 (100) hx hb hts hown hE oc9 hM (hG.1 0 (by decide)) rfl (by decide) rfl (hG.2 (0, 0, 100) (by decide)) (by decide) tb_398 dX9_image_56 ?_
          refine m_geti (100) 6 hx hb hts hown hE oc8 hM (hG.1 100 (by decide)) rfl (by decide) rfl tb_56 dX9_image_59 ?_
          have z32 : I30 (100) 6 = I (100) 6 := (hkI30.get (100) 6 rfl)
          rw [z32]
          exact m_iret hx hb hr hlocks hM hS (Nat.le_of_ble_eq_true rfl) (Nat.le_of_ble_eq_true rfl) ⟨_, _, _, _, _, rfl, hI, cw_keep hC ((hkI30.get (0) 14 rfl)), Ext.rf, fun n hn => ⟨hK.out rfl n hn, rfl⟩⟩ dX9_image_62
    · have hc4 := c4
      have q4 := xr3.f hc4
      refine lv_iconst (v := (-1)) hx hb dX9_image_19 (by decide) ?_
      exact m_iret hx hb hr hlocks hM hS (Nat.le_of_ble_eq_true rfl) (Nat.le_of_ble_eq_true rfl) ⟨_, _, _, _, _, rfl, hI, hC, Ext.rf, fun n _ => ⟨rfl, rfl⟩⟩ dX9_image_20
