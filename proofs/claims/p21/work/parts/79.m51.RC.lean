-- rock
def Sim (s t : (Nat → Int32) × Int32) : Prop := (∀ c, c < 576 → s.1 c = t.1 c) ∧ s.2 = t.2
theorem rkR_sim {v : Int32} {r : Nat} (hr : r < 24) : ∀ (m x : Nat) (s t : (Nat → Int32) × Int32), x + m ≤ 24 → Sim s t → Sim (rkR v r m x s) (rkR v r m x t) := by
  intro m
  induction m with
  | zero => intro x s t _ h; exact h
  | succ m ih =>
    intro x s t hx h
    simp only [rkR]
    refine ih (x + 1) _ _ (by omega) ⟨fun c hc => ?_, ?_⟩
    · simp only [rkC]
      split
      · rfl
      · exact h.1 c hc
    · simp only [h.1 (24 * r + x) (by omega), h.2]
theorem rkA_sim {v : Int32} {x w : Nat} (hx : x + w ≤ 24) : ∀ (m y : Nat) (s t : (Nat → Int32) × Int32), y + m ≤ 24 → Sim s t → Sim (rkA v x w m y s) (rkA v x w m y t) := by
  intro m
  induction m with
  | zero => intro y s t _ h; exact h
  | succ m ih =>
    intro y s t hy h
    simp only [rkA]
    exact ih (y + 1) _ _ (by omega) (rkR_sim (by omega) w x s t hx h)
theorem rkR_01 {v : Int32} (hv : v.toInt = 0 ∨ v.toInt = 1) {r : Nat} : ∀ (m x : Nat) (s : (Nat → Int32) × Int32), (∀ c, c < 576 → (s.1 c).toInt = 0 ∨ (s.1 c).toInt = 1) → ∀ c, c < 576 → ((rkR v r m x s).1 c).toInt = 0 ∨ ((rkR v r m x s).1 c).toInt = 1 := by
  intro m
  induction m with
  | zero => intro x s h; exact h
  | succ m ih =>
    intro x s h
    simp only [rkR]
    refine ih (x + 1) _ (fun c hc => ?_)
    simp only [rkC]
    split
    · exact hv
    · exact h c hc
theorem rkA_01 {v : Int32} (hv : v.toInt = 0 ∨ v.toInt = 1) {x w : Nat} : ∀ (m y : Nat) (s : (Nat → Int32) × Int32), (∀ c, c < 576 → (s.1 c).toInt = 0 ∨ (s.1 c).toInt = 1) → ∀ c, c < 576 → ((rkA v x w m y s).1 c).toInt = 0 ∨ ((rkA v x w m y s).1 c).toInt = 1 := by
  intro m
  induction m with
  | zero => intro y s h; exact h
  | succ m ih =>
    intro y s h
    simp only [rkA]
    exact ih (y + 1) _ (rkR_01 hv w x s h)
theorem nc_1 {n : Nat} (h : n ≠ 2) : nc n ≠ 1 := by unfold nc; (repeat' split) <;> omega
theorem cf2 {b : Nat} {J : MI} {k : Nat} : cF b J 2 k = J (b + 1) k := by
  unfold cF
  rw [if_neg (by decide)]
  show J (b + 1) (0 + k) = J (b + 1) k
  rw [Nat.zero_add]
theorem TWK.rock {I I1 I2 : MI} {ok1 ok2 : Prop} {r1 r2 a b c d v : Int32} (h : TWK I 100 (live I)) (y1 : RKX ok1 r1 I I1 101 a b c d v) (y2 : RKX ok2 r2 I1 I2 1002 a b c d v) (e : ok1 ↔ ok2) (hr : ok1 → (0 ≤ a.toInt ∧ a.toInt ≤ c.toInt ∧ c.toInt ≤ 23) ∧ 0 ≤ b.toInt ∧ b.toInt ≤ d.toInt ∧ d.toInt ≤ 23) (hv : v.toInt = 0 ∨ v.toInt = 1) (e1 : ∀ n, n ≠ 101 → I1 n = I n) (e2 : ∀ n, n ≠ 1002 → I2 n = I1 n) : r1 = r2 ∧ TWK I2 100 (live I2) := by
  rcases y1 with ⟨h1, h2⟩ | ⟨h1, h2, h3⟩ <;> rcases y2 with ⟨g1, g2⟩ | ⟨g1, g2, g3⟩
  · have hb := hr h1
    have ta := tn (i := a) (by omega)
    have tb := tn (i := b) (by omega)
    have hs : Sim (I1 101, r1) (I2 1002, r2) := by
      rw [h2, g2]
      refine rkA_sim (by omega) _ _ _ _ (by omega) ⟨fun q hq => ?_, rfl⟩
      show I 101 q = I1 1002 q
      rw [e1 1002 (by decide)]
      exact ((h.1 2 q (by decide) (by decide) hq).trans cf2).symm
    have v1 : EqV (fun n k => if n = 2 then I1 101 k else cF 100 I n k) (cF 100 I1) := fun n k a1 a2 hk => by
      show cF 100 I1 n k = if n = 2 then I1 101 k else cF 100 I n k
      by_cases q : n = 2
      · rw [if_pos q, q]
        exact cf2
      · rw [if_neg q]
        unfold cF
        by_cases q1 : n = 1
        · rw [if_pos q1, if_pos q1]
          unfold sC
          rw [e1 100 (by decide)]
        · rw [if_neg q1, if_neg q1, e1 _ (by have := nc_1 q; omega)]
    have v2 : EqV (fun n k => if n = 2 then I2 1002 k else live I n k) (live I2) := fun n k a1 a2 hk => by
      show live I2 n k = if n = 2 then I2 1002 k else live I n k
      by_cases q : n = 2
      · rw [if_pos q, q]
        rfl
      · rw [if_neg q]
        show I2 (1000 + n) k = I (1000 + n) k
        rw [e2 _ (by omega), e1 _ (by omega)]
    have ve : EqV (fun n k => if n = 2 then I1 101 k else cF 100 I n k) (fun n k => if n = 2 then I2 1002 k else live I n k) := fun n k a1 a2 hk => by
      show (if n = 2 then I2 1002 k else live I n k) = if n = 2 then I1 101 k else cF 100 I n k
      by_cases q : n = 2
      · subst q
        rw [if_pos rfl, if_pos rfl]
        exact (hs.1 k hk).symm
      · rw [if_neg q, if_neg q]
        exact h.1 n k a1 a2 hk
    have hk : RKv (fun n k => if n = 2 then I1 101 k else cF 100 I n k) := by
      obtain ⟨k1, k2, k3⟩ := h.2.2.1
      refine ⟨k1, fun q hq => ?_, k3⟩
      have z := rkA_01 hv (x := a.toNatClampNeg) (w := (c.toInt + 1 - a.toInt).toNat) (d.toInt + 1 - b.toInt).toNat b.toNatClampNeg (I 101, 0) (fun q hq => by
        have := k2 q hq
        rw [cf2] at this
        exact this) q hq
      rw [← h2] at z
      exact z
    exact ⟨hs.2, TWK.new v1 v2 ve hk h.2.2.2 (h.yd v1 (e1 104 (by decide)) rfl rfl (fun _ _ => ⟨rfl, rfl, rfl, rfl⟩)) (fun n hn => e2 n (by omega))⟩
  · exact absurd (e.mp h1) g1
  · exact absurd (e.mpr g1) h1
  · refine ⟨h2.trans g2.symm, ?_⟩
    rw [show I2 = I from g3.trans h3]
    exact h
-- a new yard
theorem YLY.yrd {I I1 : MI} {a b c d t w : Int32} (hy : YLY 100 I) (h9 : 0 ≤ (I 100 9).toInt ∧ (I 100 9).toInt < 8) (hf : YF (I 104) (I1 104) (I 100 9) a b c d) (e : EqV (yrdV (cF 100 I) a b c d t w) (cF 100 I1)) : YLY 100 I1 := fun q hq => by
  have o1 : (1 : Int32).toInt = 1 := rfl
  have t9 := tn (i := I 100 9) h9.1
  have n9 : I1 100 9 = I 100 9 + 1 := e 1 9 (by decide) (by decide) (by decide)
  have a9 : (I 100 9 + 1).toInt = (I 100 9).toInt + 1 := (a_add rfl (by omega) (by omega)).trans (by rw [o1])
  have u9 := tn (i := I 100 9 + 1) (by omega)
  have hk : (I1 100 9).toNatClampNeg = (I 100 9).toNatClampNeg + 1 := by rw [n9]; omega
  have hN : (cF 100 I 1 9).toNatClampNeg = (I 100 9).toNatClampNeg := rfl
  generalize hNN : (I 100 9).toNatClampNeg = N at t9 hk hN
  have hw : ∀ m k, 17 ≤ m → m ≤ 20 → k < 8 → k < wdt m := fun m k a1 a2 a3 => by unfold wdt; (repeat' split) <;> omega
  have ho : ∀ m k, 17 ≤ m → m ≤ 20 → k < N → cF 100 I1 m k = cF 100 I m k := fun m k a1 a2 a3 => by
    rw [e m k (by omega) (by omega) (hw m k a1 a2 (by omega))]
    unfold yrdV
    rw [if_neg (by omega), hN, if_neg (by omega)]
  have hc : yo (cF 100 I1) q N = yo (cF 100 I) q N := yo_congr (fun k hk2 => ⟨ho 17 k (by decide) (by decide) hk2, ho 18 k (by decide) (by decide) hk2, ho 19 k (by decide) (by decide) hk2, ho 20 k (by decide) (by decide) hk2⟩)
  have w17 : cF 100 I1 17 N = a := (e 17 N (by decide) (by decide) (hw 17 N (by decide) (by decide) (by omega))).trans (by unfold yrdV; rw [if_neg (by omega)]; exact if_pos ⟨by decide, by decide, hN.symm⟩)
  have w18 : cF 100 I1 18 N = b := (e 18 N (by decide) (by decide) (hw 18 N (by decide) (by decide) (by omega))).trans (by unfold yrdV; rw [if_neg (by omega)]; exact if_pos ⟨by decide, by decide, hN.symm⟩)
  have w19 : cF 100 I1 19 N = c := (e 19 N (by decide) (by decide) (hw 19 N (by decide) (by decide) (by omega))).trans (by unfold yrdV; rw [if_neg (by omega)]; exact if_pos ⟨by decide, by decide, hN.symm⟩)
  have w20 : cF 100 I1 20 N = d := (e 20 N (by decide) (by decide) (hw 20 N (by decide) (by decide) (by omega))).trans (by unfold yrdV; rw [if_neg (by omega)]; exact if_pos ⟨by decide, by decide, hN.symm⟩)
  have hyi : yin (cF 100 I1) N q ↔ (b.toInt ≤ ((q / 24 : Nat) : Int) ∧ ((q / 24 : Nat) : Int) ≤ d.toInt ∧ a.toInt ≤ ((q % 24 : Nat) : Int) ∧ ((q % 24 : Nat) : Int) ≤ c.toInt) := by
    unfold yin
    rw [w17, w18, w19, w20]
    constructor
    · intro z; exact ⟨z.2.1, z.2.2, z.1.1, z.1.2⟩
    · intro z; exact ⟨⟨z.2.2.1, z.2.2.2⟩, z.1, z.2.1⟩
  have hy2 : (I 104 q).toInt = yo (cF 100 I) q N := by rw [← hNN]; exact hy q hq
  rw [hk]
  show (I1 104 q).toInt = yo (cF 100 I1) q (N + 1)
  rw [hf q hq]
  by_cases hm : (I 104 q).toInt = -1
  · have hc0 : yo (cF 100 I1) q N = -1 := by rw [hc, ← hy2]; exact hm
    by_cases hin : yin (cF 100 I1) N q
    · rw [yo_hit hc0 hin, if_pos ⟨hyi.mp hin, hm⟩]
      omega
    · rw [yo_miss hc0 hin, if_neg (fun z => hin (hyi.mpr z.1))]
      exact hm
  · have hst := yo_stay (F := cF 100 I1) (c := q) (k := N) (by rw [hc, ← hy2]; exact hm) (N + 1) (by omega)
    rw [hst, if_neg (fun z => hm z.2), hc]
    exact hy2
theorem RKv.yrd {V : VW} {x y x2 y2 t w : Int32} (h : RKv V) (h9 : (V 1 9).toInt < 8) (ht : 1 ≤ t.toInt ∧ t.toInt ≤ 1000) : RKv (yrdV V x y x2 y2 t w) := by
  obtain ⟨⟨h1, h2, h3, h4, h5, h6, h7⟩, g2, g3, g4, g5⟩ := h
  have o1 : (1 : Int32).toInt = 1 := rfl
  have a9 : (V 1 9 + 1).toInt = (V 1 9).toInt + 1 := (a_add rfl (by omega) (by omega)).trans (by rw [o1])
  refine ⟨⟨h1, h2, h3, h4, h5, h6, ?_⟩, g2, g3, g4, fun k hk => ?_⟩
  · show 0 ≤ (V 1 9 + 1).toInt ∧ (V 1 9 + 1).toInt ≤ 8
    omega
  · by_cases e : k = (V 1 9).toNatClampNeg
    · rw [show yrdV V x y x2 y2 t w 21 k = t from by unfold yrdV; rw [if_neg (by omega)]; exact if_pos ⟨by decide, by decide, e⟩]
      omega
    · rw [show yrdV V x y x2 y2 t w 21 k = V 21 k from by unfold yrdV; rw [if_neg (by omega), if_neg (fun z => e z.2.2)]]
      exact g5 k hk
theorem TWK.yard {I I1 I2 : MI} {ok1 ok2 : Prop} {r1 r2 a b c d t w : Int32} (h : TWK I 100 (live I)) (y1 : AYT ok1 r1 I I1 a b c d (yrdV (cF 100 I) a b c d t w) (cF 100 I1)) (y2 : ADT ok2 r2 (I1 1001 9) I1 I2 (yrdV (live I1) a b c d t w) (live I2)) (e : ok1 ↔ ok2) (hr : ok1 → 0 < (I 100 0).toInt ∧ (0 ≤ (I 100 9).toInt ∧ (I 100 9).toInt < 8) ∧ 1 ≤ t.toInt ∧ t.toInt ≤ 1000) (c1 : ∀ n, 1000 ≤ n → I1 n = I n) (c2 : ∀ n, n < 1000 → I2 n = I1 n) : r1 = r2 ∧ TWK I2 100 (live I2) := by
  rw [live_out c1, c1 1001 (by decide)] at y2
  have e9 : I 1001 9 = I 100 9 := h.1 1 9 (by decide) (by decide) (by decide)
  rcases y1 with ⟨h1, h2, h3, h4⟩ | ⟨h1, h2, h3⟩ <;> rcases y2 with ⟨g1, g2, g3⟩ | ⟨g1, g2, g3⟩
  · obtain ⟨q0, q9, qt⟩ := hr h1
    exact ⟨by rw [h2, g2, e9], TWK.new h4 g3 (yrdV_eq h.1) (h.2.2.1.yrd q9.2 qt) (BZ.of (show (cF 100 I 1 0).toInt = 1 from sc0_iff.mpr q0)) (fun _ => (h.2.1 q0).yrd q9 h3 h4) c2⟩
  · exact absurd (e.mp h1) g1
  · exact absurd (e.mpr g1) h1
  · refine ⟨h2.trans g2.symm, ?_⟩
    rw [show I2 = I from g3.trans h3]
    exact h
-- days
theorem TWK.days {I I1 I2 : MI} {ok1 ok2 : Prop} {r1 r2 : Int32} {n : Nat} {lw lw2 : LWt} (h : TWK I 100 (live I)) (hO : OKW (cF 100 I)) (y1 : DYW ok1 r1 I I1 (dayN lw (cF 100 I) n) (cF 100 I1)) (y2 : DYW ok2 r2 I1 I2 (dayN lw2 (live I1) n) (live I2)) (e : ok1 ↔ ok2) (hn : ok1 → (I 100 6).toInt + n ≤ 9999) (hL : ∀ n, n < 6 → lw2 n = lw n) (h4 : I1 104 = I 104) (c1 : ∀ n, 1000 ≤ n → I1 n = I n) (c2 : ∀ n, n < 1000 → I2 n = I1 n) : r1 = r2 ∧ TWK I2 100 (live I2) := by
  have ed : dayN lw2 (live I1) n = dayN lw (live I1) n := dayN_L hL (live I1) n
  rw [ed, live_out c1] at y2
  rcases y1 with ⟨h1, h2, h3⟩ | ⟨h1, h2, h3⟩ <;> rcases y2 with ⟨g1, g2, g3⟩ | ⟨g1, g2, g3⟩
  · have he := dayN_eq (L := lw) hO h.1 n
    have q := h.2.2.1.w
    have q6 : 0 ≤ (I 100 6).toInt ∧ (I 100 6).toInt ≤ 9999 := q.2
    have e6 : (dayN lw (cF 100 I) n 1 6).toInt = (I 100 6).toInt + n := dayN_6 n q6.1 (by have := hn h1; show (I 100 6).toInt + (n : Int) ≤ 20000; omega)
    have s : ∀ k, k ≠ 6 → dayN lw (cF 100 I) n 1 k = cF 100 I 1 k := fun k hk => dayN_st (by decide) (by decide) (by decide) (by omega) n
    refine ⟨h2.trans ((metV_eq he (dayN_ok hO n).n9).symm.trans g2.symm), TWK.new h3 g3 he ((dayN_rk q.1 n).v ?_) ?_ (h.yd h3 h4 (s 0 (by decide)) (s 9 (by decide)) (fun k _ => ⟨dayN_st (by decide) (by decide) (by decide) (by omega) n, dayN_st (by decide) (by decide) (by decide) (by omega) n, dayN_st (by decide) (by decide) (by decide) (by omega) n, dayN_st (by decide) (by decide) (by decide) (by omega) n⟩)) c2⟩
    · have := hn h1
      omega
    · unfold BZ
      rw [s 0 (by decide), s 8 (by decide), s 9 (by decide)]
      exact h.2.2.2
  · exact absurd (e.mp h1) g1
  · exact absurd (e.mpr g1) h1
  · refine ⟨h2.trans g2.symm, ?_⟩
    rw [show I2 = I from g3.trans h3]
    exact h
