theorem brk_le (s : List Int) : brk s ≤ dpt s := by
  induction s with
  | nil => exact Int.le_refl 0
  | cons t s ih =>
    rw [brk]
    by_cases h : t = -42
    · rw [if_pos h, dpt_n (Or.inr h)]; omega
    · rw [if_neg h]
      by_cases h2 : t = -14 ∨ t = -42
      · rw [dpt_n h2]; omega
      · rw [dpt_o h2]; omega
theorem brk_y {s : List Int} : brk (-42 :: s) = 1 + brk s := by rw [brk, if_pos rfl]
theorem brk_n {t : Int} {s : List Int} (h : t ≠ -42) : brk (t :: s) = brk s := by rw [brk, if_neg h]; omega
theorem apc_brk {v : Int} (hv : v ≠ -42) : ∀ {s : List Int} {d : Int32} {co : List Int}, brk (apc v s d co).1 = brk s := by
  intro s
  induction s with
  | nil => intro d co; rfl
  | cons t s ih =>
    intro d co
    by_cases h : t = v
    · subst h
      rw [apc_y, ih, brk_n hv]
    · rw [apc_n (fun x l e => by rw [← (List.cons.inj e).1]; exact h)]
theorem apc_w {v : Int} : ∀ {s : List Int} {d : Int32} {co : List Int}, WST s → WST (apc v s d co).1 ∧ ∀ x l, (apc v s d co).1 = x :: l → x ≠ v := by
  intro s
  induction s with
  | nil => intro d co _; exact ⟨trivial, fun x l e => by cases e⟩
  | cons t s ih =>
    intro d co h
    by_cases e : t = v
    · subst e
      rw [apc_y]
      exact ih h.2
    · rw [apc_n (fun x l e2 => by rw [← (List.cons.inj e2).1]; exact e)]
      exact ⟨h, fun x l e2 => by rw [← (List.cons.inj e2).1]; exact e⟩
theorem apc_d {v : Int} (hv : v ≠ -42) : ∀ {s : List Int} {d : Int32} {co : List Int}, d.toInt = dpt s → dpt s ≤ 10 → (apc v s d co).2.1.toInt = dpt (apc v s d co).1 ∧ dpt (apc v s d co).1 ≤ 10 := by
  intro s
  induction s with
  | nil => intro d co h h2; exact ⟨h, h2⟩
  | cons t s ih =>
    intro d co h h2
    by_cases e : t = v
    · subst e
      rw [apc_y]
      have hb := dpt_b s
      by_cases e2 : t = -14
      · rw [dpt_n (Or.inl e2)] at h h2
        rw [if_pos e2]
        refine ih ?_ (by omega)
        have := a_sub (x := d) (y := 1) rfl (by rw [show (1 : Int32).toInt = 1 from by decide]; omega) (by rw [show (1 : Int32).toInt = 1 from by decide]; omega)
        rw [this, show (1 : Int32).toInt = 1 from by decide]
        omega
      · rw [dpt_o (by omega)] at h h2
        rw [if_neg e2]
        exact ih h h2
    · rw [apc_n (fun x l e2 => by rw [← (List.cons.inj e2).1]; exact e)]
      exact ⟨h, h2⟩
-- all that a fact's end takes from the stack
def pz2 (s : List Int) (d : Int32) (co : List Int) : List Int × Int32 × List Int := apc2 (apc (-14) s d co)
def pz3 (s : List Int) (d : Int32) (co : List Int) : List Int × Int32 × List Int := apc3 (pz2 s d co)
theorem wst_t {x : Int} {l : List Int} (h : WST (x :: l)) : x = -14 ∨ x = -42 ∨ x = -24 ∨ x = -25 := by
  rcases h.1 with h1 | h1 | h1 | h1
  · exact Or.inl h1
  · exact Or.inr (Or.inl h1)
  · exact Or.inr (Or.inr (Or.inl h1.1))
  · exact Or.inr (Or.inr (Or.inr h1.1))
-- behind an 'and' on top there is no 'not': the word above it was taken away
theorem apc24 {s : List Int} {d : Int32} {co : List Int} (h : WST s) (hs : ∀ y m, s = y :: m → y ≠ -14) : ∀ x l, (apc (-24) s d co).1 = x :: l → x = -42 ∨ x = -25 := by
  intro x l e
  cases s with
  | nil => cases e
  | cons t s =>
    rcases h.1 with h1 | h1 | ⟨h1, h3⟩ | ⟨h1, h3⟩
    · exact absurd h1 (hs t s rfl)
    · rw [apc_n (fun x l e2 => by rw [← (List.cons.inj e2).1]; omega)] at e
      rw [← (List.cons.inj e).1]
      exact Or.inl h1
    · subst h1
      rw [apc_y, apc_n (fun x l e2 => by have := h3 x l e2; omega)] at e
      exact h3 x l e
    · rw [apc_n (fun x l e2 => by rw [← (List.cons.inj e2).1]; omega)] at e
      rw [← (List.cons.inj e).1]
      exact Or.inr h1
theorem apc25 {s : List Int} {d : Int32} {co : List Int} (h : WST s) (hs : ∀ y m, s = y :: m → y = -42 ∨ y = -25) : ∀ x l, (apc (-25) s d co).1 = x :: l → x = -42 := by
  intro x l e
  cases s with
  | nil => cases e
  | cons t s =>
    rcases hs t s rfl with h1 | h1
    · rw [apc_n (fun x l e2 => by rw [← (List.cons.inj e2).1]; omega)] at e
      rw [← (List.cons.inj e).1]
      exact h1
    · subst h1
      have h3 : ∀ y m, s = y :: m → y = -42 := by
        rcases h.1 with h6 | h6 | ⟨h6, -⟩ | ⟨-, h7⟩
        · exact absurd h6 (by decide)
        · exact absurd h6 (by decide)
        · exact absurd h6 (by decide)
        · exact h7
      rw [apc_y, apc_n (fun x l e2 => by rw [h3 x l e2]; decide)] at e
      exact h3 x l e
def WKD (s : List Int) (d : Int32) : Prop := WST s ∧ d.toInt = dpt s ∧ dpt s ≤ 10
theorem pz2_w {s : List Int} {d : Int32} {co : List Int} (h : WKD s d) : WKD (pz2 s d co).1 (pz2 s d co).2.1 ∧ (∀ x l, (pz2 s d co).1 = x :: l → x = -42 ∨ x = -25) ∧ brk (pz2 s d co).1 = brk s := by
  have h1 := apc_w (v := -14) (d := d) (co := co) h.1
  have h2 := apc_d (v := -14) (by decide) (co := co) h.2.1 h.2.2
  have h3 := apc_w (v := -24) (d := (apc (-14) s d co).2.1) (co := (apc (-14) s d co).2.2) h1.1
  have h4 := apc_d (v := -24) (by decide) (co := (apc (-14) s d co).2.2) h2.1 h2.2
  exact ⟨⟨h3.1, h4⟩, apc24 h1.1 h1.2, (apc_brk (by decide)).trans (apc_brk (by decide))⟩
theorem pz3_w {s : List Int} {d : Int32} {co : List Int} (h : WKD s d) : WKD (pz3 s d co).1 (pz3 s d co).2.1 ∧ (∀ x l, (pz3 s d co).1 = x :: l → x = -42) ∧ brk (pz3 s d co).1 = brk s := by
  have h0 := pz2_w (co := co) h
  have h3 := apc_w (v := -25) (d := (pz2 s d co).2.1) (co := (pz2 s d co).2.2) h0.1.1
  have h4 := apc_d (v := -25) (by decide) (co := (pz2 s d co).2.2) h0.1.2.1 h0.1.2.2
  exact ⟨⟨h3.1, h4⟩, apc25 h0.1.1 h0.2.1, (apc_brk (by decide)).trans h0.2.2⟩
theorem WKD.len {s : List Int} {d : Int32} (h : WKD s d) : (s.length : Int) ≤ 32 := by
  have := (wst_len s h.1).1
  have := h.2.2
  omega
-- facts
def NA4 (T : Nat → Int) (q : Nat) : Prop := T q ≠ 42 ∧ T q ≠ 43 ∧ T q ≠ 45 ∧ T q ≠ 47
def TSW (T : Nat → Int) (J : MI) (F : RES) (c : CLT) : Prop := ∃ f pl pt0 br, skp T pl = skp T (J 1000 25).toNatClampNeg ∧ br.toInt = brk (RK J) ∧ crun T f pl 2 pt0 (RK J) (J 1000 30) (RC J) br (J 1000 31).toInt c = some F
def TSB (T : Nat → Int) (J : MI) (F : RES) (c : CLT) : Prop := ∃ f pl pt A co br, (pt = 2 ∨ pt = 3) ∧ skp T pl = skp T (J 1000 25).toNatClampNeg ∧ br.toInt = brk (RK J) ∧ RC J = co ++ A ∧ (∀ x, x ∈ A → 4 ≤ rk x ∧ x ≠ -42 ∧ x ≠ -14) ∧ (pt = 2 → NA4 T (skp T (J 1000 25).toNatClampNeg)) ∧ crun T f pl 4 pt (A ++ RK J) (J 1000 30) co br (J 1000 31).toInt c = some F
def FCT (T : Nat → Int) (I J : MI) (r : Int) : Prop := ∀ (F : RES) (c : CLT), (I 1000 26).toInt = 0 → WKD (RK I) (I 1000 30) → TSW T I F c → OKF J F (WKD (RK J) (J 1000 30) ∧ (r = 0 → TSW T J F c) ∧ (r = 1 → TSB T J F c))
theorem i1 : (1 : Int32).toInt = 1 := by decide
theorem fct_push {T : Nat → Int} {I J : MI} {q : Nat} {o : Int} (hq : q = skp T (I 1000 25).toNatClampNeg) (ho : o = -14 ∨ o = -42) (htk : tkv T q = o) (hten : (I 1000 30).toInt = 10 → (J 1000 26).toInt = 1 + 8 * (q : Int) + 2) (hok : (I 1000 30).toInt ≠ 10 → (J 1000 26).toInt = 0 ∧ (J 1000 25).toNatClampNeg = q + tkn T q ∧ (J 1000 31).toInt = (I 1000 31).toInt ∧ RC J = RC I ∧ RK J = o :: RK I ∧ J 1000 30 = I 1000 30 + 1) : FCT T I J 0 := by
  intro F c hf hw hx
  obtain ⟨f, pl, pt0, br, hs, hbr, hr⟩ := hx
  obtain ⟨g, hg⟩ := crun_i hr
  rw [hs, cbo_2, ← hq, htk] at hg
  unfold cbF at hg
  rw [if_pos ho] at hg
  have hwl := hw.len
  obtain ⟨hw1, hw2, hw3⟩ := hw
  by_cases e : (I 1000 30).toInt = 10
  · rw [if_pos (by omega)] at hg
    exact okf_bad (hten e) (by omega) hg
  · rw [if_neg (by omega)] at hg
    obtain ⟨k1, k2, k3, k4, k5, k6⟩ := hok e
    have hps : psh (RK I) o = o :: RK I := if_pos (by omega)
    have hb1 := brk_le (RK I)
    have hb2 := brk_b (RK I)
    have hd1 := a_add (x := I 1000 30) (y := 1) rfl (by rw [i1]; omega) (by rw [i1]; omega)
    rw [i1] at hd1
    refine ⟨fun _ => ⟨⟨?_, ?_, ?_⟩, fun _ => ⟨g, q + tkn T q, pt0, _, by rw [k2], ?_, by rw [k5, k6, k4, k3, ← hps]; exact hg⟩, fun z => absurd z (by decide)⟩, fun z => absurd k1 z⟩
    · rw [k5]
      exact ⟨by omega, hw1⟩
    · rw [k5, k6, dpt_n ho]
      omega
    · rw [k5, dpt_n ho]
      omega
    · rw [k5]
      rcases ho with ho | ho
      · rw [brk_n (by omega), if_neg (by omega), show br + 0 = br from by simp]
        exact hbr
      · subst ho
        rw [brk_y, if_pos rfl]
        have := a_add (x := br) (y := 1) rfl (by rw [i1]; omega) (by rw [i1]; omega)
        rw [i1] at this
        omega
theorem fct_cmp {T : Nat → Int} {I J : MI} (h : CMP T I J) (ht : ¬ (tkv T (skp T (I 1000 25).toNatClampNeg) = -14 ∨ tkv T (skp T (I 1000 25).toNatClampNeg) = -42)) (hRK : RK J = RK I) (hdp : J 1000 30 = I 1000 30) (hna : (J 1000 26).toInt = 0 → NA4 T (skp T (J 1000 25).toNatClampNeg)) : FCT T I J 1 := by
  intro F c hf hw hx
  obtain ⟨f, pl, pt0, br, hs, hbr, hr⟩ := hx
  have hwl := hw.len
  have h1 := h F pt0 (RK I) (I 1000 30) br c hf ht (by omega) (wst_low hw.1) ⟨f, pl, hs, hr⟩
  refine ⟨fun e => ⟨by rw [hRK, hdp]; exact hw, fun z => absurd z (by decide), fun _ => ?_⟩, h1.2⟩
  obtain ⟨f2, pl2, A, co, k1, k2, k3, k4, k5⟩ := h1.1 e
  exact ⟨f2, pl2, 2, A, co, br, Or.inl rfl, k1, by rw [hRK]; exact hbr, k2, k3, fun _ => hna e, by rw [hRK, hdp]; exact k5⟩
theorem FCT.beg {T : Nat → Int} {I I2 J : MI} {r : Int} (h : FCT T I2 J r) (hf : (I2 1000 26).toInt = (I 1000 26).toInt) (hp : skp T (I2 1000 25).toNatClampNeg = skp T (I 1000 25).toNatClampNeg) (hc : (I2 1000 31).toInt = (I 1000 31).toInt) (hR : RC I2 = RC I) (hK : RK I2 = RK I) (hd : I2 1000 30 = I 1000 30) : FCT T I J r := by
  intro F c hfI hw hx
  refine h F c (by omega) (by rw [hK, hd]; exact hw) ?_
  unfold TSW
  rw [hp, hc, hR, hK, hd]
  exact hx
-- tests
def NCT (T : Nat → Int) (q : Nat) (pt : Int) : Prop := ¬ ((tkv T q ≤ -15 ∧ -18 ≤ tkv T q) ∧ pt ≠ 3) ∧ ¬ ((tkv T q = -24 ∨ tkv T q = -25) ∧ (pt = 2 ∨ pt = 3)) ∧ ¬ (tkv T q = -41 ∧ pt = 0) ∧ pt ≠ 1
def CEN (T : Nat → Int) (J : MI) (F : RES) (pt : Int) (c : CLT) : Prop := ∃ f pl st dp co, skp T pl = skp T (J 1000 25).toNatClampNeg ∧ popc 1 st dp co = ([], 0, RC J) ∧ NCT T (skp T (J 1000 25).toNatClampNeg) pt ∧ crun T f pl 4 pt st dp co 0 (J 1000 31).toInt c = some F
def TS0 (T : Nat → Int) (I : MI) (F : RES) (c : CLT) : Prop := ∃ f pl pt0, skp T pl = skp T (I 1000 25).toNatClampNeg ∧ crun T f pl 2 pt0 [] 0 (RC I) 0 (I 1000 31).toInt c = some F
def TSI (T : Nat → Int) (I J : MI) (wants on : Int) : Prop := ∀ (F : RES) (c : CLT), (I 1000 26).toInt = 0 → I 1000 30 = 0 → TS0 T I F c → OKF J F ((on = 1 → WKD (RK J) (J 1000 30) ∧ (wants = 1 → TSW T J F c) ∧ (wants = 0 → TSB T J F c)) ∧ (on = 0 → J 1000 30 = 0 ∧ ∃ pt, (pt = 2 ∨ pt = 3) ∧ CEN T J F pt c))
theorem tsi_0 {T : Nat → Int} {I J : MI} (hf : (J 1000 26).toInt = (I 1000 26).toInt) (hp : skp T (J 1000 25).toNatClampNeg = skp T (I 1000 25).toNatClampNeg) (hc : (J 1000 31).toInt = (I 1000 31).toInt) (hR : RC J = RC I) (hK : RK J = []) (hd : J 1000 30 = I 1000 30) : TSI T I J 1 1 := by
  intro F c hfI hdI hx
  obtain ⟨f, pl, pt0, hs, hr⟩ := hx
  refine ⟨fun _ => ⟨fun _ => ⟨?_, fun _ => ⟨f, pl, pt0, 0, by rw [hp]; exact hs, by rw [hK]; rfl, by rw [hK, hd, hdI, hR, hc]; exact hr⟩, fun z => absurd z (by decide)⟩, fun z => absurd z (by decide)⟩, fun z => absurd (hf.trans hfI) z⟩
  rw [hK, hd, hdI]
  exact ⟨trivial, rfl, by decide⟩
theorem tsi_fact {T : Nat → Int} {I J J2 : MI} {r w2 : Int} (h : TSI T I J 1 1) (hf : (J 1000 26).toInt = 0) (hF : FCT T J J2 r) (hr : (r = 0 ∧ w2 = 1) ∨ (r = 1 ∧ w2 = 0)) : TSI T I J2 w2 1 := by
  have a1 : w2 = 1 → r = 0 := by omega
  have a2 : w2 = 0 → r = 1 := by omega
  intro F c hfI hdI hx
  have h1 := (h F c hfI hdI hx).1 hf
  have h2 := h1.1 rfl
  have h3 := hF F c hf h2.1 (h2.2.1 rfl)
  refine ⟨fun e => ⟨fun _ => ⟨(h3.1 e).1, fun z => (h3.1 e).2.1 (a1 z), fun z => (h3.1 e).2.2 (a2 z)⟩, fun z => absurd z (by decide)⟩, h3.2⟩
-- behind a fact: all that is known there
theorem tsb_g {T : Nat → Int} {I J : MI} {F : RES} {c : CLT} (h : TSI T I J 0 1) (hf : (J 1000 26).toInt = 0) (hfI : (I 1000 26).toInt = 0) (hdI : I 1000 30 = 0) (hx : TS0 T I F c) : WKD (RK J) (J 1000 30) ∧ TSB T J F c := by
  have h2 := ((h F c hfI hdI hx).1 hf).1 rfl
  exact ⟨h2.1, h2.2.2 rfl⟩
theorem tsi_sign {T : Nat → Int} {I J J2 : MI} {q : Nat} {o : Int} {z : List Int × Int32 × List Int} (h : TSI T I J 0 1) (hf : (J 1000 26).toInt = 0) (hq : q = skp T (J 1000 25).toNatClampNeg) (htk : tkv T q = o) (ho : (o = -24 ∧ z = pz2 (RK J) (J 1000 30) (RC J)) ∨ (o = -25 ∧ z = pz3 (RK J) (J 1000 30) (RC J))) (hl : (RC J).length ≤ 360) (hf2 : (J2 1000 26).toInt = 0) (hp2 : (J2 1000 25).toNatClampNeg = q + tkn T q) (hc2 : (J2 1000 31).toInt = (J 1000 31).toInt) (hR2 : RC J2 = z.2.2) (hK2 : RK J2 = o :: z.1) (hd2 : J2 1000 30 = z.2.1) : TSI T I J2 1 1 := by
  intro F c hfI hdI hx
  obtain ⟨hw, f, pl, pt, A, co, br, hpt, hs, hbr, hRC, hA, hna, hr⟩ := tsb_g h hf hfI hdI hx
  have hwl := hw.len
  replace hl : (RC J).length + (RK J).length ≤ 400 := by omega
  obtain ⟨g, hg⟩ := crun_i hr
  rw [hs, cbo_4, ← hq, htk] at hg
  unfold cbB at hg
  have hz2 := pz2_w (co := RC J) hw
  have hz3 := pz3_w (co := RC J) hw
  have hlen : co.length + A.length ≤ 400 := by rw [← List.length_append, ← hRC]; omega
  have hpop : popc (rk o) (A ++ RK J) (J 1000 30) co = z := by
    rcases ho with ⟨ho, hz⟩ | ⟨ho, hz⟩
    · rw [show rk o = 2 from (rk_of (by omega)).symm, popc_app (fun x hx => ⟨by have := (hA x hx).1; omega, (hA x hx).2⟩) hlen, ← hRC, popc_2 hw.1 hl, hz]
      rfl
    · rw [show rk o = 1 from (rk_of (by omega)).symm, popc_app (fun x hx => ⟨by have := (hA x hx).1; omega, (hA x hx).2⟩) hlen, ← hRC, popc_1 hw.1 hl, hz]
      rfl
  have hzw : WKD z.1 z.2.1 ∧ brk z.1 = brk (RK J) ∧ WST (o :: z.1) := by
    rcases ho with ⟨ho, hz⟩ | ⟨ho, hz⟩
    · rw [hz]
      exact ⟨hz2.1, hz2.2.2, Or.inr (Or.inr (Or.inl ⟨ho, hz2.2.1⟩)), hz2.1.1⟩
    · rw [hz]
      exact ⟨hz3.1, hz3.2.2, Or.inr (Or.inr (Or.inr ⟨ho, hz3.2.1⟩)), hz3.1.1⟩
  have hzl := hzw.1.len
  rw [if_neg (by omega), if_neg (by omega), if_pos ⟨by omega, hpt⟩, hpop] at hg
  have hps : psh z.1 o = o :: z.1 := if_pos (by omega)
  have hg2 : crun T g (q + tkn T q) 2 1 (o :: z.1) z.2.1 z.2.2 br (J 1000 31).toInt c = some F := by rw [← hps]; exact hg
  refine ⟨fun _ => ⟨fun _ => ⟨⟨by rw [hK2]; exact hzw.2.2, by rw [hK2, hd2, dpt_o (by omega)]; exact hzw.1.2.1, by rw [hK2, dpt_o (by omega)]; exact hzw.1.2.2⟩, fun _ => ⟨g, _, 1, br, by rw [hp2], by rw [hK2, brk_n (by omega), hzw.2.1]; exact hbr, by rw [hK2, hd2, hR2, hc2]; exact hg2⟩, fun z => absurd z (by decide)⟩, fun z => absurd z (by decide)⟩, fun z => absurd hf2 z⟩
theorem tsi_close {T : Nat → Int} (hT : OKT T) {I J J2 : MI} {q : Nat} {s : List Int} (h : TSI T I J 0 1) (hf : (J 1000 26).toInt = 0) (hq : q = skp T (J 1000 25).toNatClampNeg) (htk : T q = 93) (hz : (pz3 (RK J) (J 1000 30) (RC J)).1 = -42 :: s) (hl : (RC J).length ≤ 360) (hf2 : (J2 1000 26).toInt = 0) (hp2 : (J2 1000 25).toNatClampNeg = q + 1) (hc2 : (J2 1000 31).toInt = (J 1000 31).toInt) (hR2 : RC J2 = (pz3 (RK J) (J 1000 30) (RC J)).2.2) (hK2 : RK J2 = s) (hd2 : J2 1000 30 = (pz3 (RK J) (J 1000 30) (RC J)).2.1 - 1) : TSI T I J2 0 1 := by
  intro F c hfI hdI hx
  obtain ⟨hw, f, pl, pt, A, co, br, hpt, hs, hbr, hRC, hA, hna, hr⟩ := tsb_g h hf hfI hdI hx
  have hwl := hw.len
  replace hl : (RC J).length + (RK J).length ≤ 400 := by omega
  obtain ⟨g, hg⟩ := crun_i hr
  have ht := tk_cl hT htk
  rw [hs, cbo_4, ← hq, ht.1, ht.2] at hg
  unfold cbB at hg
  have hz3 := pz3_w (co := RC J) hw
  have hlen : co.length + A.length ≤ 400 := by rw [← List.length_append, ← hRC]; omega
  have hpop : popc 1 (A ++ RK J) (J 1000 30) co = pz3 (RK J) (J 1000 30) (RC J) := by
    rw [popc_app (fun x hx => ⟨by have := (hA x hx).1; omega, (hA x hx).2⟩) hlen, ← hRC, popc_1 hw.1 hl]
    rfl
  have hb := hz3.2.2
  rw [hz, brk_y] at hb
  have hbs := brk_b s
  have hbl := brk_le (RK J)
  have hdl := hw.2.2
  rw [if_neg (by omega), if_neg (by omega), if_neg (by omega), if_pos ⟨rfl, hpt, by omega⟩, hpop, hz] at hg
  obtain ⟨⟨hz4, hz5, hz6⟩, -, -⟩ := hz3
  rw [hz] at hz4 hz5 hz6
  rw [dpt_n (Or.inr rfl)] at hz5 hz6
  have hds := dpt_b s
  have hd1 := a_sub (x := (pz3 (RK J) (J 1000 30) (RC J)).2.1) (y := 1) rfl (by rw [i1]; omega) (by rw [i1]; omega)
  rw [i1] at hd1
  have hb1 := a_sub (x := br) (y := 1) rfl (by rw [i1]; omega) (by rw [i1]; omega)
  rw [i1] at hb1
  refine ⟨fun _ => ⟨fun _ => ⟨⟨by rw [hK2]; exact hz4.2, by rw [hK2, hd2]; omega, by rw [hK2]; omega⟩, fun z => absurd z (by decide), fun _ => ⟨g, _, 3, [], RC J2, br - 1, Or.inr rfl, by rw [hp2], by rw [hK2]; omega, (List.append_nil _).symm, (fun x hx => by cases hx), fun z => absurd z (by decide), by rw [List.nil_append, hK2, hd2, hR2, hc2]; exact hg⟩⟩, fun z => absurd z (by decide)⟩, fun z => absurd hf2 z⟩
theorem tsi_bad {T : Nat → Int} (hT : OKT T) {I J J2 : MI} {q : Nat} {s : List Int} {w2 on2 : Int} (h : TSI T I J 0 1) (hf : (J 1000 26).toInt = 0) (hq : q = skp T (J 1000 25).toNatClampNeg) (htk : T q ≠ 93) (ha : wq T q [97, 110, 100] = false) (ho : wq T q [111, 114] = false) (hz : (pz3 (RK J) (J 1000 30) (RC J)).1 = -42 :: s) (hf2 : (J2 1000 26).toInt = 1 + 8 * (q : Int)) : TSI T I J2 w2 on2 := by
  intro F c hfI hdI hx
  obtain ⟨hw, f, pl, pt, A, co, br, hpt, hs, hbr, hRC, hA, hna, hr⟩ := tsb_g h hf hfI hdI hx
  obtain ⟨g, hg⟩ := crun_i hr
  rw [hs, cbo_4, ← hq] at hg
  unfold cbB at hg
  have hb := (pz3_w (co := RC J) hw).2.2
  rw [hz, brk_y] at hb
  have hbs := brk_b s
  have n1 : ¬ ((tkv T q ≤ -15 ∧ -18 ≤ tkv T q) ∧ pt ≠ 3) := fun e => by
    have h1 := tk_ar hT e.1
    rcases hpt with h2 | h2
    · have h3 := hna h2
      rw [← hq] at h3
      unfold NA4 at h3
      omega
    · exact e.2 h2
  have n3 : ¬ (tkv T q = -24 ∨ tkv T q = -25) := fun e => by
    rcases e with e | e
    · have := tk_and2 hT e
      rw [ha] at this
      cases this
    · have := tk_or2 hT e
      rw [ho] at this
      cases this
  have n4 : tkv T q ≠ -43 := fun e => htk (tk_cl2 hT e)
  have nb : br ≠ 0 := fun e => by rw [e] at hbr; have : (0 : Int32).toInt = 0 := by decide
                                  omega
  rw [if_neg n1, if_neg (by omega), if_neg (fun e => n3 e.1), if_neg (fun e => n4 e.1), if_neg (by omega), if_neg (fun e => nb e.2.2)] at hg
  exact okf_bad hf2 (by omega) hg
theorem tsi_end {T : Nat → Int} (hT : OKT T) {I J J2 : MI} {q : Nat} {w2 : Int} (h : TSI T I J 0 1) (hf : (J 1000 26).toInt = 0) (hq : q = skp T (J 1000 25).toNatClampNeg) (ha : wq T q [97, 110, 100] = false) (ho : wq T q [111, 114] = false) (hz : ∀ s, (pz3 (RK J) (J 1000 30) (RC J)).1 ≠ -42 :: s) (hl : (RC J).length ≤ 360) (hf2 : (J2 1000 26).toInt = 0) (hp2 : skp T (J2 1000 25).toNatClampNeg = q) (hc2 : (J2 1000 31).toInt = (J 1000 31).toInt) (hR2 : RC J2 = (pz3 (RK J) (J 1000 30) (RC J)).2.2) (hd2 : J2 1000 30 = (pz3 (RK J) (J 1000 30) (RC J)).2.1) : TSI T I J2 w2 0 := by
  intro F c hfI hdI hx
  obtain ⟨hw, f, pl, pt, A, co, br, hpt, hs, hbr, hRC, hA, hna, hr⟩ := tsb_g h hf hfI hdI hx
  have hwl := hw.len
  replace hl : (RC J).length + (RK J).length ≤ 400 := by omega
  have hz3 := pz3_w (co := RC J) hw
  have hlen : co.length + A.length ≤ 400 := by rw [← List.length_append, ← hRC]; omega
  have hpop : popc 1 (A ++ RK J) (J 1000 30) co = pz3 (RK J) (J 1000 30) (RC J) := by
    rw [popc_app (fun x hx => ⟨by have := (hA x hx).1; omega, (hA x hx).2⟩) hlen, ← hRC, popc_1 hw.1 hl]
    rfl
  have hnil : (pz3 (RK J) (J 1000 30) (RC J)).1 = [] := by
    cases e : (pz3 (RK J) (J 1000 30) (RC J)).1 with
    | nil => rfl
    | cons x l =>
      have := hz3.2.1 x l e
      rw [this] at e
      exact absurd e (hz l)
  have hd0 : (pz3 (RK J) (J 1000 30) (RC J)).2.1 = 0 := by
    have := hz3.1.2.1
    rw [hnil] at this
    exact Int32.toInt_inj.mp this
  have hb0 : br = 0 := by
    have := hz3.2.2
    rw [hnil] at this
    exact Int32.toInt_inj.mp (hbr.trans this.symm)
  have n1 : ¬ ((tkv T q ≤ -15 ∧ -18 ≤ tkv T q) ∧ pt ≠ 3) := fun e => by
    have h1 := tk_ar hT e.1
    rcases hpt with h2 | h2
    · have h3 := hna h2
      rw [← hq] at h3
      unfold NA4 at h3
      omega
    · exact e.2 h2
  have n3 : ¬ (tkv T q = -24 ∨ tkv T q = -25) := fun e => by
    rcases e with e | e
    · have := tk_and2 hT e
      rw [ha] at this
      cases this
    · have := tk_or2 hT e
      rw [ho] at this
      cases this
  refine ⟨fun _ => ⟨fun z => absurd z (by decide), fun _ => ⟨hd2.trans hd0, pt, hpt, f, pl, A ++ RK J, J 1000 30, co, by rw [hp2, hq]; exact hs, ?_, ⟨by rw [hp2]; exact n1, by rw [hp2]; exact fun e => n3 e.1, by omega, by omega⟩, by rw [hc2, ← hb0]; exact hr⟩⟩, fun z => absurd hf2 z⟩
  rw [hpop, hR2, ← hnil, ← hd0]
theorem pz2_of {s s1 : List Int} {d d1 : Int32} {co c1 : List Int} {z : List Int × Int32 × List Int} (h1 : apc (-14) s d co = (s1, d1, c1)) (h2 : apc (-24) s1 d1 c1 = z) : pz2 s d co = z := by
  unfold pz2 apc2
  rw [h1]
  exact h2
theorem pz3_of {s s1 : List Int} {d d1 : Int32} {co c1 : List Int} {z : List Int × Int32 × List Int} (h1 : pz2 s d co = (s1, d1, c1)) (h2 : apc (-25) s1 d1 c1 = z) : pz3 s d co = z := by
  unfold pz3 apc3
  rw [h1]
  exact h2
-- tables of clauses of the law that is read
def TBJ (J : MI) (c : CLT) (n : Nat) : Prop := ∀ i, i < n → (J 1038 (12 * (J 1000 27).toNatClampNeg + i)).toInt = c.2.1 i ∧ (J 1039 (12 * (J 1000 27).toNatClampNeg + i)).toInt = c.2.2.1 i ∧ (J 1040 (12 * (J 1000 27).toNatClampNeg + i)).toInt = c.2.2.2.1 i ∧ (J 1041 (12 * (J 1000 27).toNatClampNeg + i)).toInt = c.2.2.2.2 i
def fin2 (c : CLT) (pt : Int) (n : Nat) : CLT := edc (if pt = 0 then bgt c n else c) n
theorem TBJ.of {J J2 : MI} {c : CLT} {n : Nat} (h : TBJ J c n) (h38 : J2 1038 = J 1038) (h39 : J2 1039 = J 1039) (h40 : J2 1040 = J 1040) (h41 : J2 1041 = J 1041) (h27 : (J2 1000 27).toInt = (J 1000 27).toInt) : TBJ J2 c n := by
  unfold TBJ
  rw [h38, h39, h40, h41, cl_eq h27]
  exact h
theorem TBJ.z {J : MI} {c : CLT} : TBJ J c 0 := fun i hi => absurd hi (Nat.not_lt_zero i)
theorem fu_o {f : Nat → Int} {k i : Nat} {v : Int} (h : i ≠ k) : fu f k v i = f i := if_neg h
theorem fu_y {f : Nat → Int} {k : Nat} {v : Int} : fu f k v k = v := if_pos rfl
-- a clause more
def CL4 (I J : MI) (n : Nat) (t a b e : Int) : Prop := (J 1000 27).toInt = (I 1000 27).toInt ∧ (∀ i, i ≠ 12 * (I 1000 27).toNatClampNeg + n → J 1038 i = I 1038 i ∧ J 1039 i = I 1039 i ∧ J 1040 i = I 1040 i ∧ J 1041 i = I 1041 i) ∧ (J 1038 (12 * (I 1000 27).toNatClampNeg + n)).toInt = t ∧ (J 1039 (12 * (I 1000 27).toNatClampNeg + n)).toInt = a ∧ (J 1040 (12 * (I 1000 27).toNatClampNeg + n)).toInt = b ∧ (J 1041 (12 * (I 1000 27).toNatClampNeg + n)).toInt = e
theorem CL4.tbl {I J : MI} {t a b e : Int} {c c2 : CLT} (h : CL4 I J c.1 t a b e) (hb : TBJ I c c.1) (e1 : c2.2.1 = fu c.2.1 c.1 t) (e2 : c2.2.2.1 = fu c.2.2.1 c.1 a) (e3 : c2.2.2.2.1 = fu c.2.2.2.1 c.1 b) (e4 : c2.2.2.2.2 = fu c.2.2.2.2 c.1 e) : TBJ J c2 (c.1 + 1) := by
  intro i hi
  rw [cl_eq h.1, e1, e2, e3, e4]
  by_cases hq : i = c.1
  · subst hq
    rw [fu_y, fu_y, fu_y, fu_y]
    exact h.2.2
  · rw [fu_o hq, fu_o hq, fu_o hq, fu_o hq]
    obtain ⟨g1, g2, g3, g4⟩ := h.2.1 (12 * (I 1000 27).toNatClampNeg + i) (by omega)
    rw [g1, g2, g3, g4]
    exact hb i (by omega)
theorem CL4.tbl0 {I J : MI} {n a b : Nat} {t : Int} {c : CLT} (h : CL4 I J n t a b b) (hc : c.1 = n) (hn : n < 12) (hb : TBJ I c n) : TBJ J (fin2 (bgc c t a) 0 b) (n + 1) := by
  subst hc
  have e : fin2 (bgc c t a) 0 b = (c.1 + 1, fu c.2.1 c.1 t, fu c.2.2.1 c.1 a, fu c.2.2.2.1 c.1 b, fu c.2.2.2.2 c.1 b) := by
    simp only [fin2, bgc, bgt, edc, hn, if_true]
  rw [e]
  exact h.tbl hb rfl rfl rfl rfl
theorem CL4.tbl1 {I J : MI} {n a b e2 : Nat} {t pt : Int} {c : CLT} (h : CL4 I J n t a b e2) (hp : pt ≠ 0) (hc : c.1 = n) (hn : n < 12) (hb : TBJ I c n) : TBJ J (fin2 (bgt (bgc c t a) b) pt e2) (n + 1) := by
  subst hc
  have e : fin2 (bgt (bgc c t a) b) pt e2 = (c.1 + 1, fu c.2.1 c.1 t, fu c.2.2.1 c.1 a, fu c.2.2.2.1 c.1 b, fu c.2.2.2.2 c.1 e2) := by
    simp only [fin2, bgc, bgt, edc, hn, hp, if_true, if_false]
  rw [e]
  exact h.tbl hb rfl rfl rfl rfl
-- clauses
def CLW (T : Nat → Int) (I : MI) (F : RES) (c : CLT) : Prop := ∃ f pl pt, skp T pl = skp T (I 1000 25).toNatClampNeg ∧ crun T f pl 0 pt [] 0 (RC I) 0 (I 1000 31).toInt c = some F
def CLP (T : Nat → Int) (I J : MI) (n : Nat) : Prop := ∀ (F : RES) (c : CLT), (I 1000 26).toInt = 0 → c.1 = n → I 1000 30 = 0 → CLW T I F c → OKF J F (J 1000 30 = 0 ∧ n < 12 ∧ ∃ pt c2, c2.1 = n ∧ CEN T J F pt c2 ∧ (TBJ I c n → TBJ J (fin2 c2 pt (RC J).length) (n + 1)))
theorem clp_turn {T : Nat → Int} (hT : OKT T) {I J : MI} {q n : Nat} (hq : q = skp T (I 1000 25).toNatClampNeg) (hw : wq T q [116, 117, 114, 110] = false) (hf2 : (J 1000 26).toInt = 1 + 8 * (q : Int)) : CLP T I J n := by
  intro F c hf hn hd hx
  obtain ⟨f, pl, pt, hs, hr⟩ := hx
  obtain ⟨g, hg⟩ := crun_i hr
  rw [hs, cbo_0, ← hq] at hg
  unfold cbT at hg
  have n1 : tkv T q ≠ -40 := fun e => by
    have := tk_turn2 hT e
    rw [hw] at this
    cases this
  rw [if_pos n1] at hg
  exact okf_bad hf2 (by omega) hg
theorem clp_many {T : Nat → Int} {I J : MI} {q n : Nat} (hq : q = skp T (I 1000 25).toNatClampNeg) (hw : wq T q [116, 117, 114, 110] = true) (hn12 : 12 ≤ n) (hf2 : (J 1000 26).toInt = 1 + 8 * (q : Int) + 4) : CLP T I J n := by
  intro F c hf hn hd hx
  obtain ⟨f, pl, pt, hs, hr⟩ := hx
  obtain ⟨g, hg⟩ := crun_i hr
  rw [hs, cbo_0, ← hq] at hg
  unfold cbT at hg
  rw [if_neg (by have := (tk_turn hw).1; omega), if_pos (by omega)] at hg
  exact okf_bad hf2 (by omega) hg
-- behind the word: the mirror's number
def CLM (T : Nat → Int) (I : MI) (F : RES) (c : CLT) : Prop := ∃ f pl pt, skp T pl = skp T (I 1000 25).toNatClampNeg ∧ crun T f pl 1 pt [] 0 (RC I) 0 (I 1000 31).toInt c = some F
theorem clw_m {T : Nat → Int} {I J : MI} {q n : Nat} {F : RES} {c : CLT} (hq : q = skp T (I 1000 25).toNatClampNeg) (hw : wq T q [116, 117, 114, 110] = true) (hn12 : n < 12) (hn : c.1 = n) (hp : skp T (J 1000 25).toNatClampNeg = skp T (q + 4)) (hc : (J 1000 31).toInt = (I 1000 31).toInt) (hR : RC J = RC I) (hx : CLW T I F c) : CLM T J F c := by
  obtain ⟨f, pl, pt, hs, hr⟩ := hx
  obtain ⟨g, hg⟩ := crun_i hr
  have ht := tk_turn hw
  rw [hs, cbo_0, ← hq, ht.1, ht.2.1] at hg
  unfold cbT at hg
  rw [if_neg (by decide), if_neg (by omega)] at hg
  exact ⟨g, _, pt, hp.symm, by rw [hc, hR]; exact hg⟩
theorem clm_bad {T : Nat → Int} {I J : MI} {q : Nat} {F : RES} {c : CLT} {P : Prop} (hx : CLM T I F c) (hq : q = skp T (I 1000 25).toNatClampNeg) (h1 : tkv T q < 0 ∧ tkv T q ≠ -46 → (J 1000 26).toInt = 1 + 8 * (q : Int)) (h2 : tkv T q = -46 ∨ 24 ≤ tkv T q → (J 1000 26).toInt = 1 + 8 * (q : Int) + 1) (h3 : tkv T q < 0 ∨ 24 ≤ tkv T q) : OKF J F P := by
  obtain ⟨f, pl, pt, hs, hr⟩ := hx
  obtain ⟨g, hg⟩ := crun_i hr
  rw [hs, cbo_1, ← hq] at hg
  unfold cbM at hg
  by_cases e : tkv T q < 0 ∧ tkv T q ≠ -46
  · rw [if_pos e] at hg
    exact okf_bad (h1 e) (by omega) hg
  · rw [if_neg e, if_pos h3] at hg
    exact okf_bad (h2 (by omega)) (by omega) hg
theorem clm_ok {T : Nat → Int} {I J : MI} {q : Nat} {F : RES} {c : CLT} (hx : CLM T I F c) (hq : q = skp T (I 1000 25).toNatClampNeg) (h3 : 0 ≤ tkv T q ∧ tkv T q < 24) (hp : skp T (J 1000 25).toNatClampNeg = skp T (q + tkn T q)) (hc : (J 1000 31).toInt = (I 1000 31).toInt) (hR : RC J = RC I) : ATX T J F 0 [] 0 0 (bgc c (tkv T q) (RC I).length) := by
  obtain ⟨f, pl, pt, hs, hr⟩ := hx
  obtain ⟨g, hg⟩ := crun_i hr
  rw [hs, cbo_1, ← hq] at hg
  unfold cbM at hg
  rw [if_neg (by omega), if_neg (by omega)] at hg
  exact Or.inl ⟨g, _, hp.symm, by rw [hc, hR]; exact hg⟩
theorem bgc_1 {c : CLT} {t : Int} {n : Nat} : (bgc c t n).1 = c.1 := by
  unfold bgc
  by_cases h : c.1 < 12
  · rw [if_pos h]
  · rw [if_neg h]
theorem bgt_1 {c : CLT} {n : Nat} : (bgt c n).1 = c.1 := by
  unfold bgt
  by_cases h : c.1 < 12
  · rw [if_pos h]
  · rw [if_neg h]
theorem edc_1 {c : CLT} {n : Nat} (h : c.1 < 12) : (edc c n).1 = c.1 + 1 := by
  unfold edc
  rw [if_pos h]
theorem nil_low (r : Int) : LOW r [] := fun x l e => by cases e
theorem rk_1 {A : List Int} {r : Int} (h : ∀ x, x ∈ A → r ≤ rk x ∧ x ≠ -42 ∧ x ≠ -14) {r2 : Int} (hr : r2 ≤ r) : ∀ x, x ∈ A → r2 ≤ rk x ∧ x ≠ -42 ∧ x ≠ -14 := fun x hx => ⟨by have := (h x hx).1; omega, (h x hx).2⟩
-- a clause without a test
theorem clp_sum {T : Nat → Int} (hT : OKT T) {I J1 J2 J : MI} {n : Nat} {t : Int} (hpre : ∀ (F : RES) (c : CLT), (I 1000 26).toInt = 0 → c.1 = n → I 1000 30 = 0 → CLW T I F c → ATX T J1 F 0 [] 0 0 (bgc c t (RC I).length)) (hn : n < 12) (hf1 : (J1 1000 26).toInt = 0) (hs : EXP T J1 J2 5) (hna : (J2 1000 26).toInt = 0 → NA4 T (skp T (J2 1000 25).toNatClampNeg)) (hif : (J2 1000 26).toInt = 0 → wq T (skp T (J2 1000 25).toNatClampNeg) [105, 102] = false) (hf : (J 1000 26).toInt = (J2 1000 26).toInt) (hp : (J2 1000 26).toInt = 0 → skp T (J 1000 25).toNatClampNeg = skp T (J2 1000 25).toNatClampNeg ∧ (J 1000 31).toInt = (J2 1000 31).toInt ∧ RC J = RC J2) (hd : J 1000 30 = I 1000 30) (hl : (J2 1000 26).toInt = 0 → (RC J2).length ≤ 400) (htb : (J2 1000 26).toInt = 0 → CL4 I J n t (RC I).length (RC J2).length (RC J2).length) : CLP T I J n := by
  intro F c hfI hc hdI hx
  have hx2 := hpre F c hfI hc hdI hx
  have h1 := hs F 0 [] 0 0 (bgc c t (RC I).length) hf1 (by decide) (by decide) (nil_low 5) hx2
  refine ⟨fun e => ⟨hd.trans hdI, hn, 0, bgc c t (RC I).length, bgc_1.trans hc, ?_, fun hb => by rw [(hp (by omega)).2.2]; exact (htb (by omega)).tbl0 hc hn hb⟩, fun e => by rw [hf]; exact h1.2 (by omega)⟩
  have e2 : (J2 1000 26).toInt = 0 := by omega
  obtain ⟨f, pl, A, co, k1, k2, k3, k4, k5⟩ := h1.1 e2
  obtain ⟨p1, p2, p3⟩ := hp e2
  have hna2 := hna e2
  unfold NA4 at hna2
  have hlen : co.length + A.length ≤ 400 := by rw [← List.length_append, ← k2]; exact hl e2
  refine ⟨f, pl, A ++ [], 0, co, by rw [p1]; exact k1, ?_, ⟨fun z => ?_, by omega, fun z => ?_, by decide⟩, by rw [p2]; exact k5⟩
  · rw [popc_app (rk_1 k3 (by decide)) hlen, p3, k2]
    rfl
  · rw [p1] at z
    have := tk_ar hT z.1
    omega
  · rw [p1] at z
    have := tk_if2 hT z.1
    rw [hif e2] at this
    cases this
-- a clause with one
theorem clp_test {T : Nat → Int} (hT : OKT T) {I J1 J2 J3 J4 J : MI} {n : Nat} {t : Int} (hpre : ∀ (F : RES) (c : CLT), (I 1000 26).toInt = 0 → c.1 = n → I 1000 30 = 0 → CLW T I F c → ATX T J1 F 0 [] 0 0 (bgc c t (RC I).length)) (hn : n < 12) (hf1 : (J1 1000 26).toInt = 0) (hs : EXP T J1 J2 5) (hf2 : (J2 1000 26).toInt = 0) (hif : wq T (skp T (J2 1000 25).toNatClampNeg) [105, 102] = true) (hl : (RC J2).length ≤ 400) (hf3 : (J3 1000 26).toInt = 0) (hp3 : (J3 1000 25).toNatClampNeg = skp T (J2 1000 25).toNatClampNeg + 2) (hc3 : (J3 1000 31).toInt = (J2 1000 31).toInt) (hR3 : RC J3 = RC J2) (hd3 : J3 1000 30 = I 1000 30) {w on : Int} (ht : TSI T J3 J4 w on) (hon : (J4 1000 26).toInt = 0 → on = 0) (hf : (J 1000 26).toInt = (J4 1000 26).toInt) (hp : (J4 1000 26).toInt = 0 → skp T (J 1000 25).toNatClampNeg = skp T (J4 1000 25).toNatClampNeg ∧ (J 1000 31).toInt = (J4 1000 31).toInt ∧ RC J = RC J4 ∧ J 1000 30 = J4 1000 30) (htb : (J4 1000 26).toInt = 0 → CL4 I J n t (RC I).length (RC J2).length (RC J).length) : CLP T I J n := by
  intro F c hfI hc hdI hx
  have hx2 := hpre F c hfI hc hdI hx
  have h1 := hs F 0 [] 0 0 (bgc c t (RC I).length) hf1 (by decide) (by decide) (nil_low 5) hx2
  obtain ⟨f, pl, A, co, k1, k2, k3, k4, k5⟩ := h1.1 hf2
  obtain ⟨g, hg⟩ := crun_i k5
  have hti := tk_if hif
  have hlen : co.length + A.length ≤ 400 := by rw [← List.length_append, ← k2]; exact hl
  have hpop : popc 0 (A ++ []) 0 co = ([], 0, RC J2) := by
    rw [popc_app (rk_1 k3 (by decide)) hlen, k2]
    rfl
  rw [k1, cbo_4, hti.1, hti.2.1] at hg
  unfold cbB at hg
  rw [if_neg (by decide), if_neg (by decide), if_neg (by decide), if_neg (by decide), if_pos (by decide), hpop] at hg
  have h2 := ht F (bgt (bgc c t (RC I).length) (RC J2).length) hf3 (hd3.trans hdI) ⟨g, _, 0, by rw [hp3], by rw [hR3, hc3]; exact hg⟩
  refine ⟨fun e => ?_, fun e => by rw [hf]; exact h2.2 (by omega)⟩
  obtain ⟨p1, p2, p3, p4⟩ := hp (by omega)
  obtain ⟨hd4, pt, hpt, hcen⟩ := (h2.1 (by omega)).2 (hon (by omega))
  refine ⟨p4.trans hd4, hn, pt, bgt (bgc c t (RC I).length) (RC J2).length, bgt_1.trans (bgc_1.trans hc), ?_, fun hb => (htb (by omega)).tbl1 (by omega) hc hn hb⟩
  unfold CEN at hcen ⊢
  rw [p1, p2, p3]
  exact hcen
-- the law
def LWI (T : Nat → Int) (I J : MI) (n : Nat) (on : Int) : Prop := ∀ (F : RES) (c : CLT), (I 1000 26).toInt = 0 → c.1 = 0 → I 1000 30 = 0 → CLW T I F c → OKF J F ((on = 1 → J 1000 30 = 0 ∧ ∃ c2, c2.1 = n ∧ CLW T J F c2 ∧ TBJ J c2 n) ∧ (on = 0 → F.1 = 0 ∧ F.2.1 = RC J ∧ F.2.2.1 = n ∧ TBJ J F.2.2 n))
theorem lwi_0 {T : Nat → Int} {I : MI} : LWI T I I 0 1 := fun F c hf hc hd hx => ⟨fun _ => ⟨fun _ => ⟨hd, c, hc, hx, TBJ.z⟩, fun z => absurd z (by decide)⟩, fun z => absurd hf z⟩
theorem cen_b {T : Nat → Int} {J : MI} {F : RES} {pt : Int} {c : CLT} (h : CEN T J F pt c) : NCT T (skp T (J 1000 25).toNatClampNeg) pt ∧ ∃ g st dp co, popc 1 st dp co = ([], 0, RC J) ∧ cbB (crun T g) (skp T (J 1000 25).toNatClampNeg) (tkv T (skp T (J 1000 25).toNatClampNeg)) (skp T (J 1000 25).toNatClampNeg + tkn T (skp T (J 1000 25).toNatClampNeg)) pt st dp co 0 (J 1000 31).toInt c = some F := by
  obtain ⟨f, pl, st, dp, co, k1, k2, k3, k4⟩ := h
  obtain ⟨g, hg⟩ := crun_i k4
  rw [k1, cbo_4] at hg
  exact ⟨k3, g, st, dp, co, k2, hg⟩
theorem lwi_bad {T : Nat → Int} {I J J1 J2 : MI} {n n2 : Nat} {on2 : Int} (h : LWI T I J n 1) (hf : (J 1000 26).toInt = 0) (hc : CLP T J J1 n) (hf1 : (J1 1000 26).toInt ≠ 0) (hf2 : (J2 1000 26).toInt = (J1 1000 26).toInt) : LWI T I J2 n2 on2 := by
  intro F c hfI hcI hdI hx
  obtain ⟨hd, c2, hc2, hx2, hb2⟩ := ((h F c hfI hcI hdI hx).1 hf).1 rfl
  exact okf_keep (hc F c2 hf hc2 hd hx2) hf1 hf2
theorem lwi_wrong {T : Nat → Int} (hT : OKT T) {I J J1 J2 : MI} {n n2 q : Nat} {on2 : Int} (h : LWI T I J n 1) (hf : (J 1000 26).toInt = 0) (hc : CLP T J J1 n) (hf1 : (J1 1000 26).toInt = 0) (hq : q = skp T (J1 1000 25).toNatClampNeg) (h1 : T q ≠ 59 ∧ T q ≠ -45) (hf2 : (J2 1000 26).toInt = 1 + 8 * (q : Int)) : LWI T I J2 n2 on2 := by
  intro F c hfI hcI hdI hx
  obtain ⟨hd, c2, hc2, hx2, hb2⟩ := ((h F c hfI hcI hdI hx).1 hf).1 rfl
  obtain ⟨-, -, pt, c3, hc3, hcen, -⟩ := (hc F c2 hf hc2 hd hx2).1 hf1
  obtain ⟨hn, g, st, dp, co, hpop, hg⟩ := cen_b hcen
  rw [← hq] at hn hg
  obtain ⟨n1, n2, n3, n4⟩ := hn
  unfold cbB at hg
  have z0 : (0 : Int32).toInt = 0 := by decide
  have e1 : tkv T q ≠ -44 := fun e => h1.1 (tk_nx2 hT e)
  have e2 : tkv T q ≠ -45 := fun e => h1.2 (tk_en2 hT e)
  rw [if_neg n1, if_neg (fun e => n4 e.2), if_neg n2, if_neg (by omega), if_neg n3, if_neg (by omega)] at hg
  exact okf_bad hf2 (by omega) hg
theorem lwi_next {T : Nat → Int} (hT : OKT T) {I J J1 J2 : MI} {n n2 q : Nat} (h : LWI T I J n 1) (hf : (J 1000 26).toInt = 0) (hc : CLP T J J1 n) (hf1 : (J1 1000 26).toInt = 0) (hq : q = skp T (J1 1000 25).toNatClampNeg) (h1 : T q = 59) (hn2 : n2 = n + 1) (hf2 : (J2 1000 26).toInt = 0) (hp2 : (J2 1000 25).toNatClampNeg = q + 1) (hc2' : (J2 1000 31).toInt = (J1 1000 31).toInt) (hR2 : RC J2 = RC J1) (hd2 : J2 1000 30 = J1 1000 30) (h38 : J2 1038 = J1 1038) (h39 : J2 1039 = J1 1039) (h40 : J2 1040 = J1 1040) (h41 : J2 1041 = J1 1041) (h27 : (J2 1000 27).toInt = (J1 1000 27).toInt) : LWI T I J2 n2 1 := by
  intro F c hfI hcI hdI hx
  obtain ⟨hd, c2, hc2, hx2, hb2⟩ := ((h F c hfI hcI hdI hx).1 hf).1 rfl
  obtain ⟨hd1, hn12, pt, c3, hc3, hcen, hb3⟩ := (hc F c2 hf hc2 hd hx2).1 hf1
  obtain ⟨hn, g, st, dp, co, hpop, hg⟩ := cen_b hcen
  rw [← hq] at hn hg
  obtain ⟨n1, n2, n3, n4⟩ := hn
  unfold cbB at hg
  have z0 : (0 : Int32).toInt = 0 := by decide
  have ht := tk_nx hT h1
  rw [ht.1, ht.2] at hg
  rw [if_neg (by omega), if_neg (by omega), if_neg (by omega), if_neg (by omega), if_neg (by omega), if_pos ⟨Or.inl rfl, n4, rfl⟩, hpop] at hg
  unfold cbE at hg
  rw [if_pos rfl] at hg
  refine ⟨fun _ => ⟨fun _ => ⟨hd2.trans hd1, fin2 c3 pt (RC J1).length, ?_, ⟨g, _, pt, by rw [hp2], by rw [hR2, hc2']; exact hg⟩, by rw [hn2]; exact (hb3 hb2).of h38 h39 h40 h41 h27⟩, fun z => absurd z (by decide)⟩, fun z => absurd hf2 z⟩
  unfold fin2
  by_cases e : pt = 0
  · rw [if_pos e, edc_1 (by rw [bgt_1]; omega), bgt_1]
    omega
  · rw [if_neg e, edc_1 (by omega)]
    omega
theorem lwi_done {T : Nat → Int} {I J J1 J2 : MI} {n n2 q : Nat} (h : LWI T I J n 1) (hf : (J 1000 26).toInt = 0) (hc : CLP T J J1 n) (hf1 : (J1 1000 26).toInt = 0) (hq : q = skp T (J1 1000 25).toNatClampNeg) (h1 : T q = -45) (hn2 : n2 = n + 1) (hf2 : (J2 1000 26).toInt = 0) (hR2 : RC J2 = RC J1) (h38 : J2 1038 = J1 1038) (h39 : J2 1039 = J1 1039) (h40 : J2 1040 = J1 1040) (h41 : J2 1041 = J1 1041) (h27 : (J2 1000 27).toInt = (J1 1000 27).toInt) : LWI T I J2 n2 0 := by
  intro F c hfI hcI hdI hx
  obtain ⟨hd, c2, hc2, hx2, hb2⟩ := ((h F c hfI hcI hdI hx).1 hf).1 rfl
  obtain ⟨hd1, hn12, pt, c3, hc3, hcen, hb3⟩ := (hc F c2 hf hc2 hd hx2).1 hf1
  obtain ⟨hn, g, st, dp, co, hpop, hg⟩ := cen_b hcen
  rw [← hq] at hn hg
  obtain ⟨n1, n2, n3, n4⟩ := hn
  unfold cbB at hg
  have z0 : (0 : Int32).toInt = 0 := by decide
  have ht := tk_E h1
  rw [ht.1, ht.2] at hg
  rw [if_neg (by omega), if_neg (by omega), if_neg (by omega), if_neg (by omega), if_neg (by omega), if_pos ⟨Or.inr rfl, n4, rfl⟩, hpop] at hg
  unfold cbE at hg
  rw [if_neg (by decide)] at hg
  have hF := Option.some.inj hg
  refine ⟨fun _ => ⟨fun z => absurd z (by decide), fun _ => ?_⟩, fun z => absurd hf2 z⟩
  have hF2 : F = (0, RC J1, fin2 c3 pt (RC J1).length) := hF.symm
  rw [hF2, hR2]
  refine ⟨rfl, rfl, ?_, by rw [hn2]; exact (hb3 hb2).of h38 h39 h40 h41 h27⟩
  show (fin2 c3 pt (RC J1).length).1 = _
  unfold fin2
  by_cases e : pt = 0
  · rw [if_pos e, edc_1 (by rw [bgt_1]; omega), bgt_1]
    omega
  · rw [if_neg e, edc_1 (by omega)]
    omega
