-- behind a value: signs, brackets, the ends of sums and clauses
theorem pop_all {r : Int} {st co : List Int} {dp : Int32} (hl : co.length + st.length ≤ 400) (hd : dp.toInt = dpt st) (h10 : dpt st ≤ 10) (hn : ∀ x, x ∈ st → x ≤ -14) : ∃ P, st = P ++ (popc r st dp co).1 ∧ (popc r st dp co).2.2 = co ++ P ∧ (∀ x, x ∈ P → x ≠ -42 ∧ r ≤ rk x) ∧ LOW r (popc r st dp co).1 ∧ (popc r st dp co).2.1.toInt = dpt (popc r st dp co).1 ∧ dpt (popc r st dp co).1 ≤ dpt st ∧ brk (popc r st dp co).1 = brk st ∧ cv (co ++ P) = cv co := by
  obtain ⟨P, h1, h2, h3, h4⟩ := popc_split (r := r) (s := st) (d := dp) (co := co) hl
  obtain ⟨h5, h6, h7⟩ := popc_dp (r := r) (s := st) (d := dp) (co := co) hd h10
  refine ⟨P, h1, h2, h3, h4, h5, h6, h7, ?_⟩
  have hP0 : cv P = 0 := cv_0 (fun x hx => by
    have hx2 : x ∈ P ++ (popc r st dp co).1 := List.mem_append_left _ hx
    rw [← h1] at hx2
    exact hn x hx2)
  rw [cv_app, hP0]
  rfl
theorem drop_P {co P : List Int} {g : Nat} (h : g ≤ co.length) : (co ++ P).drop g = co.drop g ++ P := List.drop_append_of_le_length h
theorem st_neg {A B : List Int} (hw : WST B) (hA : ∀ x, x ∈ A → (-23 ≤ x ∧ x ≤ -15) ∧ 4 ≤ rk x) : ∀ x, x ∈ A ++ B → x ≤ -14 := fun x hx => by
  rcases List.mem_append.mp hx with q | q
  · have := (hA x q).1; omega
  · exact wst_neg hw x q
theorem wst_push {t : Int} {R : List Int} (ht : t = -24 ∨ t = -25) (hw : WST R) (hl : LOW (rk t) R) : WST (t :: R) := by
  refine ⟨?_, hw⟩
  rcases ht with rfl | rfl
  · right; right; left
    refine ⟨rfl, fun x l e => ?_⟩
    have h1 := hl x l e
    rw [show rk (-24) = 2 from by decide] at h1
    rw [e] at hw
    rcases wst_t hw with h2 | h2 | h2 | h2
    · rw [h2, show rk (-14) = 3 from by decide] at h1; omega
    · exact Or.inl h2
    · rw [h2, show rk (-24) = 2 from by decide] at h1; omega
    · exact Or.inr h2
  · right; right; right
    refine ⟨rfl, fun x l e => ?_⟩
    have h1 := hl x l e
    rw [show rk (-25) = 1 from by decide] at h1
    have := rk_b x
    omega
theorem lg_rk {t : Int} (ht : t = -24 ∨ t = -25) : rk t ≤ 3 := by rcases ht with rfl | rfl <;> decide
theorem wt_B {K : KON} {q p : Nat} {t pt : Int} {st co : List Int} {dp br : Int32} {vc : Int} {c : CLT} {F : RES} {pl : Nat} (h : CIV pl 4 pt st dp co br vc c) (hpl : t ≠ -45 → pl + 1 ≤ p ∧ p ≤ 400) (hpl4 : pl ≤ 400) (hK : t ≠ -45 → KOK K p F) (hr : cbB K q t p pt st dp co br vc c = some F) : WTR F := by
  obtain ⟨hC, hd, hd10, hb, hl, hv, hv60, hc12⟩ := h
  have hcur : c.1 < 12 ∧ CUR 4 pt st co c := by
    rcases hC.2 with ⟨e, -⟩ | ⟨e, -⟩ | ⟨-, e, e2⟩
    · omega
    · omega
    · exact ⟨e, e2⟩
  obtain ⟨hc, A, B, g0, est, hw, hf, hm, hg, hph⟩ := hcur
  have hSG : ∃ g : Nat, g ≤ co.length ∧ SG 4 pt A B (co.drop g) := by
    rcases hph with ⟨-, -, k3, k4⟩ | ⟨-, g1, -, -, k4, -, k6⟩
    · exact ⟨g0, k3, k4⟩
    · exact ⟨g1, k4, k6⟩
  have hAin : ∀ x, x ∈ A → (-23 ≤ x ∧ x ≤ -15) ∧ 4 ≤ rk x := by obtain ⟨g, -, z⟩ := hSG; exact z.in
  have hneg : ∀ x, x ∈ st → x ≤ -14 := by rw [est]; exact st_neg hw hAin
  have hlen : st.length ≤ 35 := by
    rw [est]
    exact len_st hw hf hAin (by rw [← est]; exact hd10)
  unfold cbB at hr
  by_cases b1 : (t ≤ -15 ∧ -18 ≤ t) ∧ pt ≠ 3
  · rw [if_pos b1] at hr
    unfold cbS at hr
    have hp := hpl (by omega)
    obtain ⟨P, e1, e2, hP, hlow, hdp, hdl, hbk, hcv⟩ := pop_all (r := rk t) (st := st) (co := co) (dp := dp) (by omega) hd hd10 hneg
    obtain ⟨R, eR⟩ : ∃ R, R = (popc (rk t) st dp co).1 := ⟨_, rfl⟩
    rw [← eR] at e1 hlow hdp hdl hbk hr
    have hlR : R.length + P.length = st.length := by rw [e1, List.length_append]; omega
    rw [psh_y (by omega), e2] at hr
    have hst2 : A ++ B = P ++ R := by rw [← est]; exact e1
    refine hK (by omega) 3 pt (t :: R) _ (co ++ P) br vc c ⟨⟨hC.1.app, Or.inr (Or.inr ⟨Or.inr (Or.inl rfl), hc, ?_⟩)⟩, by rw [dpt_o (by omega)]; exact hdp, by rw [dpt_o (by omega)]; omega, by rw [brk_n (by omega), hbk]; exact hb, by rw [List.length_append, List.length_cons]; omega, by rw [hcv]; exact hv, hv60, hc12⟩ hr
    rcases hph with ⟨k1, k2, k3, k4⟩ | ⟨k1, g1, k2, k3, k4, k5, k6⟩
    · obtain ⟨A2, g2, g3, g4⟩ := sg_ar k4 b1.2 (by omega) hw hf hst2 hP hlow
      exact ⟨t :: A2, B, g0, g2, hw, g3, hm, hg, Or.inl ⟨k1, Or.inl rfl, by rw [List.length_append]; omega, by rw [drop_P k3]; exact g4⟩⟩
    · obtain ⟨A2, g2, g3, g4⟩ := sg_ar k6 b1.2 (by omega) hw hf hst2 hP hlow
      exact ⟨t :: A2, B, g0, g2, hw, g3, hm, hg, Or.inr ⟨by omega, g1, k2, k3, by rw [List.length_append]; omega, by rw [sgm_app k4]; exact k5, by rw [drop_P k4]; exact g4⟩⟩
  rw [if_neg b1] at hr
  by_cases b2 : (t ≤ -19 ∧ -23 ≤ t) ∧ pt = 1
  · rw [if_pos b2] at hr
    by_cases b3 : 60 ≤ vc
    · rw [if_pos b3] at hr; exact wtr_flt hr (by omega)
    rw [if_neg b3] at hr
    unfold cbS at hr
    have hp := hpl (by omega)
    obtain ⟨P, e1, e2, hP, hlow, hdp, hdl, hbk, hcv⟩ := pop_all (r := rk t) (st := st) (co := co) (dp := dp) (by omega) hd hd10 hneg
    obtain ⟨R, eR⟩ : ∃ R, R = (popc (rk t) st dp co).1 := ⟨_, rfl⟩
    rw [← eR] at e1 hlow hdp hdl hbk hr
    have hlR : R.length + P.length = st.length := by rw [e1, List.length_append]; omega
    rw [psh_y (by omega), e2] at hr
    have hst2 : A ++ B = P ++ R := by rw [← est]; exact e1
    obtain ⟨hb2, hpt⟩ := b2
    subst hpt
    refine hK (by omega) 3 2 (t :: R) _ (co ++ P) br (vc + 1) c ⟨⟨hC.1.app, Or.inr (Or.inr ⟨Or.inr (Or.inl rfl), hc, ?_⟩)⟩, by rw [dpt_o (by omega)]; exact hdp, by rw [dpt_o (by omega)]; omega, by rw [brk_n (by omega), hbk]; exact hb, by rw [List.length_append, List.length_cons]; omega, by rw [hcv]; omega, by omega, hc12⟩ hr
    rcases hph with ⟨k1, -⟩ | ⟨k1, g1, k2, k3, k4, k5, k6⟩
    · omega
    · obtain ⟨g2, g4⟩ := sg_cm k6 (by omega) hw hst2 hP hlow
      exact ⟨[t], B, g0, by rw [g2]; rfl, hw, List.pairwise_singleton _ _, hm, hg, Or.inr ⟨by omega, g1, k2, k3, by rw [List.length_append]; omega, by rw [sgm_app k4]; exact k5, by rw [drop_P k4]; exact g4⟩⟩
  rw [if_neg b2] at hr
  by_cases b3 : (t = -24 ∨ t = -25) ∧ (pt = 2 ∨ pt = 3)
  · rw [if_pos b3] at hr
    unfold cbS at hr
    have hp := hpl (by omega)
    obtain ⟨P, e1, e2, hP, hlow, hdp, hdl, hbk, hcv⟩ := pop_all (r := rk t) (st := st) (co := co) (dp := dp) (by omega) hd hd10 hneg
    obtain ⟨R, eR⟩ : ∃ R, R = (popc (rk t) st dp co).1 := ⟨_, rfl⟩
    rw [← eR] at e1 hlow hdp hdl hbk hr
    have hlR : R.length + P.length = st.length := by rw [e1, List.length_append]; omega
    rw [psh_y (by omega), e2] at hr
    have hst2 : A ++ B = P ++ R := by rw [← est]; exact e1
    refine hK (by omega) 2 1 (t :: R) _ (co ++ P) br vc c ⟨⟨hC.1.app, Or.inr (Or.inr ⟨Or.inl rfl, hc, ?_⟩)⟩, by rw [dpt_o (by omega)]; exact hdp, by rw [dpt_o (by omega)]; omega, by rw [brk_n (by omega), hbk]; exact hb, by rw [List.length_append, List.length_cons]; omega, by rw [hcv]; exact hv, hv60, hc12⟩ hr
    rcases hph with ⟨k1, -⟩ | ⟨k1, g1, k2, k3, k4, k5, k6⟩
    · omega
    · obtain ⟨-, g3, g4⟩ := sg_fact k6 b3.2 (lg_rk b3.1) hw hst2 hP hlow
      refine ⟨[], t :: R, g0, rfl, wst_push b3.1 g3 hlow, List.Pairwise.nil, hm, hg, Or.inr ⟨Or.inl rfl, g1, k2, k3, by rw [List.length_append]; omega, by rw [sgm_app k4]; exact k5, Or.inr (Or.inr (Or.inl ⟨rfl, rfl, ?_⟩))⟩⟩
      rw [drop_P k4, g4, ao, if_pos b3.1, Nat.add_comm]
      rfl
  rw [if_neg b3] at hr
  have hbb := brk_b st
  by_cases b4 : t = -43 ∧ (pt = 2 ∨ pt = 3) ∧ 0 < br.toInt
  · rw [if_pos b4] at hr
    have hp := hpl (by omega)
    obtain ⟨P, e1, e2, hP, hlow, hdp, hdl, hbk, hcv⟩ := pop_all (r := 1) (st := st) (co := co) (dp := dp) (by omega) hd hd10 hneg
    obtain ⟨R, eR⟩ : ∃ R, R = (popc 1 st dp co).1 := ⟨_, rfl⟩
    rw [← eR] at e1 hlow hdp hdl hbk hr
    have hlR : R.length + P.length = st.length := by rw [e1, List.length_append]; omega
    rw [e2] at hr
    have hst2 : A ++ B = P ++ R := by rw [← est]; exact e1
    rcases hph with ⟨k1, -⟩ | ⟨k1, g1, k2, k3, k4, k5, k6⟩
    · omega
    obtain ⟨-, g3, g4⟩ := sg_fact k6 b4.2.1 (by decide) hw hst2 hP hlow
    cases R with
    | nil => rw [show brk ([] : List Int) = 0 from rfl] at hbk; omega
    | cons x R =>
      have hx : x = -42 := by
        have h1 := hlow x R rfl
        have h2 := rk_b x
        omega
      subst hx
      rw [dpt_n (Or.inr rfl)] at hdp hdl
      rw [brk_y] at hbk
      have hb0 := dpt_b R
      have hbR := brk_b R
      have k1' : (1 : Int32).toInt = 1 := rfl
      have d1 : ((popc 1 st dp co).2.1 - 1).toInt = dpt R := by rw [a_sub (v := (popc 1 st dp co).2.1 - 1) rfl (by omega) (by omega), k1']; omega
      have d2 : (br - 1).toInt = brk R := by rw [a_sub (v := br - 1) rfl (by omega) (by have := brk_le st; omega), k1']; omega
      simp only [List.length_cons] at hlR
      refine hK (by omega) 4 3 R _ (co ++ P) (br - 1) vc c ⟨⟨hC.1.app, Or.inr (Or.inr ⟨Or.inr (Or.inr rfl), hc, [], R, g0, rfl, g3.2, List.Pairwise.nil, hm, hg, Or.inr ⟨by omega, g1, k2, k3, by rw [List.length_append]; omega, by rw [sgm_app k4]; exact k5, Or.inr (Or.inr (Or.inr ⟨rfl, rfl, rfl, ?_⟩))⟩⟩)⟩, d1, by omega, d2, by rw [List.length_append]; omega, by rw [hcv]; exact hv, hv60, hc12⟩ hr
      rw [drop_P k4, g4, ao, if_neg (by decide), Nat.zero_add]
  rw [if_neg b4] at hr
  by_cases b5 : t = -41 ∧ pt = 0
  · rw [if_pos b5] at hr
    have hp := hpl (by omega)
    obtain ⟨P, e1, e2, hP, hlow, hdp, hdl, hbk, hcv⟩ := pop_all (r := 0) (st := st) (co := co) (dp := dp) (by omega) hd hd10 hneg
    obtain ⟨R, eR⟩ : ∃ R, R = (popc 0 st dp co).1 := ⟨_, rfl⟩
    rw [← eR] at e1 hlow hdp hdl hbk hr
    rw [e2] at hr
    have hst2 : A ++ B = P ++ R := by rw [← est]; exact e1
    have hlR : R.length + P.length = st.length := by rw [e1, List.length_append]; omega
    obtain ⟨ht5, hpt⟩ := b5
    subst hpt
    rcases hph with ⟨-, k2, k3, k4⟩ | ⟨k1, -⟩
    · obtain ⟨g2, g4⟩ := sg_sum k4 (by decide) hst2 hP hlow
      subst g2
      have eb : bgt c (co ++ P).length = (c.1, c.2.1, c.2.2.1, fu c.2.2.2.1 c.1 (co ++ P).length, c.2.2.2.2) := if_pos hc
      rw [eb] at hr
      refine hK (by omega) 2 0 [] _ (co ++ P) br vc (c.1, c.2.1, c.2.2.1, fu c.2.2.2.1 c.1 (co ++ P).length, c.2.2.2.2) ⟨⟨fun i hi => ?_, Or.inr (Or.inr ⟨Or.inl rfl, hc, [], [], g0, rfl, trivial, List.Pairwise.nil, hm, hg, Or.inr ⟨Or.inl rfl, (co ++ P).length, fu_s, by rw [List.length_append]; omega, Nat.le_refl _, ?_, Or.inr (Or.inr (Or.inl ⟨rfl, rfl, by rw [List.drop_length]; rfl⟩))⟩⟩)⟩, hdp, by omega, by rw [hbk]; exact hb, by rw [List.length_append, List.length_nil]; simp only [List.length_nil] at hlR; omega, by rw [hcv]; exact hv, hv60, hc12⟩ hr
      · have := hC.1.app (P := P) i hi
        show (0 ≤ c.2.1 i ∧ c.2.1 i < 24) ∧ ∃ a b e : Nat, c.2.2.1 i = a ∧ fu c.2.2.2.1 c.1 (co ++ P).length i = b ∧ _
        have hi : i < c.1 := hi
        rw [fu_n (by omega)]
        exact this
      · rw [sgm_end (by rw [List.length_append]; omega), drop_P k3]; exact g4
    · omega
  rw [if_neg b5] at hr
  by_cases b6 : (t = -44 ∨ t = -45) ∧ pt ≠ 1 ∧ br = 0
  · rw [if_pos b6] at hr
    have hbr0 : brk st = 0 := by rw [← hb, b6.2.2]; rfl
    obtain ⟨P, e1, e2, hP, hlow, hdp, hdl, hbk, hcv⟩ := pop_all (r := 1) (st := st) (co := co) (dp := dp) (by omega) hd hd10 hneg
    obtain ⟨R, eR⟩ : ∃ R, R = (popc 1 st dp co).1 := ⟨_, rfl⟩
    have hst2 : A ++ B = P ++ R := by rw [← est, eR]; exact e1
    have hR : R = [] := by
      rw [← eR] at hlow hbk
      cases hq : R with
      | nil => rfl
      | cons x R2 =>
        exfalso
        rw [hq] at hlow hbk
        have h1 := hlow x R2 rfl
        have h2 := rk_b x
        have hx : x = -42 := by omega
        rw [hx, brk_y] at hbk
        have := brk_b R2
        omega
    have hn : WTC (co ++ P) (edc (if pt = 0 then bgt c (co ++ P).length else c) (co ++ P).length) (c.1 + 1) ∧ (edc (if pt = 0 then bgt c (co ++ P).length else c) (co ++ P).length).1 = c.1 + 1 := by
      have hap := hC.1.app (P := P)
      rcases hph with ⟨k1, k2, k3, k4⟩ | ⟨k1, g1, k2, k3, k4, k5, k6⟩
      · subst k1
        obtain ⟨-, g4⟩ := sg_sum k4 (by decide) hst2 hP (by rw [eR]; exact hlow)
        have eb : (if (0 : Int) = 0 then bgt c (co ++ P).length else c) = (c.1, c.2.1, c.2.2.1, fu c.2.2.2.1 c.1 (co ++ P).length, c.2.2.2.2) := by rw [if_pos rfl]; exact if_pos hc
        rw [eb, show edc (c.1, c.2.1, c.2.2.1, fu c.2.2.2.1 c.1 (co ++ P).length, c.2.2.2.2) (co ++ P).length = (c.1 + 1, c.2.1, c.2.2.1, fu c.2.2.2.1 c.1 (co ++ P).length, fu c.2.2.2.2 c.1 (co ++ P).length) from if_pos hc]
        refine ⟨fun i hi => ?_, rfl⟩
        show (0 ≤ c.2.1 i ∧ c.2.1 i < 24) ∧ ∃ a b e : Nat, c.2.2.1 i = a ∧ fu c.2.2.2.1 c.1 (co ++ P).length i = b ∧ fu c.2.2.2.2 c.1 (co ++ P).length i = e ∧ _
        by_cases hq : i = c.1
        · subst hq
          exact ⟨hm, g0, (co ++ P).length, (co ++ P).length, hg, fu_s, fu_s, by rw [List.length_append]; omega, Nat.le_refl _, Nat.le_refl _, by rw [sgm_end (by rw [List.length_append]; omega), drop_P k3]; exact g4, Or.inl rfl⟩
        · rw [fu_n hq, fu_n hq]
          exact hap i (by omega)
      · have hne : ¬ pt = 0 := by
          rcases k1 with z | z | z | z
          · omega
          · omega
          · omega
          · omega
        obtain ⟨-, g3, g4⟩ := sg_fact k6 (by omega) (by decide) hw hst2 hP (by rw [eR]; exact hlow)
        rw [if_neg hne, show edc c (co ++ P).length = (c.1 + 1, c.2.1, c.2.2.1, c.2.2.2.1, fu c.2.2.2.2 c.1 (co ++ P).length) from if_pos hc]
        refine ⟨fun i hi => ?_, rfl⟩
        show (0 ≤ c.2.1 i ∧ c.2.1 i < 24) ∧ ∃ a b e : Nat, c.2.2.1 i = a ∧ c.2.2.2.1 i = b ∧ fu c.2.2.2.2 c.1 (co ++ P).length i = e ∧ _
        by_cases hq : i = c.1
        · subst hq
          rw [hR] at g4
          exact ⟨hm, g0, g1, (co ++ P).length, hg, k2, fu_s, k3, by rw [List.length_append]; omega, Nat.le_refl _, by rw [sgm_app k4]; exact k5, Or.inr (by rw [sgm_end (by rw [List.length_append]; omega), drop_P k4]; exact g4)⟩
        · rw [fu_n hq]
          exact hap i (by omega)
    unfold cbE at hr
    rw [e2] at hr
    have hlP : (co ++ P).length ≤ pl := by
      have : st.length = P.length + (popc 1 st dp co).1.length := by
        have := congrArg List.length e1
        rw [List.length_append] at this
        exact this
      rw [List.length_append]; omega
    by_cases b7 : t = -44
    · rw [if_pos b7] at hr
      have hp := hpl (by omega)
      refine hK (by omega) 0 pt _ _ (co ++ P) br vc _ ⟨⟨?_, Or.inl ⟨rfl, by rw [← eR]; exact hR⟩⟩, hdp, by omega, by rw [hbk]; exact hb, by rw [← eR, hR, List.length_nil]; omega, by rw [hcv]; exact hv, hv60, by rw [hn.2]; omega⟩ hr
      rw [hn.2]
      exact hn.1
    · rw [if_neg b7] at hr
      cases hr
      intro _
      refine ⟨?_, ?_, ?_, ?_⟩
      · show WTC (co ++ P) _ (edc (if pt = 0 then bgt c (co ++ P).length else c) (co ++ P).length).1
        rw [hn.2]
        exact hn.1
      · show cv (co ++ P) ≤ 60
        rw [hcv]; omega
      · show (co ++ P).length ≤ 400
        omega
      · show (edc (if pt = 0 then bgt c (co ++ P).length else c) (co ++ P).length).1 ≤ 12
        rw [hn.2]; omega
  rw [if_neg b6] at hr
  exact wtr_flt hr (by omega)
theorem crun_wt {T : Nat → Int} (hT : OKT T) : ∀ (f pl : Nat) (aw pt : Int) (st : List Int) (dp : Int32) (co : List Int) (br : Int32) (vc : Int) (c : CLT) (F : RES), CIV pl aw pt st dp co br vc c → pl ≤ 400 → crun T f pl aw pt st dp co br vc c = some F → WTR F := by
  intro f
  induction f with
  | zero => intro pl aw pt st dp co br vc c F _ _ h; cases h
  | succ f ih =>
    intro pl aw pt st dp co br vc c F hi hpl h
    rw [crun_s] at h
    have hge := (skp_le (T := T) hpl).1
    have hq := (skp_le (T := T) hpl).2
    obtain ⟨q, eq⟩ : ∃ q, q = skp T pl := ⟨_, rfl⟩
    rw [← eq] at hq hge h
    have hK : tkv T q ≠ -45 → KOK (crun T f) (q + tkn T q) F := fun ht aw pt st dp co br vc c hi2 h2 => ih _ _ _ _ _ _ _ _ _ _ hi2 (tkn_b hT ht).2 h2
    have hp : tkv T q ≠ -45 → pl + 1 ≤ q + tkn T q ∧ q + tkn T q ≤ 400 := fun ht => by have := tkn_b hT ht; omega
    unfold cbo at h
    by_cases a0 : aw = 0
    · rw [if_pos a0] at h; subst a0; exact wt_T hi (by omega) hK h
    rw [if_neg a0] at h
    by_cases a1 : aw = 1
    · rw [if_pos a1] at h; subst a1; exact wt_M hi (by omega) hK h
    rw [if_neg a1] at h
    by_cases ht : tkv T q = -45
    · -- the end of the text
      by_cases a2 : aw = 2
      · rw [if_pos a2] at h
        unfold cbF cbV at h
        rw [ht] at h
        simp only [if_neg (show ¬ ((-45 : Int) = -14 ∨ (-45 : Int) = -42) by decide), if_neg (show ¬ (-45 : Int) = -46 by decide), if_pos (show (-45 : Int) ≤ -14 by decide)] at h
        exact wtr_flt h (by omega)
      rw [if_neg a2] at h
      by_cases a3 : aw = 3
      · rw [if_pos a3] at h
        unfold cbV at h
        rw [ht] at h
        simp only [if_neg (show ¬ (-45 : Int) = -46 by decide), if_pos (show (-45 : Int) ≤ -14 by decide)] at h
        exact wtr_flt h (by omega)
      rw [if_neg a3] at h
      have a4 : aw = 4 := by
        rcases hi.1.2 with ⟨z, -⟩ | ⟨z, -⟩ | ⟨z, -⟩
        · omega
        · omega
        · omega
      subst a4
      exact wt_B hi hp hpl hK h
    · have hpp := hp ht
      by_cases a2 : aw = 2
      · rw [if_pos a2] at h; subst a2; exact wt_F hi hpp.1 hpp.2 hK h
      rw [if_neg a2] at h
      by_cases a3 : aw = 3
      · rw [if_pos a3] at h; exact wt_V hi (Or.inl ⟨a3, rfl⟩) hpp.1 hpp.2 hK h
      rw [if_neg a3] at h
      have a4 : aw = 4 := by
        rcases hi.1.2 with ⟨z, -⟩ | ⟨z, -⟩ | ⟨z, -⟩
        · omega
        · omega
        · omega
      subst a4
      exact wt_B hi hp hpl hK h
-- from the beginning
theorem law_wt {T : Nat → Int} (hT : OKT T) {f : Nat} {pt : Int} {c : CLT} {F : RES} (hc : c.1 = 0) (h : crun T f 0 0 pt [] 0 [] 0 0 c = some F) : WTR F := by
  refine crun_wt hT f 0 0 pt [] 0 [] 0 0 c F ⟨⟨fun i hi => by omega, Or.inl ⟨rfl, rfl⟩⟩, rfl, by decide, rfl, by simp, by decide, by decide, by omega⟩ (by decide) h
