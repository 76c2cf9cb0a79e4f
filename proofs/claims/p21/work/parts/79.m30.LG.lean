-- a whole law is well typed
def cv : List Int → Nat
  | [] => 0
  | c :: l => (if -14 < c then 1 else 0) + cv l
theorem cv_app : ∀ (a b : List Int), cv (a ++ b) = cv a + cv b := by
  intro a b
  induction a with
  | nil => simp [cv]
  | cons c a ih => simp only [List.cons_append, cv, ih]; omega
theorem cv_0 : ∀ {P : List Int}, (∀ x, x ∈ P → x ≤ -14) → cv P = 0 := by
  intro P
  induction P with
  | nil => intro _; rfl
  | cons t P ih =>
    intro h
    have ht := h t (by simp)
    rw [cv, if_neg (by omega), ih (fun x hx => h x (by simp [hx]))]
def sgm (co : List Int) (a b : Nat) : List Int := (co.drop a).take (b - a)
theorem sgm_app {co P : List Int} {a b : Nat} (h : b ≤ co.length) : sgm (co ++ P) a b = sgm co a b := by
  unfold sgm
  by_cases hq : a ≤ co.length
  · rw [List.drop_append_of_le_length hq, List.take_append_of_le_length (by rw [List.length_drop]; omega)]
  · rw [show b - a = 0 from by omega, List.take_zero, List.take_zero]
theorem sgm_end {co : List Int} {a : Nat} (h : a ≤ co.length) : sgm co a co.length = co.drop a := by
  unfold sgm
  exact List.take_of_length_le (by rw [List.length_drop]; omega)
def WTC (co : List Int) (c : CLT) (n : Nat) : Prop := ∀ i, i < n → (0 ≤ c.2.1 i ∧ c.2.1 i < 24) ∧ ∃ a b e : Nat, c.2.2.1 i = a ∧ c.2.2.2.1 i = b ∧ c.2.2.2.2 i = e ∧ a ≤ b ∧ b ≤ e ∧ e ≤ co.length ∧ tyx (sgm co a b) [] = some [false] ∧ (b = e ∨ tyx (sgm co b e) [] = some [true])
theorem WTC.app {co P : List Int} {c : CLT} {n : Nat} (h : WTC co c n) : WTC (co ++ P) c n := fun i hi => by
  obtain ⟨hm, a, b, e, h1, h2, h3, h4, h5, h6, h7, h8⟩ := h i hi
  refine ⟨hm, a, b, e, h1, h2, h3, h4, h5, by rw [List.length_append]; omega, ?_, ?_⟩
  · rw [sgm_app (by omega)]; exact h7
  · rw [sgm_app h6]; exact h8
def CUR (aw pt : Int) (st co : List Int) (c : CLT) : Prop := ∃ (A B : List Int) (g0 : Nat), st = A ++ B ∧ WST B ∧ FALL A ∧ (0 ≤ c.2.1 c.1 ∧ c.2.1 c.1 < 24) ∧ c.2.2.1 c.1 = g0 ∧ ((pt = 0 ∧ (aw = 3 ∨ aw = 4) ∧ g0 ≤ co.length ∧ SG aw pt A B (co.drop g0)) ∨ ((aw = 2 ∨ pt = 1 ∨ pt = 2 ∨ pt = 3) ∧ ∃ g1 : Nat, c.2.2.2.1 c.1 = g1 ∧ g0 ≤ g1 ∧ g1 ≤ co.length ∧ tyx (sgm co g0 g1) [] = some [false] ∧ SG aw pt A B (co.drop g1)))
def CST (aw pt : Int) (st co : List Int) (c : CLT) : Prop := WTC co c c.1 ∧ ((aw = 0 ∧ st = []) ∨ (aw = 1 ∧ st = [] ∧ c.1 < 12) ∨ ((aw = 2 ∨ aw = 3 ∨ aw = 4) ∧ c.1 < 12 ∧ CUR aw pt st co c))
def CIV (pl : Nat) (aw pt : Int) (st : List Int) (dp : Int32) (co : List Int) (br : Int32) (vc : Int) (c : CLT) : Prop := CST aw pt st co c ∧ dp.toInt = dpt st ∧ dpt st ≤ 10 ∧ br.toInt = brk st ∧ co.length + st.length ≤ pl ∧ ((cv co : Nat) : Int) ≤ vc ∧ vc ≤ 60 ∧ c.1 ≤ 12
def WTR (F : RES) : Prop := F.1 = 0 → WTC F.2.1 F.2.2 F.2.2.1 ∧ cv F.2.1 ≤ 60 ∧ F.2.1.length ≤ 400 ∧ F.2.2.1 ≤ 12
theorem wtr_flt {v : Int} {F : RES} (h : flt v = some F) (hv : v ≠ 0) : WTR F := by
  unfold flt at h
  cases h
  exact fun z => absurd z hv
-- lengths of what waits
theorem SG.in {aw pt : Int} {A B seg : List Int} (h : SG aw pt A B seg) : ∀ x, x ∈ A → (-23 ≤ x ∧ x ≤ -15) ∧ 4 ≤ rk x := by
  rcases h with ⟨-, h, -⟩ | ⟨-, h, -⟩ | ⟨-, h, -⟩ | ⟨-, -, h, -⟩
  · exact h.in
  · exact h.in
  · rw [h]; intro x hx; cases hx
  · rw [h]; intro x hx; cases hx
theorem len_st {A B : List Int} (hw : WST B) (hf : FALL A) (hA : ∀ x, x ∈ A → (-23 ≤ x ∧ x ≤ -15) ∧ 4 ≤ rk x) (hd : dpt (A ++ B) ≤ 10) : (A ++ B).length ≤ 35 := by
  have h1 := (wst_len B hw).1
  have h2 := hf.len (fun x hx => (hA x hx).2)
  rw [(dpt_A (fun x hx => (hA x hx).1)).1] at hd
  rw [List.length_append]
  omega
theorem wst_neg : ∀ {B : List Int}, WST B → ∀ x, x ∈ B → x ≤ -14 := by
  intro B
  induction B with
  | nil => intro _ x hx; cases hx
  | cons t B ih =>
    intro h x hx
    rcases List.mem_cons.mp hx with e | e
    · subst e; have := wst_t h; omega
    · exact ih h.2 x e
def KOK (K : KON) (p : Nat) (F : RES) : Prop := ∀ (aw pt : Int) (st : List Int) (dp : Int32) (co : List Int) (br : Int32) (vc : Int) (c : CLT), CIV p aw pt st dp co br vc c → K p aw pt st dp co br vc c = some F → WTR F
theorem fu_n {f : Nat → Int} {k i : Nat} {v : Int} (h : i ≠ k) : fu f k v i = f i := if_neg h
theorem fu_s {f : Nat → Int} {k : Nat} {v : Int} : fu f k v k = v := if_pos rfl
theorem wt_T {K : KON} {q p : Nat} {t pt : Int} {st co : List Int} {dp br : Int32} {vc : Int} {c : CLT} {F : RES} {pl : Nat} (h : CIV pl 0 pt st dp co br vc c) (hpl : pl ≤ p) (hK : t ≠ -45 → KOK K p F) (hr : cbT K q t p pt st dp co br vc c = some F) : WTR F := by
  obtain ⟨hC, hd, hd10, hb, hl, hv, hv60, hc12⟩ := h
  unfold cbT at hr
  by_cases h1 : t ≠ -40
  · rw [if_pos h1] at hr; exact wtr_flt hr (by omega)
  · rw [if_neg h1] at hr
    by_cases h2 : 12 ≤ c.1
    · rw [if_pos h2] at hr; exact wtr_flt hr (by omega)
    · rw [if_neg h2] at hr
      refine hK (by omega) _ _ _ _ _ _ _ _ ⟨⟨hC.1, Or.inr (Or.inl ⟨rfl, ?_, by omega⟩)⟩, hd, hd10, hb, by omega, hv, hv60, hc12⟩ hr
      rcases hC.2 with ⟨-, e⟩ | ⟨e, -⟩ | ⟨e, -⟩
      · exact e
      · omega
      · omega
theorem wt_M {K : KON} {q p : Nat} {t pt : Int} {st co : List Int} {dp br : Int32} {vc : Int} {c : CLT} {F : RES} {pl : Nat} (h : CIV pl 1 pt st dp co br vc c) (hpl : pl ≤ p) (hK : t ≠ -45 → KOK K p F) (hr : cbM K q t p st dp co br vc c = some F) : WTR F := by
  obtain ⟨hC, hd, hd10, hb, hl, hv, hv60, hc12⟩ := h
  unfold cbM at hr
  by_cases h1 : t < 0 ∧ t ≠ -46
  · rw [if_pos h1] at hr; exact wtr_flt hr (by omega)
  · rw [if_neg h1] at hr
    by_cases h2 : t < 0 ∨ 24 ≤ t
    · rw [if_pos h2] at hr; exact wtr_flt hr (by omega)
    · rw [if_neg h2] at hr
      have hs : st = [] ∧ c.1 < 12 := by
        rcases hC.2 with ⟨e, -⟩ | ⟨-, e, e2⟩ | ⟨e, -⟩
        · omega
        · exact ⟨e, e2⟩
        · omega
      obtain ⟨hs, hc⟩ := hs
      have eb : bgc c t co.length = (c.1, fu c.2.1 c.1 t, fu c.2.2.1 c.1 co.length, c.2.2.2.1, c.2.2.2.2) := if_pos hc
      rw [eb] at hr
      refine hK (by omega) 3 0 st dp co br vc (c.1, fu c.2.1 c.1 t, fu c.2.2.1 c.1 co.length, c.2.2.2.1, c.2.2.2.2) ⟨⟨fun i hi => ?_, Or.inr (Or.inr ⟨Or.inr (Or.inl rfl), hc, ?_⟩)⟩, hd, hd10, hb, by omega, hv, hv60, hc12⟩ hr
      · have := hC.1 i hi
        show (0 ≤ fu c.2.1 c.1 t i ∧ fu c.2.1 c.1 t i < 24) ∧ ∃ a b e : Nat, fu c.2.2.1 c.1 co.length i = a ∧ _
        have hi : i < c.1 := hi
        rw [fu_n (by omega), fu_n (by omega)]
        exact this
      · refine ⟨[], [], co.length, hs, trivial, List.Pairwise.nil, ?_, ?_, Or.inl ⟨rfl, Or.inl rfl, Nat.le_refl _, ?_⟩⟩
        · show 0 ≤ fu c.2.1 c.1 t c.1 ∧ fu c.2.1 c.1 t c.1 < 24
          rw [fu_s]; omega
        · show fu c.2.2.1 c.1 co.length c.1 = _
          rw [fu_s]
        · rw [List.drop_length]
          exact Or.inl ⟨rfl, Or.inl ⟨rfl, rfl, fun x hx => (by cases hx)⟩, rfl⟩
-- a value
theorem drop_1 {co : List Int} {g : Nat} {t : Int} (h : g ≤ co.length) : (co ++ [t]).drop g = co.drop g ++ [t] := List.drop_append_of_le_length h
theorem wt_V {K : KON} {q p : Nat} {t pt aw pt2 : Int} {st co : List Int} {dp br : Int32} {vc : Int} {c : CLT} {F : RES} {pl : Nat} (h : CIV pl aw pt st dp co br vc c) (ha : (aw = 3 ∧ pt2 = pt) ∨ (aw = 2 ∧ pt2 = 1)) (hpl : pl + 1 ≤ p) (hp4 : p ≤ 400) (hK : t ≠ -45 → KOK K p F) (hr : cbV K q t p pt2 st dp co br vc c = some F) : WTR F := by
  obtain ⟨hC, hd, hd10, hb, hl, hv, hv60, hc12⟩ := h
  unfold cbV at hr
  by_cases h1 : t = -46
  · rw [if_pos h1] at hr; exact wtr_flt hr (by omega)
  rw [if_neg h1] at hr
  by_cases h2 : t ≤ -14
  · rw [if_pos h2] at hr; exact wtr_flt hr (by omega)
  rw [if_neg h2] at hr
  by_cases h3 : 60 ≤ vc
  · rw [if_pos h3] at hr; exact wtr_flt hr (by omega)
  rw [if_neg h3, adl_y (by omega)] at hr
  have hcv : cv (co ++ [t]) = cv co + 1 := by rw [cv_app, cv, if_pos (by omega), cv]
  have hcur : c.1 < 12 ∧ CUR aw pt st co c := by
    rcases hC.2 with ⟨e, -⟩ | ⟨e, -⟩ | ⟨-, e, e2⟩
    · omega
    · omega
    · exact ⟨e, e2⟩
  obtain ⟨hc, A, B, g0, e1, hw, hf, hm, hg, hph⟩ := hcur
  refine hK (by omega) _ _ _ _ _ _ _ _ ⟨⟨hC.1.app, Or.inr (Or.inr ⟨Or.inr (Or.inr rfl), hc, A, B, g0, e1, hw, hf, hm, hg, ?_⟩)⟩, hd, hd10, hb, by rw [List.length_append, List.length_singleton]; omega, by rw [hcv]; omega, by omega, hc12⟩ hr
  rcases hph with ⟨k1, k2, k3, k4⟩ | ⟨k1, g1, k2, k3, k4, k5, k6⟩
  · left
    refine ⟨by omega, Or.inr rfl, by rw [List.length_append]; omega, ?_⟩
    rw [drop_1 k3]
    rcases ha with ⟨a1, a2⟩ | ⟨a1, a2⟩
    · rw [a2]; exact sg_val k4 a1 (by omega)
    · omega
  · right
    refine ⟨by omega, g1, k2, k3, by rw [List.length_append]; omega, by rw [sgm_app k4]; exact k5, ?_⟩
    rw [drop_1 k4]
    rcases ha with ⟨a1, a2⟩ | ⟨a1, a2⟩
    · rw [a2]; exact sg_val k6 a1 (by omega)
    · rw [a2]; rw [a1] at k6; exact sg_val2 k6 (by omega)
theorem wt_F {K : KON} {q p : Nat} {t pt : Int} {st co : List Int} {dp br : Int32} {vc : Int} {c : CLT} {F : RES} {pl : Nat} (h : CIV pl 2 pt st dp co br vc c) (hpl : pl + 1 ≤ p) (hp4 : p ≤ 400) (hK : t ≠ -45 → KOK K p F) (hr : cbF K q t p pt st dp co br vc c = some F) : WTR F := by
  have h0 := h
  obtain ⟨hC, hd, hd10, hb, hl, hv, hv60, hc12⟩ := h
  unfold cbF at hr
  by_cases h1 : t = -14 ∨ t = -42
  · rw [if_pos h1] at hr
    by_cases h2 : 10 ≤ dp.toInt
    · rw [if_pos h2] at hr; exact wtr_flt hr (by omega)
    rw [if_neg h2] at hr
    have hcur : c.1 < 12 ∧ CUR 2 pt st co c := by
      rcases hC.2 with ⟨e, -⟩ | ⟨e, -⟩ | ⟨-, e, e2⟩
      · omega
      · omega
      · exact ⟨e, e2⟩
    obtain ⟨hc, A, B, g0, e1, hw, hf, hm, hg, hph⟩ := hcur
    rcases hph with ⟨-, k2, -⟩ | ⟨-, g1, k2, k3, k4, k5, k6⟩
    · omega
    have hA : A = [] ∧ tyx (co.drop g1) [] = some (nT (ao B)) := by
      rcases k6 with ⟨z, -⟩ | ⟨z, -⟩ | ⟨-, z, z2⟩ | ⟨z, -⟩
      · omega
      · omega
      · exact ⟨z, z2⟩
      · omega
    obtain ⟨hA, hty⟩ := hA
    subst hA
    rw [List.nil_append] at e1
    subst e1
    have hlen : st.length ≤ 35 := by
      have := (wst_len st hw).1
      omega
    rw [psh_y (by omega)] at hr
    have hdd : dpt (t :: st) = 1 + dpt st := dpt_n h1
    have e1 : (dp + 1).toInt = dp.toInt + 1 := by
      have k1 : (1 : Int32).toInt = 1 := rfl
      have hb0 := dpt_b st
      rw [a_add (v := dp + 1) rfl (by omega) (by omega), k1]
    have hbb := brk_b st
    have hble := brk_le st
    have ebr : (br + if t = -42 then 1 else 0).toInt = brk (t :: st) := by
      by_cases hq : t = -42
      · rw [if_pos hq, hq, brk_y]
        have k1 : (1 : Int32).toInt = 1 := rfl
        rw [a_add (v := br + 1) rfl (by omega) (by omega), k1]
        omega
      · rw [if_neg hq, brk_n hq, Int32.add_zero]
        exact hb
    refine hK (by omega) 2 pt (t :: st) (dp + 1) co (br + if t = -42 then 1 else 0) vc c ⟨⟨hC.1, Or.inr (Or.inr ⟨Or.inl rfl, hc, [], t :: st, g0, rfl, ⟨by omega, hw⟩, List.Pairwise.nil, hm, hg, Or.inr ⟨Or.inl rfl, g1, k2, k3, k4, k5, Or.inr (Or.inr (Or.inl ⟨rfl, rfl, ?_⟩))⟩⟩)⟩, by omega, by omega, ebr, by simp only [List.length_cons]; omega, hv, hv60, hc12⟩ hr
    rw [ao, if_neg (by omega), Nat.zero_add]
    exact hty
  · rw [if_neg h1] at hr
    exact wt_V h0 (Or.inr ⟨rfl, rfl⟩) hpl hp4 hK hr
