-- the reference's code and stack as the program's
def enc (s n : Int) : Int := if s = 0 then (if 0 ≤ n then n else -99) else if s = 1 then (if 0 ≤ n ∧ n ≤ 12 then -1 - n else -99) else if s = 2 then -15 else if s = 3 then -16 else if s = 13 then -17 else if s = 14 then -18 else if s = 4 then -19 else if s = 5 then -20 else if s = 6 then -21 else if s = 7 then -22 else if s = 8 then -23 else if s = 9 then -14 else if s = 10 then -24 else -25
def encs (v : Int) : Int := if v = 9 then -14 else if v = 10 then -24 else if v = 11 then -25 else if v = 12 then -42 else -99
def rcl (f g : Nat → Int32) (b : Nat) : Nat → List Int
  | 0 => []
  | k + 1 => rcl f g b k ++ [enc (f (b + k)).toInt (g (b + k)).toInt]
def RC (J : MI) : List Int := rcl (J 1035) (J 1036) (300 * (J 1000 27).toNatClampNeg) (J 1000 29).toNatClampNeg
theorem rcl_len {f g : Nat → Int32} {b : Nat} : ∀ k, (rcl f g b k).length = k := by
  intro k
  induction k with
  | zero => rfl
  | succ k ih => rw [rcl, List.length_append, ih]; rfl
theorem rcl_ext {f g f2 g2 : Nat → Int32} {b : Nat} : ∀ k, (∀ i, i < k → f2 (b + i) = f (b + i) ∧ g2 (b + i) = g (b + i)) → rcl f2 g2 b k = rcl f g b k := by
  intro k
  induction k with
  | zero => intro _; rfl
  | succ k ih =>
    intro h
    have h0 := h k (by omega)
    rw [rcl, rcl, ih (fun i hi => h i (by omega)), h0.1, h0.2]
theorem cl_eq {x y : Int32} (h : x.toInt = y.toInt) : x.toNatClampNeg = y.toNatClampNeg := congrArg Int32.toNatClampNeg (Int32.toInt_inj.mp h)
theorem RC_of {J J2 : MI} (h35 : J2 1035 = J 1035) (h36 : J2 1036 = J 1036) (h27 : (J2 1000 27).toInt = (J 1000 27).toInt) (h29 : (J2 1000 29).toInt = (J 1000 29).toInt) : RC J2 = RC J := by
  unfold RC
  rw [h35, h36, cl_eq h27, cl_eq h29]
theorem RC_len {J : MI} (h0 : 0 ≤ (J 1000 29).toInt) : ((RC J).length : Int) = (J 1000 29).toInt := by
  unfold RC
  rw [rcl_len]
  exact tn h0
theorem RC_ent {J J2 : MI} {a b : Int32} (h : ENT J J2 a b) (hf : (J 1000 26).toInt = 0) (h0 : 0 ≤ (J 1000 27).toInt ∧ 0 ≤ (J 1000 29).toInt) (h27 : (J2 1000 27).toInt = (J 1000 27).toInt) (h29 : (J2 1000 29).toInt = (J 1000 29).toInt + 1) : RC J2 = RC J ++ [enc a.toInt b.toInt] := by
  have t1 := tn h0.1
  have t2 := tn h0.2
  have t3 := tn (i := J2 1000 29) (by omega)
  unfold RC
  rw [cl_eq h27, show (J2 1000 29).toNatClampNeg = (J 1000 29).toNatClampNeg + 1 from by omega, rcl]
  have h1 := h (300 * (J 1000 27).toNatClampNeg + (J 1000 29).toNatClampNeg)
  rw [if_pos ⟨hf, by omega⟩, if_pos ⟨hf, by omega⟩] at h1
  rw [h1.1, h1.2, rcl_ext (f := J 1035) (g := J 1036) _ (fun i hi => ?_)]
  have h2 := h (300 * (J 1000 27).toNatClampNeg + i)
  rw [if_neg (by omega), if_neg (by omega)] at h2
  exact h2
def skr (f : Nat → Int32) : Nat → List Int
  | 0 => []
  | k + 1 => encs (f k).toInt :: skr f k
def RK (J : MI) : List Int := skr (J 1042) (J 1000 32).toNatClampNeg
theorem skr_ext {f f2 : Nat → Int32} : ∀ {k : Nat}, (∀ i, i < k → f2 i = f i) → skr f2 k = skr f k := by
  intro k
  induction k with
  | zero => intro _; rfl
  | succ k ih =>
    intro h
    rw [skr, skr, h k (by omega), ih (fun i hi => h i (by omega))]
theorem RK_of {J J2 : MI} (h42 : J2 1042 = J 1042) (h32 : (J2 1000 32).toInt = (J 1000 32).toInt) : RK J2 = RK J := by
  unfold RK
  rw [h42, cl_eq h32]
theorem RK_push {J J2 : MI} {k : Int32} (h : ∀ j, J2 1042 j = if j = (J 1000 32).toNatClampNeg then k else J 1042 j) (h0 : 0 ≤ (J 1000 32).toInt) (h2 : (J2 1000 32).toInt = (J 1000 32).toInt + 1) : RK J2 = encs k.toInt :: RK J := by
  have t1 := tn h0
  have t2 := tn (i := J2 1000 32) (by omega)
  have hk := h (J 1000 32).toNatClampNeg
  rw [if_pos rfl] at hk
  unfold RK
  rw [show (J2 1000 32).toNatClampNeg = (J 1000 32).toNatClampNeg + 1 from by omega, skr, hk, skr_ext (f := J 1042) (fun i hi => by rw [h i, if_neg (by omega)])]
theorem RK_pop {J J2 : MI} (h42 : J2 1042 = J 1042) (h0 : 0 < (J 1000 32).toInt) (h2 : (J2 1000 32).toInt = (J 1000 32).toInt - 1) : RK J = encs (J 1042 ((J 1000 32).toNatClampNeg - 1)).toInt :: RK J2 := by
  have t1 := tn (i := J 1000 32) (by omega)
  have t2 := tn (i := J2 1000 32) (by omega)
  unfold RK
  rw [h42, show (J2 1000 32).toNatClampNeg = (J 1000 32).toNatClampNeg - 1 from by omega]
  obtain ⟨m, hm⟩ : ∃ m, (J 1000 32).toNatClampNeg = m + 1 := ⟨(J 1000 32).toNatClampNeg - 1, by omega⟩
  rw [hm, skr]
  rfl
theorem RK_nil {J : MI} (h : (J 1000 32).toInt = 0) : RK J = [] := by
  unfold RK
  rw [show (J 1000 32).toNatClampNeg = 0 from cl_of h]
  rfl
-- where the program's reader is when the reference's is there
def OKF (J : MI) (F : RES) (P : Prop) : Prop := ((J 1000 26).toInt = 0 → P) ∧ ((J 1000 26).toInt ≠ 0 → F = ((J 1000 26).toInt, [], nul))
def ATV (T : Nat → Int) (J : MI) (F : RES) (aw pt : Int) (st : List Int) (dp br : Int32) (c : CLT) : Prop := ∃ f pl, skp T pl = skp T (J 1000 25).toNatClampNeg ∧ crun T f pl aw pt st dp (RC J) br (J 1000 31).toInt c = some F
def ATX (T : Nat → Int) (J : MI) (F : RES) (pt : Int) (st : List Int) (dp br : Int32) (c : CLT) : Prop := ATV T J F 3 pt st dp br c ∨ (pt = 1 ∧ ¬ (tkv T (skp T (J 1000 25).toNatClampNeg) = -14 ∨ tkv T (skp T (J 1000 25).toNatClampNeg) = -42) ∧ ∃ pt0, ATV T J F 2 pt0 st dp br c)
def ATB (T : Nat → Int) (J : MI) (F : RES) (r pt : Int) (st : List Int) (dp br : Int32) (c : CLT) : Prop := ∃ f pl A co, skp T pl = skp T (J 1000 25).toNatClampNeg ∧ RC J = co ++ A ∧ (∀ x, x ∈ A → r ≤ rk x ∧ x ≠ -42 ∧ x ≠ -14) ∧ (A.length : Int) ≤ 7 - r ∧ crun T f pl 4 pt (A ++ st) dp co br (J 1000 31).toInt c = some F
def EXP (T : Nat → Int) (I J : MI) (r : Int) : Prop := ∀ (F : RES) (pt : Int) (st : List Int) (dp br : Int32) (c : CLT), (I 1000 26).toInt = 0 → pt ≠ 3 → (st.length : Int) ≤ 30 + r → LOW r st → ATX T I F pt st dp br c → OKF J F (ATB T J F r pt st dp br c)
theorem okf_bad {J : MI} {F : RES} {P : Prop} {v : Int} (h : (J 1000 26).toInt = v) (hv : v ≠ 0) (hr : flt v = some F) : OKF J F P := ⟨fun e => absurd (h.symm.trans e) hv, fun _ => by rw [h]; exact (Option.some.inj hr).symm⟩
theorem okf_keep {J J2 : MI} {F : RES} {P Q : Prop} (h : OKF J F P) (hf : (J 1000 26).toInt ≠ 0) (e : (J2 1000 26).toInt = (J 1000 26).toInt) : OKF J2 F Q := ⟨fun z => absurd (e.symm.trans z) hf, fun _ => by rw [e]; exact h.2 hf⟩
theorem atx_V {T : Nat → Int} {I : MI} {F : RES} {pt : Int} {st : List Int} {dp br : Int32} {c : CLT} (h : ATX T I F pt st dp br c) : ∃ f, cbV (crun T f) (skp T (I 1000 25).toNatClampNeg) (tkv T (skp T (I 1000 25).toNatClampNeg)) (skp T (I 1000 25).toNatClampNeg + tkn T (skp T (I 1000 25).toNatClampNeg)) pt st dp (RC I) br (I 1000 31).toInt c = some F := by
  rcases h with ⟨f, pl, hs, hr⟩ | ⟨hp, ht, pt0, f, pl, hs, hr⟩
  · obtain ⟨g, hg⟩ := crun_i hr
    rw [hs, cbo_3] at hg
    exact ⟨g, hg⟩
  · obtain ⟨g, hg⟩ := crun_i hr
    rw [hs, cbo_2] at hg
    unfold cbF at hg
    rw [if_neg ht] at hg
    rw [hp]
    exact ⟨g, hg⟩
theorem val_any {T : Nat → Int} {I J : MI} {q : Nat} (hq : q = skp T (I 1000 25).toNatClampNeg) (h1 : tkv T q = -46 → (J 1000 26).toInt = 1 + 8 * (q : Int) + 1) (h2 : tkv T q ≠ -46 → tkv T q ≤ -14 → (J 1000 26).toInt = 1 + 8 * (q : Int)) (h3 : -14 < tkv T q → (I 1000 31).toInt = 60 → (J 1000 26).toInt = 1 + 8 * (q : Int) + 3) (h4 : -14 < tkv T q → (I 1000 31).toInt ≠ 60 → (J 1000 26).toInt = 0 ∧ skp T (J 1000 25).toNatClampNeg = skp T (q + tkn T q) ∧ (J 1000 31).toInt = (I 1000 31).toInt + 1 ∧ RC J = RC I ++ [tkv T q]) (hc : (I 1000 31).toInt ≤ 60) (hl : (RC I).length < 400) : EXP T I J 7 := by
  intro F pt st dp br c hf hp3 hsl hlow hx
  obtain ⟨g, hr⟩ := atx_V hx
  rw [← hq] at hr
  unfold cbV at hr
  by_cases e1 : tkv T q = -46
  · rw [if_pos e1] at hr
    exact okf_bad (h1 e1) (by omega) hr
  rw [if_neg e1] at hr
  by_cases e2 : tkv T q ≤ -14
  · rw [if_pos e2] at hr
    exact okf_bad (h2 e1 e2) (by omega) hr
  rw [if_neg e2] at hr
  by_cases e3 : 60 ≤ (I 1000 31).toInt
  · rw [if_pos e3] at hr
    exact okf_bad (h3 (by omega) (by omega)) (by omega) hr
  rw [if_neg e3] at hr
  obtain ⟨k1, k2, k3, k4⟩ := h4 (by omega) (by omega)
  refine ⟨fun _ => ⟨g, q + tkn T q, [], RC J, k2.symm, (List.append_nil _).symm, (fun x hx => by cases hx), by simp, ?_⟩, fun z => absurd k1 z⟩
  rw [List.nil_append, k3, k4]
  rw [adl_y hl] at hr
  exact hr
theorem EXP.mono {T : Nat → Int} {I J : MI} {r r2 : Int} (h : EXP T I J r2) (hr : r ≤ r2) : EXP T I J r := by
  intro F pt st dp br c hf hp3 hsl hlow hx
  have h1 := h F pt st dp br c hf hp3 (by omega) (hlow.mono hr) hx
  refine ⟨fun e => ?_, h1.2⟩
  obtain ⟨f, pl, A, co, k1, k2, k3, k4, k5⟩ := h1.1 e
  exact ⟨f, pl, A, co, k1, k2, fun x hx => ⟨by have := (k3 x hx).1; omega, (k3 x hx).2⟩, by omega, k5⟩
theorem EXP.keep {T : Nat → Int} {I J J2 : MI} {r : Int} (h : EXP T I J r) (hf : (J2 1000 26).toInt = (J 1000 26).toInt) (hp : (J 1000 26).toInt = 0 → skp T (J2 1000 25).toNatClampNeg = skp T (J 1000 25).toNatClampNeg ∧ (J2 1000 31).toInt = (J 1000 31).toInt ∧ RC J2 = RC J) : EXP T I J2 r := by
  intro F pt st dp br c hfI hp3 hsl hlow hx
  have h1 := h F pt st dp br c hfI hp3 hsl hlow hx
  refine ⟨fun e => ?_, fun e => by rw [hf]; exact h1.2 (by omega)⟩
  obtain ⟨e1, e2, e3⟩ := hp (by omega)
  obtain ⟨f, pl, A, co, k1, k2, k3, k4, k5⟩ := h1.1 (by omega)
  exact ⟨f, pl, A, co, by rw [e1]; exact k1, by rw [e3]; exact k2, k3, k4, by rw [e2]; exact k5⟩
-- what a value, or more, is at another beginning
theorem EXP.beg {T : Nat → Int} {I I2 J : MI} {r : Int} (h : EXP T I2 J r) (hf : (I2 1000 26).toInt = (I 1000 26).toInt) (hp : skp T (I2 1000 25).toNatClampNeg = skp T (I 1000 25).toNatClampNeg) (hc : (I2 1000 31).toInt = (I 1000 31).toInt) (hR : RC I2 = RC I) : EXP T I J r := by
  intro F pt st dp br c hfI hp3 hsl hlow hx
  refine h F pt st dp br c (by omega) hp3 hsl hlow ?_
  unfold ATX ATV
  rw [hp, hc, hR]
  exact hx
theorem opr_step {T : Nat → Int} {I J J1 J2 J3 : MI} {o r : Int} (h : EXP T I J r) (hf : (J 1000 26).toInt = 0) (ho : tkv T (skp T (J 1000 25).toNatClampNeg) = o) (hn : tkn T (skp T (J 1000 25).toNatClampNeg) = 1) (hor : rk o = r) (ho2 : o ≤ -15 ∧ -18 ≤ o) (hr4 : 4 ≤ r ∧ r ≤ 6) (hj1 : (J1 1000 26).toInt = 0) (hp1 : (J1 1000 25).toNatClampNeg = skp T (J 1000 25).toNatClampNeg + 1) (hc1 : (J1 1000 31).toInt = (J 1000 31).toInt) (hR1 : RC J1 = RC J) (hl : (RC J).length < 400) (hv : EXP T J1 J2 (r + 1)) (h3f : (J3 1000 26).toInt = (J2 1000 26).toInt) (h3 : (J2 1000 26).toInt = 0 → skp T (J3 1000 25).toNatClampNeg = skp T (J2 1000 25).toNatClampNeg ∧ (J3 1000 31).toInt = (J2 1000 31).toInt ∧ RC J3 = RC J2 ++ [o]) : EXP T I J3 r := by
  intro F pt st dp br c hfI hp3 hsl hlow hx
  obtain ⟨f, pl, A, co, hs, hRC, hA, hAl, hr⟩ := (h F pt st dp br c hfI hp3 hsl hlow hx).1 hf
  obtain ⟨g, hg⟩ := crun_i hr
  rw [hs, cbo_4, ho, hn] at hg
  unfold cbB at hg
  rw [if_pos ⟨ho2, hp3⟩] at hg
  have hlen : co.length + A.length < 400 := by rw [← List.length_append, ← hRC]; exact hl
  have hz : popc (rk o) (A ++ st) dp co = (st, dp, RC J) := by rw [hor, popc_app hA (by omega), popc_low hlow, hRC]
  rw [hz] at hg
  have hps : psh st o = o :: st := if_pos (by omega)
  have hg2 : crun T g (skp T (J 1000 25).toNatClampNeg + 1) 3 pt (o :: st) dp (RC J) br (J 1000 31).toInt c = some F := by rw [← hps]; exact hg
  rw [← hR1, ← hc1] at hg2
  have hv2 := hv F pt (o :: st) dp br c hj1 hp3 (by simp only [List.length_cons]; omega) (fun x l e => by have e2 := (List.cons.inj e).1; right; rw [← e2]; omega) (Or.inl ⟨g, _, by rw [hp1], hg2⟩)
  refine ⟨fun e => ?_, fun e => by rw [h3f]; exact hv2.2 (by omega)⟩
  obtain ⟨f2, pl2, A2, co2, hs2, hRC2, hA2, hAl2, hr2⟩ := hv2.1 (by omega)
  obtain ⟨e1, e2, e3⟩ := h3 (by omega)
  refine ⟨f2, pl2, A2 ++ [o], co2, by rw [e1]; exact hs2, by rw [e3, hRC2, List.append_assoc], fun x hx => ?_, ?_, ?_⟩
  · rcases List.mem_append.mp hx with hy | hy
    · have := hA2 x hy
      exact ⟨by omega, this.2⟩
    · have : x = o := by simpa using hy
      rw [this]
      exact ⟨by omega, by omega, by omega⟩
  · simp only [List.length_append, List.length_cons, List.length_nil]
    omega
  · rw [e2, List.append_assoc]
    exact hr2
-- a comparison
def CMP (T : Nat → Int) (I J : MI) : Prop := ∀ (F : RES) (pt0 : Int) (st : List Int) (dp br : Int32) (c : CLT), (I 1000 26).toInt = 0 → ¬ (tkv T (skp T (I 1000 25).toNatClampNeg) = -14 ∨ tkv T (skp T (I 1000 25).toNatClampNeg) = -42) → (st.length : Int) ≤ 34 → LOW 4 st → ATV T I F 2 pt0 st dp br c → OKF J F (ATB T J F 4 2 st dp br c)
theorem cmp_l {T : Nat → Int} {I J : MI} {F : RES} {pt0 : Int} {st : List Int} {dp br : Int32} {c : CLT} (h : EXP T I J 5) (hf : (I 1000 26).toInt = 0) (ht : ¬ (tkv T (skp T (I 1000 25).toNatClampNeg) = -14 ∨ tkv T (skp T (I 1000 25).toNatClampNeg) = -42)) (hsl : (st.length : Int) ≤ 34) (hlow : LOW 4 st) (hx : ATV T I F 2 pt0 st dp br c) : OKF J F (ATB T J F 5 1 st dp br c) := h F 1 st dp br c hf (by decide) (by omega) (hlow.mono (by decide)) (Or.inr ⟨rfl, ht, pt0, hx⟩)
theorem cmp_bad1 {T : Nat → Int} {I J1 J : MI} (h : EXP T I J1 5) (hf : (J1 1000 26).toInt ≠ 0) (hJ : (J 1000 26).toInt = (J1 1000 26).toInt) : CMP T I J := fun _ _ _ _ _ _ hfI ht hsl hlow hx => okf_keep (cmp_l h hfI ht hsl hlow hx) hf hJ
theorem cmp_bad2 {T : Nat → Int} (hT : OKT T) {I J1 J : MI} (h : EXP T I J1 5) (hf : (J1 1000 26).toInt = 0) (hna : T (skp T (J1 1000 25).toNatClampNeg) ≠ 42 ∧ T (skp T (J1 1000 25).toNatClampNeg) ≠ 43 ∧ T (skp T (J1 1000 25).toNatClampNeg) ≠ 45 ∧ T (skp T (J1 1000 25).toNatClampNeg) ≠ 47 ∧ T (skp T (J1 1000 25).toNatClampNeg) ≠ 60 ∧ T (skp T (J1 1000 25).toNatClampNeg) ≠ 61 ∧ T (skp T (J1 1000 25).toNatClampNeg) ≠ 62) (hJ : (J 1000 26).toInt = 1 + 8 * (skp T (J1 1000 25).toNatClampNeg : Int)) : CMP T I J := by
  intro F pt0 st dp br c hfI ht hsl hlow hx
  obtain ⟨f, pl, A, co, hs, hRC, hA, hAl, hr⟩ := (cmp_l h hfI ht hsl hlow hx).1 hf
  obtain ⟨g, hg⟩ := crun_i hr
  rw [hs, cbo_4] at hg
  unfold cbB at hg
  have n1 : ¬ (tkv T (skp T (J1 1000 25).toNatClampNeg) ≤ -15 ∧ -18 ≤ tkv T (skp T (J1 1000 25).toNatClampNeg)) := fun e => by have := tk_ar hT e; omega
  have n2 : ¬ (tkv T (skp T (J1 1000 25).toNatClampNeg) ≤ -19 ∧ -23 ≤ tkv T (skp T (J1 1000 25).toNatClampNeg)) := fun e => by have := tk_cm hT e; omega
  rw [if_neg (fun e => n1 e.1), if_neg (fun e => n2 e.1), if_neg (by omega), if_neg (by omega), if_neg (by omega), if_neg (by omega)] at hg
  exact okf_bad hJ (by omega) hg
theorem cmp_many {T : Nat → Int} (hT : OKT T) {I J1 J : MI} (h : EXP T I J1 5) (hf : (J1 1000 26).toInt = 0) (hcm : T (skp T (J1 1000 25).toNatClampNeg) = 60 ∨ T (skp T (J1 1000 25).toNatClampNeg) = 61 ∨ T (skp T (J1 1000 25).toNatClampNeg) = 62) (hc : (J1 1000 31).toInt = 60) (hJ : (J 1000 26).toInt = 1 + 8 * (skp T (J1 1000 25).toNatClampNeg : Int) + 3) : CMP T I J := by
  intro F pt0 st dp br c hfI ht hsl hlow hx
  obtain ⟨f, pl, A, co, hs, hRC, hA, hAl, hr⟩ := (cmp_l h hfI ht hsl hlow hx).1 hf
  obtain ⟨g, hg⟩ := crun_i hr
  rw [hs, cbo_4] at hg
  unfold cbB at hg
  have n2 := tk_cm2 hcm
  rw [if_neg (by omega), if_pos (by omega), if_pos (by omega)] at hg
  exact okf_bad hJ (by omega) hg
theorem cmp_ok {T : Nat → Int} (hT : OKT T) {I J1 J2 J3 J4 : MI} {o : Int} (h : EXP T I J1 5) (hf : (J1 1000 26).toInt = 0) (hcm : T (skp T (J1 1000 25).toNatClampNeg) = 60 ∨ T (skp T (J1 1000 25).toNatClampNeg) = 61 ∨ T (skp T (J1 1000 25).toNatClampNeg) = 62) (ho : tkv T (skp T (J1 1000 25).toNatClampNeg) = o) (hc : (J1 1000 31).toInt < 60) (hj2 : (J2 1000 26).toInt = 0) (hp2 : (J2 1000 25).toNatClampNeg = skp T (J1 1000 25).toNatClampNeg + tkn T (skp T (J1 1000 25).toNatClampNeg)) (hc2 : (J2 1000 31).toInt = (J1 1000 31).toInt + 1) (hR2 : RC J2 = RC J1) (hl : (RC J1).length < 400) (hv : EXP T J2 J3 5) (h4f : (J4 1000 26).toInt = (J3 1000 26).toInt) (h4 : (J3 1000 26).toInt = 0 → skp T (J4 1000 25).toNatClampNeg = skp T (J3 1000 25).toNatClampNeg ∧ (J4 1000 31).toInt = (J3 1000 31).toInt ∧ RC J4 = RC J3 ++ [o]) : CMP T I J4 := by
  intro F pt0 st dp br c hfI ht hsl hlow hx
  obtain ⟨f, pl, A, co, hs, hRC, hA, hAl, hr⟩ := (cmp_l h hfI ht hsl hlow hx).1 hf
  obtain ⟨g, hg⟩ := crun_i hr
  rw [hs, cbo_4] at hg
  unfold cbB at hg
  have n2 := tk_cm2 hcm
  rw [ho] at n2 hg
  have hro : rk o = 4 := (rk_of (by omega)).symm
  rw [if_neg (by omega), if_pos (by omega), if_neg (by omega)] at hg
  have hlen : co.length + A.length < 400 := by rw [← List.length_append, ← hRC]; exact hl
  have hz : popc (rk o) (A ++ st) dp co = (st, dp, RC J1) := by rw [hro, popc_app (fun x hx => ⟨by have := (hA x hx).1; omega, (hA x hx).2⟩) (by omega), popc_low hlow, hRC]
  rw [hz] at hg
  have hps : psh st o = o :: st := if_pos (by omega)
  have hg2 : crun T g (skp T (J1 1000 25).toNatClampNeg + tkn T (skp T (J1 1000 25).toNatClampNeg)) 3 2 (o :: st) dp (RC J1) br ((J1 1000 31).toInt + 1) c = some F := by rw [← hps]; exact hg
  rw [← hR2, ← hc2] at hg2
  have hv2 := hv F 2 (o :: st) dp br c hj2 (by decide) (by simp only [List.length_cons]; omega) (fun x l e => by have e2 := (List.cons.inj e).1; right; rw [← e2]; omega) (Or.inl ⟨g, _, by rw [hp2], hg2⟩)
  refine ⟨fun e => ?_, fun e => by rw [h4f]; exact hv2.2 (by omega)⟩
  obtain ⟨f2, pl2, A2, co2, hs2, hRC2, hA2, hAl2, hr2⟩ := hv2.1 (by omega)
  obtain ⟨e1, e2, e3⟩ := h4 (by omega)
  refine ⟨f2, pl2, A2 ++ [o], co2, by rw [e1]; exact hs2, by rw [e3, hRC2, List.append_assoc], fun x hx => ?_, ?_, ?_⟩
  · rcases List.mem_append.mp hx with hy | hy
    · have := hA2 x hy
      exact ⟨by omega, this.2⟩
    · have : x = o := by simpa using hy
      rw [this]
      exact ⟨by omega, by omega, by omega⟩
  · simp only [List.length_append, List.length_cons, List.length_nil]
    omega
  · rw [e2, List.append_assoc]
    exact hr2
-- the stack of signs: how it may look
def WST : List Int → Prop
  | [] => True
  | t :: s => (t = -14 ∨ t = -42 ∨ (t = -24 ∧ ∀ x l, s = x :: l → x = -42 ∨ x = -25) ∨ (t = -25 ∧ ∀ x l, s = x :: l → x = -42)) ∧ WST s
def dpt : List Int → Int
  | [] => 0
  | t :: s => (if t = -14 ∨ t = -42 then 1 else 0) + dpt s
def brk : List Int → Int
  | [] => 0
  | t :: s => (if t = -42 then 1 else 0) + brk s
theorem dpt_n {t : Int} {s : List Int} (h : t = -14 ∨ t = -42) : dpt (t :: s) = 1 + dpt s := by rw [dpt, if_pos h]
theorem dpt_o {t : Int} {s : List Int} (h : ¬ (t = -14 ∨ t = -42)) : dpt (t :: s) = dpt s := by rw [dpt, if_neg h]; omega
theorem brk_b (s : List Int) : 0 ≤ brk s := by
  induction s with
  | nil => exact Int.le_refl 0
  | cons t s ih =>
    rw [brk]
    by_cases h : t = -42
    · rw [if_pos h]; omega
    · rw [if_neg h]; omega
theorem dpt_b (s : List Int) : 0 ≤ dpt s := by
  induction s with
  | nil => exact Int.le_refl 0
  | cons t s ih =>
    by_cases h : t = -14 ∨ t = -42
    · rw [dpt_n h]; omega
    · rw [dpt_o h]; omega
theorem wst_len : ∀ s, WST s → (s.length : Int) ≤ 3 * dpt s + 2 ∧ ((∀ x l, s = x :: l → x ≠ -24) → (s.length : Int) ≤ 3 * dpt s + 1) ∧ ((∀ x l, s = x :: l → x ≠ -24 ∧ x ≠ -25) → (s.length : Int) ≤ 3 * dpt s) := by
  intro s
  induction s with
  | nil => intro _; exact ⟨by decide, fun _ => by decide, fun _ => by decide⟩
  | cons t s ih =>
    intro h
    obtain ⟨h1, h2⟩ := h
    have hs := ih h2
    simp only [List.length_cons]
    rcases h1 with h1 | h1 | ⟨h1, h3⟩ | ⟨h1, h3⟩
    · rw [dpt_n (Or.inl h1)]
      exact ⟨by omega, fun _ => by omega, fun _ => by omega⟩
    · rw [dpt_n (Or.inr h1)]
      exact ⟨by omega, fun _ => by omega, fun _ => by omega⟩
    · have h4 := hs.2.1 (fun x l e => by have := h3 x l e; omega)
      rw [dpt_o (by omega)]
      exact ⟨by omega, fun q => absurd h1 (q t s rfl), fun q => absurd h1 (q t s rfl).1⟩
    · have h4 := hs.2.2 (fun x l e => by have := h3 x l e; omega)
      rw [dpt_o (by omega)]
      exact ⟨by omega, fun _ => by omega, fun q => absurd h1 (q t s rfl).2⟩
theorem wst_low {s : List Int} (h : WST s) : LOW 4 s := by
  intro x l e
  subst e
  have h1 := h.1
  have hrk : x = -14 ∨ x = -24 ∨ x = -25 → rk x < 4 := by
    intro hx
    rcases hx with rfl | rfl | rfl <;> decide
  rcases h1 with h1 | h1 | h1 | h1
  · exact Or.inr (hrk (Or.inl h1))
  · exact Or.inl h1
  · exact Or.inr (hrk (Or.inr (Or.inl h1.1)))
  · exact Or.inr (hrk (Or.inr (Or.inr h1.1)))
-- what one kind of sign on top gives to the code
def apc (v : Int) : List Int → Int32 → List Int → List Int × Int32 × List Int
  | [], d, co => ([], d, co)
  | t :: s, d, co => if t = v then apc v s (if v = -14 then d - 1 else d) (co ++ [v]) else (t :: s, d, co)
theorem apc_y {v : Int} {s : List Int} {d : Int32} {co : List Int} : apc v (v :: s) d co = apc v s (if v = -14 then d - 1 else d) (co ++ [v]) := by rw [apc, if_pos rfl]
theorem apc_n {v : Int} {s : List Int} {d : Int32} {co : List Int} (h : ∀ x l, s = x :: l → x ≠ v) : apc v s d co = (s, d, co) := by
  cases s with
  | nil => rfl
  | cons t s => rw [apc, if_neg (h t s rfl)]
def apc2 (z : List Int × Int32 × List Int) : List Int × Int32 × List Int := apc (-24) z.1 z.2.1 z.2.2
def apc3 (z : List Int × Int32 × List Int) : List Int × Int32 × List Int := apc (-25) z.1 z.2.1 z.2.2
theorem popc_y {r t : Int} {s : List Int} {d : Int32} {co : List Int} (h : t ≠ -42 ∧ r ≤ rk t) (hl : co.length < 400) : popc r (t :: s) d co = popc r s (if t = -14 then d - 1 else d) (co ++ [t]) := by rw [popc, if_pos h, adl_y hl]
theorem popc_2 : ∀ {s : List Int} {d : Int32} {co : List Int}, WST s → co.length + s.length ≤ 400 → popc 2 s d co = apc2 (apc (-14) s d co) := by
  intro s
  induction s with
  | nil => intro d co _ _; rfl
  | cons t s ih =>
    intro d co h hl
    simp only [List.length_cons] at hl
    obtain ⟨h1, h2⟩ := h
    rcases h1 with h1 | h1 | ⟨h1, h3⟩ | ⟨h1, h3⟩
    · subst h1
      rw [popc_y (by decide) (by omega), apc_y]
      exact ih h2 (by simp only [List.length_append, List.length_cons, List.length_nil]; omega)
    · subst h1
      rw [popc_low (fun x l e => Or.inl (List.cons.inj e).1.symm), apc_n (fun x l e => by rw [← (List.cons.inj e).1]; decide)]
      unfold apc2
      rw [apc_n (fun x l e => by rw [← (List.cons.inj e).1]; decide)]
    · subst h1
      rw [popc_y (by decide) (by omega), apc_n (s := -24 :: s) (fun x l e => by rw [← (List.cons.inj e).1]; decide)]
      unfold apc2
      rw [apc_y, apc_n (fun x l e => by have := h3 x l e; omega), popc_low (fun x l e => by
        rcases h3 x l e with h4 | h4
        · exact Or.inl h4
        · right; rw [h4]; decide)]
    · subst h1
      rw [popc_low (fun x l e => by right; rw [← (List.cons.inj e).1]; decide), apc_n (fun x l e => by rw [← (List.cons.inj e).1]; decide)]
      unfold apc2
      rw [apc_n (fun x l e => by rw [← (List.cons.inj e).1]; decide)]
theorem popc_1 : ∀ {s : List Int} {d : Int32} {co : List Int}, WST s → co.length + s.length ≤ 400 → popc 1 s d co = apc3 (apc2 (apc (-14) s d co)) := by
  intro s
  induction s with
  | nil => intro d co _ _; rfl
  | cons t s ih =>
    intro d co h hl
    simp only [List.length_cons] at hl
    obtain ⟨h1, h2⟩ := h
    rcases h1 with h1 | h1 | ⟨h1, h3⟩ | ⟨h1, h3⟩
    · subst h1
      rw [popc_y (by decide) (by omega), apc_y]
      exact ih h2 (by simp only [List.length_append, List.length_cons, List.length_nil]; omega)
    · subst h1
      rw [popc_low (fun x l e => Or.inl (List.cons.inj e).1.symm), apc_n (fun x l e => by rw [← (List.cons.inj e).1]; decide)]
      unfold apc3 apc2
      rw [apc_n (fun x l e => by rw [← (List.cons.inj e).1]; decide)]
      rw [apc_n (fun x l e => by rw [← (List.cons.inj e).1]; decide)]
    · subst h1
      rw [popc_y (by decide) (by omega), apc_n (s := -24 :: s) (fun x l e => by rw [← (List.cons.inj e).1]; decide)]
      unfold apc3 apc2
      rw [apc_y, apc_n (v := -24) (s := s) (fun x l e => by have := h3 x l e; omega)]
      cases s with
      | nil => rfl
      | cons x l =>
        rcases h3 x l rfl with h4 | h4
        · subst h4
          rw [popc_low (fun x l e => Or.inl (List.cons.inj e).1.symm), apc_n (fun x l e => by rw [← (List.cons.inj e).1]; decide)]
        · subst h4
          simp only [List.length_cons] at hl
          have h5 : ∀ y m, l = y :: m → y = -42 := by
            rcases h2.1 with h6 | h6 | ⟨h6, -⟩ | ⟨-, h7⟩
            · exact absurd h6 (by decide)
            · exact absurd h6 (by decide)
            · exact absurd h6 (by decide)
            · exact h7
          rw [popc_y (by decide) (by simp only [List.length_append, List.length_cons, List.length_nil]; omega), apc_y, popc_low (fun y m e => Or.inl (h5 y m e)), apc_n (fun y m e => by rw [h5 y m e]; decide)]
    · subst h1
      rw [popc_y (by decide) (by omega), apc_n (v := -14) (fun x l e => by rw [← (List.cons.inj e).1]; decide)]
      unfold apc3 apc2
      rw [apc_n (v := -24) (fun x l e => by rw [← (List.cons.inj e).1]; decide), apc_y, popc_low (fun y m e => Or.inl (h3 y m e)), apc_n (fun y m e => by rw [h3 y m e]; decide)]
