def TM (I : MI) : Nat → Int := TXT (I 1034) (I 1000 24).toInt
theorem TM_of {I I2 : MI} (h : I2 1034 = I 1034) (h3 : I2 1000 24 = I 1000 24) : TM I2 = TM I := by
  unfold TM
  rw [h, h3]
theorem TM_ok {I : MI} (hI : INV I) : OKT (TM I) := TXT_ok (hI.get 1000 24 (lo := 0) (hi := 400) rfl).2
def BTM (I : MI) : Prop := ∀ j : Nat, (j : Int) < (I 1000 24).toInt → -128 ≤ (I 1034 j).toInt ∧ (I 1034 j).toInt ≤ 127
theorem BTM.of {I I2 : MI} (h : BTM I) (h34 : I2 1034 = I 1034) (h24 : I2 1000 24 = I 1000 24) : BTM I2 := by
  unfold BTM
  rw [h34, h24]
  exact h
def SGX (c : Int) (r : Int32) : Prop := (c = -45 ∧ r.toInt = -1) ∨ (c ≠ -45 ∧ r.toInt = c)
theorem SGX.y {c k : Int} {r : Int32} (h : SGX c r) (e : r.toInt = k) (hk : 0 ≤ k) : c = k := by
  unfold SGX at h
  omega
theorem SGX.n {c k : Int} {r : Int32} (h : SGX c r) (e : r.toInt ≠ k) (hk : 0 ≤ k) : c ≠ k := by
  unfold SGX at h
  omega
def DGX (c : Int) (r : Int32) : Prop := (r.toInt = 1 ∧ 48 ≤ c ∧ c ≤ 57) ∨ (r.toInt = 0 ∧ ¬ (48 ≤ c ∧ c ≤ 57))
theorem DGX.y {c : Int} {r : Int32} (h : DGX c r) (e : r.toInt ≠ 0) : 48 ≤ c ∧ c ≤ 57 := by
  unfold DGX at h
  omega
theorem DGX.n {c : Int} {r : Int32} (h : DGX c r) (e : r.toInt = 0) : ¬ (48 ≤ c ∧ c ≤ 57) := by
  unfold DGX at h
  omega
def CTX (I I2 : MI) (a : Int32) : Prop := ((I 1000 26).toInt = 0 → ((I 1000 31).toInt = 60 → (I2 1000 26).toInt = 1 + 8 * a.toInt + 3) ∧ ((I 1000 31).toInt ≠ 60 → (I2 1000 26).toInt = 0)) ∧ ((I 1000 26).toInt ≠ 0 → (I2 1000 26).toInt = (I 1000 26).toInt)
def DIX (T : Nat → Int) (I I2 : MI) (most : Int) (r : Int32) : Prop := (¬ (48 ≤ T (I 1000 25).toNatClampNeg ∧ T (I 1000 25).toNatClampNeg ≤ 57) ∧ (I2 1000 25).toNatClampNeg = (I 1000 25).toNatClampNeg ∧ ((I 1000 26).toInt = 0 → (I2 1000 26).toInt = 1 + 8 * ((I 1000 25).toNatClampNeg : Int))) ∨ ((48 ≤ T (I 1000 25).toNatClampNeg ∧ T (I 1000 25).toNatClampNeg ≤ 57) ∧ (I2 1000 25).toNatClampNeg = (I 1000 25).toNatClampNeg + rnl dg T (I 1000 25).toNatClampNeg ∧ r.toInt = nv T (I 1000 25).toNatClampNeg (rnl dg T (I 1000 25).toNatClampNeg) ∧ ((I 1000 26).toInt = 0 → (5 < rnl dg T (I 1000 25).toNatClampNeg ∨ most < nv T (I 1000 25).toNatClampNeg (rnl dg T (I 1000 25).toNatClampNeg) → (I2 1000 26).toInt = 1 + 8 * ((I 1000 25).toNatClampNeg : Int) + 1) ∧ (¬ (5 < rnl dg T (I 1000 25).toNatClampNeg ∨ most < nv T (I 1000 25).toNatClampNeg (rnl dg T (I 1000 25).toNatClampNeg)) → (I2 1000 26).toInt = 0)))
def WQX (T : Nat → Int) (p : Nat) (l : List Int) (r : Int32) : Prop := (r.toInt = 1 ∧ wq T p l = true) ∨ (r.toInt = 0 ∧ wq T p l = false)
theorem WQX.y {T : Nat → Int} {p : Nat} {l : List Int} {r : Int32} (h : WQX T p l r) (e : r.toInt ≠ 0) : wq T p l = true := by
  rcases h with h | h
  · exact h.2
  · exact absurd h.1 e
theorem WQX.n {T : Nat → Int} {p : Nat} {l : List Int} {r : Int32} (h : WQX T p l r) (e : r.toInt = 0) : wq T p l = false := by
  rcases h with h | h
  · omega
  · exact h.2
def TKX (T : Nat → Int) (I I2 : MI) (l : List Int) (r : Int32) : Prop := (r.toInt = 1 ∧ wq T (skp T (I 1000 25).toNatClampNeg) l = true ∧ (I2 1000 25).toNatClampNeg = skp T (I 1000 25).toNatClampNeg + l.length) ∨ (r.toInt = 0 ∧ wq T (skp T (I 1000 25).toNatClampNeg) l = false ∧ (I2 1000 25).toNatClampNeg = skp T (I 1000 25).toNatClampNeg)
theorem EXP.of {T : Nat → Int} {I J : MI} {r : Int} (h : (I 1000 26).toInt = 0 → EXP T I J r) : EXP T I J r := fun F pt st dp br c hf => h hf F pt st dp br c hf
theorem CMP.of {T : Nat → Int} {I J : MI} (h : (I 1000 26).toInt = 0 → CMP T I J) : CMP T I J := fun F pt st dp br c hf => h hf F pt st dp br c hf
theorem FCT.of {T : Nat → Int} {I J : MI} {r : Int} (h : (I 1000 26).toInt = 0 → FCT T I J r) : FCT T I J r := fun F c hf => h hf F c hf
theorem CLP.of {T : Nat → Int} {I J : MI} {n : Nat} (h : (I 1000 26).toInt = 0 → CLP T I J n) : CLP T I J n := fun F c hf => h hf F c hf
theorem val_num {T : Nat → Int} (hT : OKT T) {I I1 I3 I5 I7 : MI} {b r : Int32} (hb : (I1 1000 25).toNatClampNeg = skp T (I 1000 25).toNatClampNeg) (hf1 : (I1 1000 26).toInt = (I 1000 26).toInt) (hc1 : (I1 1000 31).toInt = (I 1000 31).toInt) (hR1 : RC I1 = RC I) (hd : 48 ≤ T (I1 1000 25).toNatClampNeg ∧ T (I1 1000 25).toNatClampNeg ≤ 57) (hx : DIX T I1 I3 99999 r) (hc3 : (I3 1000 31).toInt = (I1 1000 31).toInt) (hR3 : RC I3 = RC I1) (hk3 : (I1 1000 26).toInt ≠ 0 → (I3 1000 26).toInt = (I1 1000 26).toInt) (hbg : b.toInt = ((I1 1000 25).toNatClampNeg : Int)) (hct : CTX I3 I5 b) (hp5 : (I5 1000 25).toNatClampNeg = (I3 1000 25).toNatClampNeg) (hR5 : RC I5 = RC I3) (hc5 : (I5 1000 26).toInt = 0 → (I5 1000 31).toInt = (I3 1000 31).toInt + 1) (hf7 : (I7 1000 26).toInt = (I5 1000 26).toInt) (hc7 : (I7 1000 31).toInt = (I5 1000 31).toInt) (hp7 : (I7 1000 25).toNatClampNeg = (I5 1000 25).toNatClampNeg) (hR7 : (I5 1000 26).toInt = 0 → RC I7 = RC I5 ++ [r.toInt]) (hcc : (I 1000 26).toInt = 0 → (I 1000 31).toInt ≤ 60) (hl : (RC I).length < 400) : EXP T I I7 7 := by
  refine EXP.of (fun hf => ?_)
  obtain ⟨q, hq⟩ : ∃ q, q = skp T (I 1000 25).toNatClampNeg := ⟨_, rfl⟩
  rw [← hq] at hb
  have htk := tk_D (T := T) (q := q) (by rw [← hb]; exact hd)
  rcases hx with ⟨h1, -⟩ | ⟨h1, h2, h3, h4⟩
  · exact absurd hd h1
  · rw [hb] at h2 h3 h4 hbg
    have h5 := h4 (by omega)
    by_cases e : 5 < rnl dg T q
    · rw [if_pos e] at htk
      have h6 := h5.1 (Or.inl e)
      have h7 := hct.2 (by omega)
      exact val_any hq (fun _ => by omega) (fun z => absurd htk.1 z) (fun z => by omega) (fun z => by omega) (hcc hf) hl
    · rw [if_neg e] at htk
      have hall := nv_99 (T := T) (p := q) (k := rnl dg T q) (rnl_all _ q rfl) (by omega)
      have h6 := h5.2 (by omega)
      have h7 := hct.1 h6
      refine val_any hq (fun z => by omega) (fun _ z => by omega) (fun _ z => ?_) (fun _ z => ?_) (hcc hf) hl
      · have h8 := h7.1 (by omega)
        omega
      · have h8 := h7.2 (by omega)
        exact ⟨by omega, by rw [hp7, hp5, h2, htk.2], by have := hc5 h8; omega, by rw [hR7 h8, hR5, hR3, hR1, h3, htk.1]⟩
theorem val_word {T : Nat → Int} {I I1 I5 I7 : MI} {b : Int32} {k : Nat} (hb : (I1 1000 25).toNatClampNeg = skp T (I 1000 25).toNatClampNeg) (hf1 : (I1 1000 26).toInt = (I 1000 26).toInt) (hc1 : (I1 1000 31).toInt = (I 1000 31).toInt) (hR1 : RC I1 = RC I) (hk : k ≤ 12) (hw : wq T (I1 1000 25).toNatClampNeg (rwd k) = true) (hbg : b.toInt = ((I1 1000 25).toNatClampNeg : Int)) (hct : CTX I1 I5 b) (hR5 : RC I5 = RC I1) (hc5 : (I5 1000 26).toInt = 0 → (I5 1000 31).toInt = (I1 1000 31).toInt + 1) (hf7 : (I7 1000 26).toInt = (I5 1000 26).toInt) (hc7 : (I7 1000 31).toInt = (I5 1000 31).toInt) (hp7 : (I7 1000 25).toNatClampNeg = (I1 1000 25).toNatClampNeg + (rwd k).length) (hR7 : (I5 1000 26).toInt = 0 → RC I7 = RC I5 ++ [-1 - (k : Int)]) (hcc : (I 1000 26).toInt = 0 → (I 1000 31).toInt ≤ 60) (hl : (RC I).length < 400) : EXP T I I7 7 := by
  refine EXP.of (fun hf => ?_)
  obtain ⟨q, hq⟩ : ∃ q, q = skp T (I 1000 25).toNatClampNeg := ⟨_, rfl⟩
  rw [← hq] at hb
  rw [hb] at hw hp7 hbg
  have htk := tk_rw hk hw
  have h7 := hct.1 (by omega)
  refine val_any hq (fun z => by omega) (fun _ z => by omega) (fun _ z => ?_) (fun _ z => ?_) (hcc hf) hl
  · have h8 := h7.1 (by omega)
    omega
  · have h8 := h7.2 (by omega)
    exact ⟨by omega, by rw [hp7, htk.2.1], by have := hc5 h8; omega, by rw [hR7 h8, hR5, hR1, htk.1]⟩
theorem val_bad {T : Nat → Int} (hT : OKT T) {I I1 I3 : MI} (hb : (I1 1000 25).toNatClampNeg = skp T (I 1000 25).toNatClampNeg) (hd : ¬ (48 ≤ T (I1 1000 25).toNatClampNeg ∧ T (I1 1000 25).toNatClampNeg ≤ 57)) (hw : ∀ k, k ≤ 12 → wq T (I1 1000 25).toNatClampNeg (rwd k) = false) (hf3 : (I 1000 26).toInt = 0 → (I3 1000 26).toInt = 1 + 8 * ((I1 1000 25).toNatClampNeg : Int)) (hcc : (I 1000 26).toInt = 0 → (I 1000 31).toInt ≤ 60) (hl : (RC I).length < 400) : EXP T I I3 7 := by
  refine EXP.of (fun hf => ?_)
  have htk := tk_rw2 hT hd hw
  have h3 := hf3 hf
  rw [hb] at htk h3
  exact val_any rfl (fun z => absurd z htk.2) (fun _ _ => h3) (fun z => by omega) (fun z => by omega) (hcc hf) hl
def SLX (T : Nat → Int) (p : Nat) (l : List Int32) (x : Int) (k : Nat) : Prop := (x = 1 ∧ rnl ltr T p = l.length ∧ ∀ i, i < k → T (p + i) = b8 (l.getD i 0)) ∨ (x = 0 ∧ wq T p (l.map b8) = false)
theorem SLX.i1 {T : Nat → Int} {p : Nat} {l : List Int32} {x : Int} (hx : x = 1) (h : rnl ltr T p = l.length) : SLX T p l x 0 := Or.inl ⟨hx, h, fun i hi => absurd hi (Nat.not_lt_zero i)⟩
theorem SLX.i0 {T : Nat → Int} {p : Nat} {l : List Int32} {x : Int} (hx : x = 0) (h : rnl ltr T p ≠ l.length) : SLX T p l x 0 := Or.inr ⟨hx, by
  cases e : wq T p (l.map b8) with
  | false => rfl
  | true =>
    exfalso
    unfold wq at e
    simp only [Bool.and_eq_true, decide_eq_true_eq, List.length_map] at e
    exact h e.1⟩
theorem SLX.ltr {T : Nat → Int} {p k : Nat} {l : List Int32} {x : Int} (h : SLX T p l x k) (hx : x ≠ 0) (hk : k < l.length) : 97 ≤ T (p + k) ∧ T (p + k) ≤ 122 := by
  rcases h with ⟨-, h1, -⟩ | ⟨h1, -⟩
  · exact ltr_i (rnl_all _ p rfl k (by omega))
  · exact absurd h1 hx
theorem SLX.y {T : Nat → Int} {p k k2 : Nat} {l : List Int32} {x x2 : Int} (h : SLX T p l x k) (hx : x ≠ 0) (hx2 : x2 = 1) (e : T (p + k) = b8 (l.getD k 0)) (hk2 : k2 = k + 1) : SLX T p l x2 k2 := by
  rcases h with ⟨-, h1, h2⟩ | ⟨h1, -⟩
  · refine Or.inl ⟨hx2, h1, fun i hi => ?_⟩
    by_cases hq : i = k
    · rw [hq]; exact e
    · exact h2 i (by omega)
  · exact absurd h1 hx
theorem SLX.no {T : Nat → Int} {p k k2 : Nat} {l : List Int32} {x2 : Int} (hx2 : x2 = 0) (hk : k < l.length) (e : T (p + k) ≠ b8 (l.getD k 0)) : SLX T p l x2 k2 := Or.inr ⟨hx2, by
  cases e2 : wq T p (l.map b8) with
  | false => rfl
  | true =>
    exfalso
    unfold wq at e2
    simp only [Bool.and_eq_true] at e2
    exact e (mp_o e2.2 k hk)⟩
theorem SLX.fin {T : Nat → Int} {p k : Nat} {l : List Int32} {r : Int32} (h : SLX T p l r.toInt k) (hk : r.toInt = 0 ∨ l.length ≤ k) : WQX T p (l.map b8) r := by
  rcases h with ⟨h0, h1, h2⟩ | ⟨h0, h1⟩
  · refine Or.inl ⟨h0, ?_⟩
    unfold wq
    rw [mp_i (fun i hi => h2 i (by omega)), Bool.and_true, List.length_map]
    exact decide_eq_true h1
  · exact Or.inr ⟨h0, h1⟩
theorem enc_0 {s n : Int} (h : s = 0) (hn : 0 ≤ n) : enc s n = n := by
  unfold enc
  rw [if_pos h, if_pos hn]
theorem enc_v {s n v : Int} (h : (s = 1 ∧ v = -1 - n ∧ 0 ≤ n ∧ n ≤ 12) ∨ (s = 2 ∧ v = -15) ∨ (s = 3 ∧ v = -16) ∨ (s = 13 ∧ v = -17) ∨ (s = 14 ∧ v = -18) ∨ (s = 4 ∧ v = -19) ∨ (s = 5 ∧ v = -20) ∨ (s = 6 ∧ v = -21) ∨ (s = 7 ∧ v = -22) ∨ (s = 8 ∧ v = -23) ∨ (s = 9 ∧ v = -14) ∨ (s = 10 ∧ v = -24) ∨ (s = 11 ∧ v = -25)) : enc s n = v := by
  unfold enc
  rcases h with ⟨rfl, rfl, h1, h2⟩ | ⟨rfl, rfl⟩ | ⟨rfl, rfl⟩ | ⟨rfl, rfl⟩ | ⟨rfl, rfl⟩ | ⟨rfl, rfl⟩ | ⟨rfl, rfl⟩ | ⟨rfl, rfl⟩ | ⟨rfl, rfl⟩ | ⟨rfl, rfl⟩ | ⟨rfl, rfl⟩ | ⟨rfl, rfl⟩ | ⟨rfl, rfl⟩
  · simp [h1, h2]
  all_goals simp
def KF (I I2 : MI) : Prop := (I 1000 26).toInt ≠ 0 → (I2 1000 26).toInt = (I 1000 26).toInt
def NX6 (T : Nat → Int) (J : MI) : Prop := (J 1000 26).toInt = 0 → T (J 1000 25).toNatClampNeg ≠ 32 ∧ T (J 1000 25).toNatClampNeg ≠ 42 ∧ T (J 1000 25).toNatClampNeg ≠ 47
def NX5 (T : Nat → Int) (J : MI) : Prop := (J 1000 26).toInt = 0 → T (J 1000 25).toNatClampNeg ≠ 32 ∧ T (J 1000 25).toNatClampNeg ≠ 42 ∧ T (J 1000 25).toNatClampNeg ≠ 47 ∧ T (J 1000 25).toNatClampNeg ≠ 43 ∧ T (J 1000 25).toNatClampNeg ≠ 45
def NXB (T : Nat → Int) (J : MI) : Prop := (J 1000 26).toInt = 0 → T (J 1000 25).toNatClampNeg ≠ 32
theorem NX5.na {T : Nat → Int} {J : MI} (h : NX5 T J) (hf : (J 1000 26).toInt = 0) : skp T (J 1000 25).toNatClampNeg = (J 1000 25).toNatClampNeg ∧ NA4 T (skp T (J 1000 25).toNatClampNeg) := by
  have h1 := h hf
  have h2 := skp_n h1.1
  rw [h2]
  exact ⟨rfl, h1.2.1, h1.2.2.2.1, h1.2.2.2.2, h1.2.2.1⟩
theorem opr_w {T : Nat → Int} (hT : OKT T) {I J J1 J2 J3 : MI} {o r k : Int} (h : EXP T I J r) (hf : (J 1000 26).toInt = 0) (hk : (k = 42 ∧ o = -17 ∧ r = 6) ∨ (k = 47 ∧ o = -18 ∧ r = 6) ∨ (k = 43 ∧ o = -15 ∧ r = 5) ∨ (k = 45 ∧ o = -16 ∧ r = 5)) (hc : T (J 1000 25).toNatClampNeg = k) (hj1 : (J1 1000 26).toInt = 0) (hp1 : (J1 1000 25).toNatClampNeg = (J 1000 25).toNatClampNeg + 1) (hc1 : (J1 1000 31).toInt = (J 1000 31).toInt) (hR1 : RC J1 = RC J) (hl : (RC J).length < 400) (hv : EXP T J1 J2 (r + 1)) (h3f : (J3 1000 26).toInt = (J2 1000 26).toInt) (h3 : (J2 1000 26).toInt = 0 → skp T (J3 1000 25).toNatClampNeg = skp T (J2 1000 25).toNatClampNeg ∧ (J3 1000 31).toInt = (J2 1000 31).toInt ∧ RC J3 = RC J2 ++ [o]) : EXP T I J3 r := by
  have hs : skp T (J 1000 25).toNatClampNeg = (J 1000 25).toNatClampNeg := skp_n (by omega)
  have ht := tk_ar2 hT (q := (J 1000 25).toNatClampNeg) (by omega)
  exact opr_step h hf (by rw [hs]; omega) (by rw [hs]; exact ht.2) ((rk_of (by omega)).symm) (by omega) (by omega) hj1 (by rw [hs]; exact hp1) hc1 hR1 hl hv h3f h3
def OPX (I I2 : MI) (k : Int32) : Prop := RK I2 = encs k.toInt :: RK I ∧ ((k.toInt = 9 ∨ k.toInt = 12) → I2 1000 30 = I 1000 30 + 1 ∧ ((I 1000 26).toInt = 0 → ((I 1000 30).toInt = 10 → (I2 1000 26).toInt = 1 + 8 * ((I 1000 25).toNatClampNeg : Int) + 2) ∧ ((I 1000 30).toInt ≠ 10 → (I2 1000 26).toInt = 0))) ∧ ((k.toInt = 10 ∨ k.toInt = 11) → I2 1000 30 = I 1000 30 ∧ (I2 1000 26).toInt = (I 1000 26).toInt)
def ANX (I I2 : MI) (k : Int32) : Prop := (I 1000 26).toInt = 0 → apc (encs k.toInt) (RK I) (I 1000 30) (RC I) = (RK I2, I2 1000 30, RC I2)
theorem ap_step {v : Int} {st st2 : List Int} {d d2 : Int32} {co co2 : List Int} {X : List Int × Int32 × List Int} (h : apc v st d co = X) (hst : st = v :: st2) (hd : (v = -14 ∧ d2 = d - 1) ∨ (v ≠ -14 ∧ d2 = d)) (hc : co2 = co ++ [v]) : apc v st2 d2 co2 = X := by
  rw [hst, apc_y] at h
  rw [hc, ← h]
  rcases hd with ⟨h1, h2⟩ | ⟨h1, h2⟩
  · rw [if_pos h1, h2]
  · rw [if_neg h1, h2]
theorem RK_pushU {I Ix : MI} {k w : Int32} (ha : Ix 1042 = I 1042) (h0 : 0 ≤ (I 1000 32).toInt) (hw : w.toInt = (I 1000 32).toInt + 1) : RK (u2 (u2 Ix 1042 (I 1000 32).toNatClampNeg k) 1000 32 w) = encs k.toInt :: RK I := by
  refine RK_push (fun j => ?_) h0 (by rw [u2_self]; exact hw)
  rw [u2_v, if_neg (by simp), u2_v, ha]
  by_cases hq : j = (I 1000 32).toNatClampNeg
  · rw [if_pos ⟨rfl, hq⟩, if_pos hq]
  · rw [if_neg (by simp [hq]), if_neg hq]
theorem top_v {I : MI} {r k : Int32} (x : TOPX I r) (hk : 9 ≤ k.toInt) : (r = k → 0 < (I 1000 32).toInt ∧ I 1042 ((I 1000 32).toNatClampNeg - 1) = k) ∧ (¬ r = k → ∀ y l, RK I = y :: l → (0 < (I 1000 32).toInt ∧ y = encs (I 1042 ((I 1000 32).toNatClampNeg - 1)).toInt ∧ I 1042 ((I 1000 32).toNatClampNeg - 1) ≠ k)) := by
  unfold TOPX at x
  refine ⟨fun e => ?_, fun e y l h => ?_⟩
  · rcases x with ⟨h1, h2⟩ | ⟨h1, h2⟩
    · rw [← e, h2] at hk
      exact absurd hk (by decide)
    · exact ⟨h1, h2.symm.trans e⟩
  · rcases x with ⟨h1, h2⟩ | ⟨h1, h2⟩
    · rw [RK_nil h1] at h
      cases h
    · refine ⟨h1, ?_, fun z => e (h2.trans z)⟩
      have t1 := tn (i := I 1000 32) (by omega)
      obtain ⟨m, hm⟩ : ∃ m, (I 1000 32).toNatClampNeg = m + 1 := ⟨(I 1000 32).toNatClampNeg - 1, by omega⟩
      unfold RK at h
      rw [hm, skr] at h
      rw [hm]
      exact (List.cons.inj h).1.symm
theorem encs_i {v : Int} : (encs v = -14 ↔ v = 9) ∧ (encs v = -24 ↔ v = 10) ∧ (encs v = -25 ↔ v = 11) ∧ (encs v = -42 ↔ v = 12) := by
  unfold encs
  by_cases h1 : v = 9
  · rw [if_pos h1]; omega
  rw [if_neg h1]
  by_cases h2 : v = 10
  · rw [if_pos h2]; omega
  rw [if_neg h2]
  by_cases h3 : v = 11
  · rw [if_pos h3]; omega
  rw [if_neg h3]
  by_cases h4 : v = 12
  · rw [if_pos h4]; omega
  rw [if_neg h4]
  omega
theorem enc_encs {k n : Int} (h : k = 9 ∨ k = 10 ∨ k = 11) : enc k n = encs k := by
  rcases h with rfl | rfl | rfl <;> simp [enc, encs]
theorem encs_ne {t a : Int32} (ha : a.toInt = 9 ∨ a.toInt = 10 ∨ a.toInt = 11) (h : t ≠ a) : encs t.toInt ≠ encs a.toInt := by
  have h1 : t.toInt ≠ a.toInt := fun e => h (Int32.toInt_inj.mp e)
  have h2 := encs_i (v := t.toInt)
  have h3 := encs_i (v := a.toInt)
  intro e
  rcases ha with ha | ha | ha
  · have := h2.1.mp (e.trans (h3.1.mpr ha))
    omega
  · have := h2.2.1.mp (e.trans (h3.2.1.mpr ha))
    omega
  · have := h2.2.2.1.mp (e.trans (h3.2.2.1.mpr ha))
    omega
theorem ATX.of {T : Nat → Int} {J J2 : MI} {F : RES} {pt : Int} {st : List Int} {dp br : Int32} {c : CLT} (h : ATX T J F pt st dp br c) (hp : skp T (J2 1000 25).toNatClampNeg = skp T (J 1000 25).toNatClampNeg) (hc : (J2 1000 31).toInt = (J 1000 31).toInt) (hR : RC J2 = RC J) : ATX T J2 F pt st dp br c := by
  unfold ATX ATV at h ⊢
  rw [hp, hc, hR]
  exact h
def CPR (T : Nat → Int) (I I3 : MI) (n : Nat) (r : Int32) : Prop := ((I3 1000 26).toInt = 0 → ∀ (F : RES) (c : CLT), (I 1000 26).toInt = 0 → c.1 = n → I 1000 30 = 0 → CLW T I F c → ATX T I3 F 0 [] 0 0 (bgc c r.toInt (RC I).length)) ∧ ((I3 1000 26).toInt ≠ 0 → ∀ J : MI, (J 1000 26).toInt = (I3 1000 26).toInt → CLP T I J n)
theorem clp_pre {T : Nat → Int} (hT : OKT T) {I I2 I3 : MI} {q n : Nat} {r : Int32} (hq : q = skp T (I 1000 25).toNatClampNeg) (hw : wq T q [116, 117, 114, 110] = true) (hn : n < 12) (hp2 : (I2 1000 25).toNatClampNeg = skp T (q + 4)) (hf2 : (I2 1000 26).toInt = (I 1000 26).toInt) (hc2 : (I2 1000 31).toInt = (I 1000 31).toInt) (hR2 : RC I2 = RC I) (hx : DIX T I2 I3 23 r) (hc3 : (I3 1000 31).toInt = (I2 1000 31).toInt) (hR3 : RC I3 = RC I2) (hf : (I 1000 26).toInt = 0) : CPR T I I3 n r := by
  have hs2 : skp T (I2 1000 25).toNatClampNeg = (I2 1000 25).toNatClampNeg := by rw [hp2]; exact skp_i hT _
  have hM : ∀ (F : RES) (c : CLT), c.1 = n → CLW T I F c → CLM T I2 F c := fun F c hc hx => clw_m hq hw hn hc (by rw [hs2, hp2]) hc2 hR2 hx
  rcases hx with ⟨h1, h2, h3⟩ | ⟨h1, h2, h3, h4⟩
  · have h5 := h3 (by omega)
    have ht := tk_nd hT h1
    refine ⟨fun z => by omega, fun _ J hJ F c hfI hc hd hx => ?_⟩
    exact clm_bad (hM F c hc hx) hs2.symm (fun _ => by omega) (fun z => by omega) (Or.inl ht.1)
  · have ht := tk_D h1
    have h5 := h4 (by omega)
    by_cases e : 5 < rnl dg T (I2 1000 25).toNatClampNeg
    · have h6 := h5.1 (Or.inl e)
      rw [if_pos e] at ht
      refine ⟨fun z => by omega, fun _ J hJ F c hfI hc hd hx => ?_⟩
      exact clm_bad (hM F c hc hx) hs2.symm (fun z => by omega) (fun _ => by omega) (Or.inl (by omega))
    · rw [if_neg e] at ht
      have hall := nv_99 (T := T) (p := (I2 1000 25).toNatClampNeg) (k := rnl dg T (I2 1000 25).toNatClampNeg) (rnl_all _ _ rfl) (by omega)
      by_cases e2 : 23 < nv T (I2 1000 25).toNatClampNeg (rnl dg T (I2 1000 25).toNatClampNeg)
      · have h6 := h5.1 (Or.inr e2)
        refine ⟨fun z => by omega, fun _ J hJ F c hfI hc hd hx => ?_⟩
        exact clm_bad (hM F c hc hx) hs2.symm (fun z => by omega) (fun _ => by omega) (Or.inr (by omega))
      · have h6 := h5.2 (by omega)
        refine ⟨fun _ F c hfI hc hd hx => ?_, fun z => absurd h6 z⟩
        have h7 := clm_ok (J := I3) (hM F c hc hx) hs2.symm (by omega) (by rw [h2, ht.2]) hc3 hR3
        rw [hR2, ht.1, ← h3] at h7
        exact h7
-- numbers are not below 0
theorem nv_nn {T : Nat → Int} {p : Nat} : ∀ k, (∀ i, i < k → dg (T (p + i)) = true) → 0 ≤ nv T p k := by
  intro k
  induction k with
  | zero => intro _; exact Int.le_refl 0
  | succ k ih =>
    intro h
    have h1 := ih (fun i hi => h i (by omega))
    by_cases hk : k < 5
    · have h2 := dg_i (h k (by omega))
      rw [nv_s hk]
      omega
    · rw [nv_c (by omega)]
      exact h1
theorem dix_nn {T : Nat → Int} {I I2 : MI} {most : Int} {r : Int32} (h : DIX T I I2 most r) (hd : 48 ≤ T (I 1000 25).toNatClampNeg ∧ T (I 1000 25).toNatClampNeg ≤ 57) : 0 ≤ r.toInt := by
  rcases h with ⟨h1, -⟩ | ⟨-, -, h3, -⟩
  · exact absurd hd h1
  · rw [h3]
    exact nv_nn _ (rnl_all _ _ rfl)
-- laws that were told before stay
def OLD (I J : MI) (s : Nat) : Prop := (∀ j : Nat, j < 300 * s → J 1035 j = I 1035 j ∧ J 1036 j = I 1036 j) ∧ (∀ i : Nat, i < 12 * s → J 1038 i = I 1038 i ∧ J 1039 i = I 1039 i ∧ J 1040 i = I 1040 i ∧ J 1041 i = I 1041 i) ∧ J 1037 = I 1037
theorem OLD.rf {I : MI} {s : Nat} : OLD I I s := ⟨fun _ _ => ⟨rfl, rfl⟩, fun _ _ => ⟨rfl, rfl, rfl, rfl⟩, rfl⟩
theorem OLD.of {I J J2 : MI} {s : Nat} (h : OLD I J s) (h35 : J2 1035 = J 1035) (h36 : J2 1036 = J 1036) (h37 : J2 1037 = J 1037) (h38 : J2 1038 = J 1038) (h39 : J2 1039 = J 1039) (h40 : J2 1040 = J 1040) (h41 : J2 1041 = J 1041) : OLD I J2 s := by
  unfold OLD
  rw [h35, h36, h37, h38, h39, h40, h41]
  exact h
theorem OLD.clause {I J J2 : MI} {s a : Nat} (h : OLD I J s) (hx : CLX J J2 (12 * (J 1000 27).toNatClampNeg + a)) (h38 : ∀ i : Nat, i ≠ 12 * (J 1000 27).toNatClampNeg + a → J2 1038 i = J 1038 i) (h37 : J2 1037 = J 1037) (hs : (J 1000 27).toInt = s) (h29 : 0 ≤ (J 1000 29).toInt) : OLD I J2 s := by
  have t := tn (i := J 1000 27) (by omega)
  refine ⟨fun j hj => ?_, fun i hi => ?_, h37.trans h.2.2⟩
  · have h1 := hx.1 j (by omega)
    rw [h1.1, h1.2]
    exact h.1 j hj
  · have h1 := hx.2 i (by omega)
    rw [h38 i (by omega), h1.1, h1.2.1, h1.2.2]
    exact h.2.1 i hi
-- the tables of a law as the reader gives them
def LTM (J : MI) (s : Nat) (F : RES) : Prop := (J 1037 s).toInt = (F.2.2.1 : Int) ∧ rcl (J 1035) (J 1036) (300 * s) F.2.1.length = F.2.1 ∧ F.2.1.length ≤ 300 ∧ ∀ i, i < F.2.2.1 → (J 1038 (12 * s + i)).toInt = F.2.2.2.1 i ∧ (J 1039 (12 * s + i)).toInt = F.2.2.2.2.1 i ∧ (J 1040 (12 * s + i)).toInt = F.2.2.2.2.2.1 i ∧ (J 1041 (12 * s + i)).toInt = F.2.2.2.2.2.2 i
theorem LTM.mk {J Z : MI} {F : RES} {n s : Nat} (hF : F.2.1 = RC J) (hn : F.2.2.1 = n) (hb : TBJ J F.2.2 n) (h35 : Z 1035 = J 1035) (h36 : Z 1036 = J 1036) (h38 : Z 1038 = J 1038) (h39 : Z 1039 = J 1039) (h40 : Z 1040 = J 1040) (h41 : Z 1041 = J 1041) (h37 : (Z 1037 s).toInt = n) (hs : (J 1000 27).toNatClampNeg = s) (h29 : 0 ≤ (J 1000 29).toInt ∧ (J 1000 29).toInt ≤ 300) : LTM Z s F := by
  have hl : F.2.1.length = (J 1000 29).toNatClampNeg := by
    rw [hF]
    unfold RC
    exact rcl_len _
  have t := tn h29.1
  refine ⟨by rw [h37, hn], ?_, by omega, fun i hi => ?_⟩
  · rw [h35, h36, hl, hF]
    unfold RC
    rw [hs]
  · have h1 := hb i (by omega)
    rw [hs] at h1
    rw [h38, h39, h40, h41]
    exact h1
def LAWM (I I2 : MI) (r : Int32) : Prop := ((I 1000 28).toInt = 6 ∧ r.toInt = -1 ∧ I2 = I) ∨ ((I 1000 28).toInt ≠ 6 ∧ (I2 1000 24).toInt = 0 ∧ (OLD I (u2 I2 1037 (I 1000 28).toNatClampNeg (I 1037 (I 1000 28).toNatClampNeg)) (I 1000 28).toNatClampNeg) ∧ ∀ (F : RES) (f : Nat) (pt : Int) (c : CLT), c.1 = 0 → 0 ≤ F.1 → crun (TM I) f 0 0 pt [] 0 [] 0 0 c = some F → (F.1 ≠ 0 ∧ (∃ z : Int32, r = -2 - z ∧ z.toInt = F.1) ∧ (I2 1000 28).toInt = (I 1000 28).toInt) ∨ (F.1 = 0 ∧ r.toInt = (I 1000 28).toInt ∧ (I2 1000 28).toInt = (I 1000 28).toInt + 1 ∧ LTM I2 (I 1000 28).toNatClampNeg F))
theorem law_run {T : Nat → Int} {S J : MI} {n : Nat} (h : LWI T S J n 0) (hf : (S 1000 26).toInt = 0) (hp : (S 1000 25).toInt = 0) (he : (S 1000 29).toInt = 0) (hd : S 1000 30 = 0) (hc : (S 1000 31).toInt = 0) {F : RES} {f : Nat} {pt : Int} {c : CLT} (hc1 : c.1 = 0) (hr : crun T f 0 0 pt [] 0 [] 0 0 c = some F) : ((J 1000 26).toInt = 0 → F.1 = 0 ∧ F.2.1 = RC J ∧ F.2.2.1 = n ∧ TBJ J F.2.2 n) ∧ ((J 1000 26).toInt ≠ 0 → F.1 = (J 1000 26).toInt) := by
  have hR : RC S = [] := by
    unfold RC
    rw [show (S 1000 29).toNatClampNeg = 0 from cl_of he]
    rfl
  have h1 := h F c hf hc1 hd ⟨f, 0, pt, by rw [show (S 1000 25).toNatClampNeg = 0 from cl_of hp], by rw [hR, hc]; exact hr⟩
  exact ⟨fun e => (h1.1 e).2 rfl, fun e => by rw [h1.2 e]⟩
theorem wi_rwd {k : Nat} (hk : k ≤ 12) {q : String × Nat × String × List Int32} (hq : sq[wi k]? = some q) : q.2.2.2.map b8 = rwd k := by
  rcases (show k = 0 ∨ k = 1 ∨ k = 2 ∨ k = 3 ∨ k = 4 ∨ k = 5 ∨ k = 6 ∨ k = 7 ∨ k = 8 ∨ k = 9 ∨ k = 10 ∨ k = 11 ∨ k = 12 by omega) with rfl | rfl | rfl | rfl | rfl | rfl | rfl | rfl | rfl | rfl | rfl | rfl | rfl
  · have e := Option.some.inj ((show sq[wi 0]? = some ("OneSunbeamModel", 239, "hour", [104, 111, 117, 114]) from rfl).symm.trans hq)
    rw [← e]
    decide
  · have e := Option.some.inj ((show sq[wi 1]? = some ("OneSunbeamModel", 241, "month", [109, 111, 110, 116, 104]) from rfl).symm.trans hq)
    rw [← e]
    decide
  · have e := Option.some.inj ((show sq[wi 2]? = some ("OneSunbeamModel", 243, "day", [100, 97, 121]) from rfl).symm.trans hq)
    rw [← e]
    decide
  · have e := Option.some.inj ((show sq[wi 3]? = some ("OneSunbeamModel", 245, "slant", [115, 108, 97, 110, 116]) from rfl).symm.trans hq)
    rw [← e]
    decide
  · have e := Option.some.inj ((show sq[wi 4]? = some ("OneSunbeamModel", 246, "sun", [115, 117, 110]) from rfl).symm.trans hq)
    rw [← e]
    decide
  · have e := Option.some.inj ((show sq[wi 5]? = some ("OneSunbeamModel", 248, "a", [97]) from rfl).symm.trans hq)
    rw [← e]
    decide
  · have e := Option.some.inj ((show sq[wi 6]? = some ("OneSunbeamModel", 250, "b", [98]) from rfl).symm.trans hq)
    rw [← e]
    decide
  · have e := Option.some.inj ((show sq[wi 7]? = some ("OneSunbeamModel", 252, "c", [99]) from rfl).symm.trans hq)
    rw [← e]
    decide
  · have e := Option.some.inj ((show sq[wi 8]? = some ("OneSunbeamModel", 254, "d", [100]) from rfl).symm.trans hq)
    rw [← e]
    decide
  · have e := Option.some.inj ((show sq[wi 9]? = some ("OneSunbeamModel", 256, "e", [101]) from rfl).symm.trans hq)
    rw [← e]
    decide
  · have e := Option.some.inj ((show sq[wi 10]? = some ("OneSunbeamModel", 258, "f", [102]) from rfl).symm.trans hq)
    rw [← e]
    decide
  · have e := Option.some.inj ((show sq[wi 11]? = some ("OneSunbeamModel", 260, "g", [103]) from rfl).symm.trans hq)
    rw [← e]
    decide
  · have e := Option.some.inj ((show sq[wi 12]? = some ("OneSunbeamModel", 262, "h", [104]) from rfl).symm.trans hq)
    rw [← e]
    decide
def LAWC (I I2 : MI) (r : Int32) : Prop := (6 ≤ (I 0 14).toInt ∧ r.toInt = -1 ∧ I2 = I) ∨ ((I 0 14).toInt < 6 ∧ (I2 0 15).toInt = 0 ∧ OTH (200 + 10 * (I 0 14).toNatClampNeg) I I2 ∧ ∃ (F : RES) (pt : Int) (c : CLT), c.1 = 0 ∧ crun (TXT (I 3) (I 0 15).toInt) 401 0 0 pt [] 0 [] 0 0 c = some F ∧ ((F.1 ≠ 0 ∧ (∃ z : Int32, r = -2 - z ∧ z.toInt = F.1) ∧ (I2 0 14).toInt = (I 0 14).toInt) ∨ (F.1 = 0 ∧ r.toInt = (I 0 14).toInt ∧ (I2 0 14).toInt = (I 0 14).toInt + 1 ∧ COD I2 (200 + 10 * (I 0 14).toNatClampNeg) = F.2.1 ∧ CLS I2 (200 + 10 * (I 0 14).toNatClampNeg) = F.2.2)))
