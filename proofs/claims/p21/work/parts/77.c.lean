def TC (I : MI) : Nat → Int := TXT (I 71) (I 70 3).toInt
theorem TC_of {I I2 : MI} (h : I2 71 = I 71) (h3 : I2 70 3 = I 70 3) : TC I2 = TC I := by
  unfold TC
  rw [h, h3]
theorem TC_ok {I : MI} (hI : INV I) : OKT (TC I) := TXT_ok (hI.get 70 3 (lo := 0) (hi := 400) rfl).2
def skc (f : Nat → Int32) : Nat → List Int
  | 0 => []
  | k + 1 => (f k).toInt :: skc f k
def STK (I : MI) : List Int := skc (I 72) (I 70 2).toNatClampNeg
theorem skc_len {f : Nat → Int32} : ∀ k, (skc f k).length = k := by
  intro k
  induction k with
  | zero => rfl
  | succ k ih => rw [skc, List.length_cons, ih]
theorem skc_ext {f f2 : Nat → Int32} : ∀ {k : Nat}, (∀ i, i < k → f2 i = f i) → skc f2 k = skc f k := by
  intro k
  induction k with
  | zero => intro _; rfl
  | succ k ih =>
    intro h
    rw [skc, skc, h k (by omega), ih (fun i hi => h i (by omega))]
theorem STK_of {I I2 : MI} (h72 : I2 72 = I 72) (h2 : I2 70 2 = I 70 2) : STK I2 = STK I := by
  unfold STK
  rw [h72, h2]
theorem STK_len {I : MI} (h : 0 ≤ (I 70 2).toInt) : ((STK I).length : Int) = (I 70 2).toInt := by
  unfold STK
  rw [skc_len]
  exact tn h
theorem STK_push {I I2 : MI} {a : Int32} (h72 : ∀ j, I2 72 j = if j = (I 70 2).toNatClampNeg then a else I 72 j) (h0 : 0 ≤ (I 70 2).toInt) (h2 : (I2 70 2).toInt = (I 70 2).toInt + 1) : STK I2 = a.toInt :: STK I := by
  have t1 := tn h0
  have t2 := tn (i := I2 70 2) (by omega)
  have hk := h72 (I 70 2).toNatClampNeg
  rw [if_pos rfl] at hk
  unfold STK
  rw [show (I2 70 2).toNatClampNeg = (I 70 2).toNatClampNeg + 1 from by omega, skc, hk, skc_ext (f := I 72) (fun i hi => by rw [h72 i, if_neg (by omega)])]
theorem STK_pop {I I2 : MI} (h72 : I2 72 = I 72) (h0 : 0 < (I 70 2).toInt) (h2 : (I2 70 2).toInt = (I 70 2).toInt - 1) : STK I = (I 72 (I2 70 2).toNatClampNeg).toInt :: STK I2 := by
  have t1 := tn (i := I 70 2) (by omega)
  have t2 := tn (i := I2 70 2) (by omega)
  unfold STK
  rw [h72, show (I 70 2).toNatClampNeg = (I2 70 2).toNatClampNeg + 1 from by omega, skc]
theorem STK_nil {I : MI} (h : (I 70 2).toInt = 0) : STK I = [] := by
  unfold STK
  rw [show (I 70 2).toNatClampNeg = 0 from cl_of h]
  rfl
def cdl (f : Nat → Int32) : Nat → List Int
  | 0 => []
  | k + 1 => cdl f k ++ [(f k).toInt]
def COD (I : MI) (w : Nat) : List Int := cdl (I (w + 1)) (I w 6).toNatClampNeg
theorem cdl_len {f : Nat → Int32} : ∀ k, (cdl f k).length = k := by
  intro k
  induction k with
  | zero => rfl
  | succ k ih => rw [cdl, List.length_append, ih]; rfl
theorem cdl_ext {f f2 : Nat → Int32} : ∀ {k : Nat}, (∀ i, i < k → f2 i = f i) → cdl f2 k = cdl f k := by
  intro k
  induction k with
  | zero => intro _; rfl
  | succ k ih =>
    intro h
    rw [cdl, cdl, h k (by omega), ih (fun i hi => h i (by omega))]
theorem COD_len (I : MI) (w : Nat) : (COD I w).length = (I w 6).toNatClampNeg := cdl_len _
def CLS (I : MI) (w : Nat) : CLT := ((I w 5).toNatClampNeg, fun i => (I (w + 2) i).toInt, fun i => (I (w + 3) i).toInt, fun i => (I (w + 4) i).toInt, fun i => (I (w + 5) i).toInt)
def LQ (w : Nat) (I I2 : MI) : Prop := COD I2 w = COD I w ∧ CLS I2 w = CLS I w
theorem LQ.rf {w : Nat} {I : MI} : LQ w I I := ⟨rfl, rfl⟩
theorem LQ.trans {w : Nat} {I I1 I2 : MI} (h : LQ w I I1) (h2 : LQ w I1 I2) : LQ w I I2 := ⟨h2.1.trans h.1, h2.2.trans h.2⟩
theorem LQ.of {w : Nat} {I I2 : MI} (h : ∀ n, w ≤ n → n < w + 6 → I2 n = I n) : LQ w I I2 := by
  unfold LQ COD CLS
  rw [h w (by omega) (by omega), h (w + 1) (by omega) (by omega), h (w + 2) (by omega) (by omega), h (w + 3) (by omega) (by omega), h (w + 4) (by omega) (by omega), h (w + 5) (by omega) (by omega)]
  exact ⟨rfl, rfl⟩
theorem LQ.put {w n k : Nat} {I : MI} {v : Int32} (hw : w ∈ lB) (hn : n < 200) : LQ w I (u2 I n k v) := LQ.of (fun m h1 h2 => by
  have := lbw hw
  exact u2_ne _ _ _ (by omega))
theorem LQ.kp {w : Nat} {R P : List (Nat × Nat)} {I I2 : MI} (hw : w ∈ lB) (hK : Kp R P I I2) (hR : (R.all (fun r => decide (r.2 ≤ 200) || decide (300 ≤ r.1))) = true) (hP : (P.all (fun q => decide (q.1 < 200) || decide (300 ≤ q.1))) = true) : LQ w I I2 := LQ.of (fun m h1 h2 => funext fun k => by
  have := lbw hw
  exact hK.getW m k hR hP (by omega))
def OTH (w : Nat) (I I2 : MI) : Prop := ∀ n, 200 ≤ n → n < 300 → ¬ (w ≤ n ∧ n < w + 6) → I2 n = I n
theorem OTH.rf {w : Nat} {I : MI} : OTH w I I := fun _ _ _ _ => rfl
theorem OTH.trans {w : Nat} {I I1 I2 : MI} (h : OTH w I I1) (h2 : OTH w I1 I2) : OTH w I I2 := fun n a b c => (h2 n a b c).trans (h n a b c)
theorem OTH.put {w n k : Nat} {I : MI} {v : Int32} (hn : n < 200 ∨ (w ≤ n ∧ n < w + 6)) : OTH w I (u2 I n k v) := fun m a b c => u2_ne _ _ _ (by omega)
theorem OTH.kp {w : Nat} {R P : List (Nat × Nat)} {I I2 : MI} (hK : Kp R P I I2) (hR : (R.all (fun r => decide (r.2 ≤ 200) || decide (300 ≤ r.1))) = true) (hP : (P.all (fun q => decide (q.1 < 200) || decide (300 ≤ q.1))) = true) : OTH w I I2 := fun m a b _ => funext fun k => hK.getW m k hR hP ⟨a, b⟩
theorem COD_add {I I2 : MI} {w : Nat} {a : Int32} (h1 : ∀ j, I2 (w + 1) j = if j = (I w 6).toNatClampNeg then a else I (w + 1) j) (h0 : 0 ≤ (I w 6).toInt) (h6 : (I2 w 6).toInt = (I w 6).toInt + 1) : COD I2 w = COD I w ++ [a.toInt] := by
  have t1 := tn h0
  have t2 := tn (i := I2 w 6) (by omega)
  have hk := h1 (I w 6).toNatClampNeg
  rw [if_pos rfl] at hk
  unfold COD
  rw [show (I2 w 6).toNatClampNeg = (I w 6).toNatClampNeg + 1 from by omega, cdl, hk, cdl_ext (f := I (w + 1)) (fun i hi => by rw [h1 i, if_neg (by omega)])]
theorem COD_of {I I2 : MI} {w : Nat} (h1 : I2 (w + 1) = I (w + 1)) (h6 : I2 w 6 = I w 6) : COD I2 w = COD I w := by
  unfold COD
  rw [h1, h6]
theorem COD_nil {I : MI} {w : Nat} (h : (I w 6).toInt = 0) : COD I w = [] := by
  unfold COD
  rw [show (I w 6).toNatClampNeg = 0 from cl_of h]
  rfl
theorem CLS_of {I I2 : MI} {w : Nat} (h : I2 w 5 = I w 5) (h2 : I2 (w + 2) = I (w + 2)) (h3 : I2 (w + 3) = I (w + 3)) (h4 : I2 (w + 4) = I (w + 4)) (h5 : I2 (w + 5) = I (w + 5)) : CLS I2 w = CLS I w := by
  unfold CLS
  rw [h, h2, h3, h4, h5]
theorem CLS_c {I I2 : MI} {w : Nat} (h : (I2 w 5).toInt = 0) (h2 : I2 (w + 2) = I (w + 2)) (h3 : I2 (w + 3) = I (w + 3)) (h4 : I2 (w + 4) = I (w + 4)) (h5 : I2 (w + 5) = I (w + 5)) : CLS I2 w = (0, (CLS I w).2) := by
  unfold CLS
  rw [show (I2 w 5).toNatClampNeg = 0 from cl_of h, h2, h3, h4, h5]
theorem fu_of {f g : Nat → Int32} {k : Nat} {a : Int32} (h : ∀ i, g i = if i = k then a else f i) : (fun i => (g i).toInt) = fu (fun i => (f i).toInt) k a.toInt := by
  funext i
  rw [h i, fu]
  by_cases e : i = k
  · rw [if_pos e, if_pos e]
  · rw [if_neg e, if_neg e]
theorem CLS_bg {I I2 : MI} {w : Nat} {a b : Int32} (hc : (I w 5).toInt < 12) (h0 : 0 ≤ (I w 5).toInt) (h : I2 w 5 = I w 5) (h2 : ∀ i, I2 (w + 2) i = if i = (I w 5).toNatClampNeg then a else I (w + 2) i) (h3 : ∀ i, I2 (w + 3) i = if i = (I w 5).toNatClampNeg then b else I (w + 3) i) (h4 : I2 (w + 4) = I (w + 4)) (h5 : I2 (w + 5) = I (w + 5)) (hb : b = I w 6) (hb0 : 0 ≤ (I w 6).toInt) : CLS I2 w = bgc (CLS I w) a.toInt (COD I w).length := by
  have t := tn h0
  have t6 := tn hb0
  unfold CLS bgc
  rw [if_pos (show (I w 5).toNatClampNeg < 12 by omega), h, h4, h5, fu_of h2, fu_of h3, COD_len, hb, t6]
theorem CLS_bt {I I2 : MI} {w : Nat} {b : Int32} (hc : (I w 5).toInt < 12) (h0 : 0 ≤ (I w 5).toInt) (h : I2 w 5 = I w 5) (h2 : I2 (w + 2) = I (w + 2)) (h3 : I2 (w + 3) = I (w + 3)) (h4 : ∀ i, I2 (w + 4) i = if i = (I w 5).toNatClampNeg then b else I (w + 4) i) (h5 : I2 (w + 5) = I (w + 5)) (hb : b = I w 6) (hb0 : 0 ≤ (I w 6).toInt) : CLS I2 w = bgt (CLS I w) (COD I w).length := by
  have t := tn h0
  have t6 := tn hb0
  unfold CLS bgt
  rw [if_pos (show (I w 5).toNatClampNeg < 12 by omega), h, h2, h3, h5, fu_of h4, COD_len, hb, t6]
theorem CLS_ed {I I2 : MI} {w : Nat} {b : Int32} (hc : (I w 5).toInt < 12) (h0 : 0 ≤ (I w 5).toInt) (h : (I2 w 5).toInt = (I w 5).toInt + 1) (h2 : I2 (w + 2) = I (w + 2)) (h3 : I2 (w + 3) = I (w + 3)) (h4 : I2 (w + 4) = I (w + 4)) (h5 : ∀ i, I2 (w + 5) i = if i = (I w 5).toNatClampNeg then b else I (w + 5) i) (hb : b = I w 6) (hb0 : 0 ≤ (I w 6).toInt) : CLS I2 w = edc (CLS I w) (COD I w).length := by
  have t := tn h0
  have t2 := tn (i := I2 w 5) (by omega)
  have t6 := tn hb0
  unfold CLS edc
  rw [if_pos (show (I w 5).toNatClampNeg < 12 by omega), show (I2 w 5).toNatClampNeg = (I w 5).toNatClampNeg + 1 from by omega, h2, h3, h4, fu_of h5, COD_len, hb, t6]
theorem adl_n {co : List Int} {t : Int} (h : 400 ≤ co.length) : adl co t = co := if_neg (by omega)
theorem bgc_n {c : CLT} {t : Int} {n : Nat} (h : 12 ≤ c.1) : bgc c t n = c := if_neg (by omega)
theorem bgt_n {c : CLT} {n : Nat} (h : 12 ≤ c.1) : bgt c n = c := if_neg (by omega)
theorem edc_n {c : CLT} {n : Nat} (h : 12 ≤ c.1) : edc c n = c := if_neg (by omega)
-- what comes behind a token
def ARS (K : KON) (w : Nat) (I : MI) (p : Nat) : Option RES := if (I 70 12).toInt ≠ 0 then flt (I 70 12).toInt else if (I 70 7).toInt = 5 then some (0, COD I w, CLS I w) else K p (I 70 7).toInt (I 70 8).toInt (STK I) (I 70 9) (COD I w) (I 70 10) (I 70 11).toInt (CLS I w)
theorem ars_f {K : KON} {w : Nat} {I : MI} {p : Nat} {v : Int} (h : (I 70 12).toInt = v) (hv : v ≠ 0) : flt v = ARS K w I p := by
  unfold ARS
  rw [if_pos (by omega), h]
theorem ars_k {K : KON} {w : Nat} {I : MI} {p : Nat} {aw pt : Int} {st : List Int} {dp : Int32} {co : List Int} {br : Int32} {vc : Int} {c : CLT} (h12 : (I 70 12).toInt = 0) (h7 : (I 70 7).toInt = aw) (h5 : aw ≠ 5) (h8 : (I 70 8).toInt = pt) (hs : STK I = st) (h9 : I 70 9 = dp) (hc : COD I w = co) (h10 : I 70 10 = br) (h11 : (I 70 11).toInt = vc) (hl : CLS I w = c) : K p aw pt st dp co br vc c = ARS K w I p := by
  unfold ARS
  rw [if_neg (by omega), if_neg (by omega), h7, h8, hs, h9, hc, h10, h11, hl]
theorem ars_e {K : KON} {w : Nat} {I : MI} {p : Nat} {co : List Int} {c : CLT} (h12 : (I 70 12).toInt = 0) (h7 : (I 70 7).toInt = 5) (hc : COD I w = co) (hl : CLS I w = c) : some (0, co, c) = ARS K w I p := by
  unfold ARS
  rw [if_neg (by omega), if_pos h7, hc, hl]
theorem ars_of {K : KON} {w : Nat} {I I2 : MI} {p : Nat} (h : ∀ k, k ≠ 4 → I2 70 k = I 70 k) (h72 : I2 72 = I 72) (hl : LQ w I I2) : ARS K w I2 p = ARS K w I p := by
  unfold ARS
  rw [h 12 (by decide), h 7 (by decide), h 8 (by decide), h 9 (by decide), h 10 (by decide), h 11 (by decide), STK_of h72 (h 2 (by decide)), hl.1, hl.2]
def SX (X : KON → Nat → Int → Nat → Int → List Int → Int32 → List Int → Int32 → Int → CLT → Option RES) (w : Nat) (I I2 : MI) : Prop := ∀ (K : KON) (p : Nat), X K (I 70 4).toNatClampNeg (I 70 5).toInt p (I 70 8).toInt (STK I) (I 70 9) (COD I w) (I 70 10) (I 70 11).toInt (CLS I w) = ARS K w I2 p
def cbM2 (K : KON) (q : Nat) (t : Int) (p : Nat) (_ : Int) (st : List Int) (dp : Int32) (co : List Int) (br : Int32) (vc : Int) (c : CLT) : Option RES := cbM K q t p st dp co br vc c
def CNT (I I2 : MI) (r : Int32) : Prop := (r.toInt = 0 ∧ 60 ≤ (I 70 11).toInt ∧ (I2 70 12).toInt = 1 + 8 * ((I 70 4).toNatClampNeg : Int) + 3) ∨ (r.toInt = 1 ∧ (I 70 11).toInt < 60 ∧ (I2 70 11).toInt = (I 70 11).toInt + 1 ∧ (I2 70 12).toInt = (I 70 12).toInt)
def POPX (w : Nat) (I I2 : MI) (r : Int) : Prop := popc r (STK I) (I 70 9) (COD I w) = (STK I2, I2 70 9, COD I2 w) ∧ CLS I2 w = CLS I w
theorem psh_y {st : List Int} {t : Int} (h : st.length < 64) : psh st t = t :: st := if_pos h
theorem psh_n {st : List Int} {t : Int} (h : 64 ≤ st.length) : psh st t = st := if_neg (by omega)
def YDX (c : Int) (r : Int32) : Prop := (c < 105 ∧ r.toInt = 91 - c) ∨ (105 ≤ c ∧ r.toInt = -47)
def RTX (I I2 : MI) : Prop := (I2 70 4).toNatClampNeg = skp (TC I) (I 70 4).toNatClampNeg ∧ (I2 70 5).toInt = tkv (TC I) (skp (TC I) (I 70 4).toNatClampNeg) ∧ (I2 70 6).toNatClampNeg = tkn (TC I) (skp (TC I) (I 70 4).toNatClampNeg)
def TSX (w : Nat) (I I2 : MI) (a b : Int32) : Prop := STK I2 = psh (popc (rk (I 70 5).toInt) (STK I) (I 70 9) (COD I w)).1 (I 70 5).toInt ∧ I2 70 9 = (popc (rk (I 70 5).toInt) (STK I) (I 70 9) (COD I w)).2.1 ∧ COD I2 w = (popc (rk (I 70 5).toInt) (STK I) (I 70 9) (COD I w)).2.2 ∧ CLS I2 w = CLS I w ∧ (I2 70 8).toInt = a.toInt ∧ (I2 70 7).toInt = b.toInt
def CBX (w : Nat) (I I2 : MI) : Prop := STK I2 = (popc 1 (STK I) (I 70 9) (COD I w)).1.tail ∧ I2 70 9 = (popc 1 (STK I) (I 70 9) (COD I w)).2.1 - 1 ∧ COD I2 w = (popc 1 (STK I) (I 70 9) (COD I w)).2.2 ∧ CLS I2 w = CLS I w ∧ (I2 70 8).toInt = 3 ∧ I2 70 10 = I 70 10 - 1
def CEX (w : Nat) (I I2 : MI) : Prop := STK I2 = (popc 1 (STK I) (I 70 9) (COD I w)).1 ∧ I2 70 9 = (popc 1 (STK I) (I 70 9) (COD I w)).2.1 ∧ COD I2 w = (popc 1 (STK I) (I 70 9) (COD I w)).2.2 ∧ CLS I2 w = edc (if (I 70 8).toInt = 0 then bgt (CLS I w) (popc 1 (STK I) (I 70 9) (COD I w)).2.2.length else CLS I w) (popc 1 (STK I) (I 70 9) (COD I w)).2.2.length ∧ (((I 70 5).toInt = -44 ∧ (I2 70 7).toInt = 0) ∨ ((I 70 5).toInt ≠ -44 ∧ (I2 70 7).toInt = 5))
-- strings
theorem mp_i {T : Nat → Int} {p : Nat} {l : List Int32} (h : ∀ i, i < l.length → T (p + i) = b8 (l.getD i 0)) : wqa T p (l.map b8) = true := wqa_i (fun k hk => by
  have hk2 : k < l.length := by simpa using hk
  rw [h k hk2]
  simp [hk2])
theorem mp_o {T : Nat → Int} {p : Nat} {l : List Int32} (h : wqa T p (l.map b8) = true) : ∀ i, i < l.length → T (p + i) = b8 (l.getD i 0) := fun i hi => by
  have := wqa_o h i (by simpa using hi)
  rw [this]
  simp [hi]
theorem wq_t {T : Nat → Int} {q : Nat} {l : List Int} {n m : Int} (hr : n = (rnl ltr T q : Int)) (hm : m = l.length) (h : n = m ∧ wqa T q l = true) : wq T q l = true := by
  unfold wq
  rw [h.2, Bool.and_true]
  exact decide_eq_true (by omega)
theorem wq_f {T : Nat → Int} {q : Nat} {l : List Int} {n m : Int} (hr : n = (rnl ltr T q : Int)) (hm : m = l.length) (h : ¬ (n = m ∧ wqa T q l = true)) : wq T q l = false := by
  cases e : wq T q l with
  | false => rfl
  | true =>
    exfalso
    unfold wq at e
    simp only [Bool.and_eq_true, decide_eq_true_eq] at e
    exact h ⟨by omega, e.2⟩
theorem mb_and : ([97, 110, 100] : List Int32).map b8 = [97, 110, 100] := by decide
theorem mb_day : ([100, 97, 121] : List Int32).map b8 = [100, 97, 121] := by decide
theorem mb_hour : ([104, 111, 117, 114] : List Int32).map b8 = [104, 111, 117, 114] := by decide
theorem mb_if : ([105, 102] : List Int32).map b8 = [105, 102] := by decide
theorem mb_month : ([109, 111, 110, 116, 104] : List Int32).map b8 = [109, 111, 110, 116, 104] := by decide
theorem mb_not : ([110, 111, 116] : List Int32).map b8 = [110, 111, 116] := by decide
theorem mb_or : ([111, 114] : List Int32).map b8 = [111, 114] := by decide
theorem mb_sun : ([115, 117, 110] : List Int32).map b8 = [115, 117, 110] := by decide
theorem mb_slant : ([115, 108, 97, 110, 116] : List Int32).map b8 = [115, 108, 97, 110, 116] := by decide
theorem mb_turn : ([116, 117, 114, 110] : List Int32).map b8 = [116, 117, 114, 110] := by decide
theorem wdv_and {T : Nat → Int} {q : Nat} (h : wq T q [97, 110, 100] = true) : wdv T q = -24 := by
  have h0 := wq_i h
  have h1 := tk_and h
  have h2 := tk_L (T := T) (q := q) (by omega)
  rw [if_neg (by have := h0.1; simp only [List.length_cons, List.length_nil] at this; omega)] at h2
  exact h2.1.symm.trans h1.1
theorem wdv_day {T : Nat → Int} {q : Nat} (h : wq T q [100, 97, 121] = true) : wdv T q = -3 := by
  have h0 := wq_i h
  have h1 := tk_day h
  have h2 := tk_L (T := T) (q := q) (by omega)
  rw [if_neg (by have := h0.1; simp only [List.length_cons, List.length_nil] at this; omega)] at h2
  exact h2.1.symm.trans h1.1
theorem wdv_hour {T : Nat → Int} {q : Nat} (h : wq T q [104, 111, 117, 114] = true) : wdv T q = -1 := by
  have h0 := wq_i h
  have h1 := tk_hour h
  have h2 := tk_L (T := T) (q := q) (by omega)
  rw [if_neg (by have := h0.1; simp only [List.length_cons, List.length_nil] at this; omega)] at h2
  exact h2.1.symm.trans h1.1
theorem wdv_if {T : Nat → Int} {q : Nat} (h : wq T q [105, 102] = true) : wdv T q = -41 := by
  have h0 := wq_i h
  have h1 := tk_if h
  have h2 := tk_L (T := T) (q := q) (by omega)
  rw [if_neg (by have := h0.1; simp only [List.length_cons, List.length_nil] at this; omega)] at h2
  exact h2.1.symm.trans h1.1
theorem wdv_month {T : Nat → Int} {q : Nat} (h : wq T q [109, 111, 110, 116, 104] = true) : wdv T q = -2 := by
  have h0 := wq_i h
  have h1 := tk_month h
  have h2 := tk_L (T := T) (q := q) (by omega)
  rw [if_neg (by have := h0.1; simp only [List.length_cons, List.length_nil] at this; omega)] at h2
  exact h2.1.symm.trans h1.1
theorem wdv_not {T : Nat → Int} {q : Nat} (h : wq T q [110, 111, 116] = true) : wdv T q = -14 := by
  have h0 := wq_i h
  have h1 := tk_not h
  have h2 := tk_L (T := T) (q := q) (by omega)
  rw [if_neg (by have := h0.1; simp only [List.length_cons, List.length_nil] at this; omega)] at h2
  exact h2.1.symm.trans h1.1
theorem wdv_or {T : Nat → Int} {q : Nat} (h : wq T q [111, 114] = true) : wdv T q = -25 := by
  have h0 := wq_i h
  have h1 := tk_or h
  have h2 := tk_L (T := T) (q := q) (by omega)
  rw [if_neg (by have := h0.1; simp only [List.length_cons, List.length_nil] at this; omega)] at h2
  exact h2.1.symm.trans h1.1
theorem wdv_sun {T : Nat → Int} {q : Nat} (h : wq T q [115, 117, 110] = true) : wdv T q = -5 := by
  have h0 := wq_i h
  have h1 := tk_sun h
  have h2 := tk_L (T := T) (q := q) (by omega)
  rw [if_neg (by have := h0.1; simp only [List.length_cons, List.length_nil] at this; omega)] at h2
  exact h2.1.symm.trans h1.1
theorem wdv_slant {T : Nat → Int} {q : Nat} (h : wq T q [115, 108, 97, 110, 116] = true) : wdv T q = -4 := by
  have h0 := wq_i h
  have h1 := tk_slant h
  have h2 := tk_L (T := T) (q := q) (by omega)
  rw [if_neg (by have := h0.1; simp only [List.length_cons, List.length_nil] at this; omega)] at h2
  exact h2.1.symm.trans h1.1
theorem wdv_turn {T : Nat → Int} {q : Nat} (h : wq T q [116, 117, 114, 110] = true) : wdv T q = -40 := by
  have h0 := wq_i h
  have h1 := tk_turn h
  have h2 := tk_L (T := T) (q := q) (by omega)
  rw [if_neg (by have := h0.1; simp only [List.length_cons, List.length_nil] at this; omega)] at h2
  exact h2.1.symm.trans h1.1
theorem wdv_no_a {T : Nat → Int} {q : Nat} (hc : T q = 97) (h0 : wq T q [97, 110, 100] = false) : wdv T q = -47 := by
  rcases wdv_c T q with h | h | h | h | h | h | h | h | h | h | h
  · exact absurd h.1 (by rw [h0]; decide)
  · have := (wq_i h.1).2
    omega
  · have := (wq_i h.1).2
    omega
  · have := (wq_i h.1).2
    omega
  · have := (wq_i h.1).2
    omega
  · have := (wq_i h.1).2
    omega
  · have := (wq_i h.1).2
    omega
  · have := (wq_i h.1).2
    omega
  · have := (wq_i h.1).2
    omega
  · have := (wq_i h.1).2
    omega
  · exact h.1
theorem wdv_no_d {T : Nat → Int} {q : Nat} (hc : T q = 100) (h0 : wq T q [100, 97, 121] = false) : wdv T q = -47 := by
  rcases wdv_c T q with h | h | h | h | h | h | h | h | h | h | h
  · have := (wq_i h.1).2
    omega
  · exact absurd h.1 (by rw [h0]; decide)
  · have := (wq_i h.1).2
    omega
  · have := (wq_i h.1).2
    omega
  · have := (wq_i h.1).2
    omega
  · have := (wq_i h.1).2
    omega
  · have := (wq_i h.1).2
    omega
  · have := (wq_i h.1).2
    omega
  · have := (wq_i h.1).2
    omega
  · have := (wq_i h.1).2
    omega
  · exact h.1
theorem wdv_no_h {T : Nat → Int} {q : Nat} (hc : T q = 104) (h0 : wq T q [104, 111, 117, 114] = false) : wdv T q = -47 := by
  rcases wdv_c T q with h | h | h | h | h | h | h | h | h | h | h
  · have := (wq_i h.1).2
    omega
  · have := (wq_i h.1).2
    omega
  · exact absurd h.1 (by rw [h0]; decide)
  · have := (wq_i h.1).2
    omega
  · have := (wq_i h.1).2
    omega
  · have := (wq_i h.1).2
    omega
  · have := (wq_i h.1).2
    omega
  · have := (wq_i h.1).2
    omega
  · have := (wq_i h.1).2
    omega
  · have := (wq_i h.1).2
    omega
  · exact h.1
theorem wdv_no_i {T : Nat → Int} {q : Nat} (hc : T q = 105) (h0 : wq T q [105, 102] = false) : wdv T q = -47 := by
  rcases wdv_c T q with h | h | h | h | h | h | h | h | h | h | h
  · have := (wq_i h.1).2
    omega
  · have := (wq_i h.1).2
    omega
  · have := (wq_i h.1).2
    omega
  · exact absurd h.1 (by rw [h0]; decide)
  · have := (wq_i h.1).2
    omega
  · have := (wq_i h.1).2
    omega
  · have := (wq_i h.1).2
    omega
  · have := (wq_i h.1).2
    omega
  · have := (wq_i h.1).2
    omega
  · have := (wq_i h.1).2
    omega
  · exact h.1
theorem wdv_no_m {T : Nat → Int} {q : Nat} (hc : T q = 109) (h0 : wq T q [109, 111, 110, 116, 104] = false) : wdv T q = -47 := by
  rcases wdv_c T q with h | h | h | h | h | h | h | h | h | h | h
  · have := (wq_i h.1).2
    omega
  · have := (wq_i h.1).2
    omega
  · have := (wq_i h.1).2
    omega
  · have := (wq_i h.1).2
    omega
  · exact absurd h.1 (by rw [h0]; decide)
  · have := (wq_i h.1).2
    omega
  · have := (wq_i h.1).2
    omega
  · have := (wq_i h.1).2
    omega
  · have := (wq_i h.1).2
    omega
  · have := (wq_i h.1).2
    omega
  · exact h.1
theorem wdv_no_n {T : Nat → Int} {q : Nat} (hc : T q = 110) (h0 : wq T q [110, 111, 116] = false) : wdv T q = -47 := by
  rcases wdv_c T q with h | h | h | h | h | h | h | h | h | h | h
  · have := (wq_i h.1).2
    omega
  · have := (wq_i h.1).2
    omega
  · have := (wq_i h.1).2
    omega
  · have := (wq_i h.1).2
    omega
  · have := (wq_i h.1).2
    omega
  · exact absurd h.1 (by rw [h0]; decide)
  · have := (wq_i h.1).2
    omega
  · have := (wq_i h.1).2
    omega
  · have := (wq_i h.1).2
    omega
  · have := (wq_i h.1).2
    omega
  · exact h.1
theorem wdv_no_o {T : Nat → Int} {q : Nat} (hc : T q = 111) (h0 : wq T q [111, 114] = false) : wdv T q = -47 := by
  rcases wdv_c T q with h | h | h | h | h | h | h | h | h | h | h
  · have := (wq_i h.1).2
    omega
  · have := (wq_i h.1).2
    omega
  · have := (wq_i h.1).2
    omega
  · have := (wq_i h.1).2
    omega
  · have := (wq_i h.1).2
    omega
  · have := (wq_i h.1).2
    omega
  · exact absurd h.1 (by rw [h0]; decide)
  · have := (wq_i h.1).2
    omega
  · have := (wq_i h.1).2
    omega
  · have := (wq_i h.1).2
    omega
  · exact h.1
theorem wdv_no_s {T : Nat → Int} {q : Nat} (hc : T q = 115) (h0 : wq T q [115, 117, 110] = false) (h1 : wq T q [115, 108, 97, 110, 116] = false) : wdv T q = -47 := by
  rcases wdv_c T q with h | h | h | h | h | h | h | h | h | h | h
  · have := (wq_i h.1).2
    omega
  · have := (wq_i h.1).2
    omega
  · have := (wq_i h.1).2
    omega
  · have := (wq_i h.1).2
    omega
  · have := (wq_i h.1).2
    omega
  · have := (wq_i h.1).2
    omega
  · have := (wq_i h.1).2
    omega
  · exact absurd h.1 (by rw [h0]; decide)
  · exact absurd h.1 (by rw [h1]; decide)
  · have := (wq_i h.1).2
    omega
  · exact h.1
theorem wdv_no_t {T : Nat → Int} {q : Nat} (hc : T q ≠ 97 ∧ T q ≠ 100 ∧ T q ≠ 104 ∧ T q ≠ 105 ∧ T q ≠ 109 ∧ T q ≠ 110 ∧ T q ≠ 111 ∧ T q ≠ 115) (h0 : wq T q [116, 117, 114, 110] = false) : wdv T q = -47 := by
  rcases wdv_c T q with h | h | h | h | h | h | h | h | h | h | h
  · have := (wq_i h.1).2
    omega
  · have := (wq_i h.1).2
    omega
  · have := (wq_i h.1).2
    omega
  · have := (wq_i h.1).2
    omega
  · have := (wq_i h.1).2
    omega
  · have := (wq_i h.1).2
    omega
  · have := (wq_i h.1).2
    omega
  · have := (wq_i h.1).2
    omega
  · have := (wq_i h.1).2
    omega
  · exact absurd h.1 (by rw [h0]; decide)
  · exact h.1
theorem sgv_of {T : Nat → Int} {q : Nat} {v : Int} (h : sgs T q v) : v = sgv T q := by
  unfold sgs at h
  rcases h with h | h | h | h | h | h | h | h | h | h | h | h | h
  · unfold sgv
    rw [if_pos h.1, if_pos h.2.1]
    exact h.2.2
  · unfold sgv
    rw [if_pos h.1, if_neg h.2.1]
    exact h.2.2
  · unfold sgv
    rw [if_neg (by omega), if_pos h.1, if_pos h.2.1]
    exact h.2.2
  · unfold sgv
    rw [if_neg (by omega), if_pos h.1, if_neg h.2.1]
    exact h.2.2
  · unfold sgv
    rw [if_neg (by omega), if_neg (by omega), if_pos h.1]
    exact h.2
  · unfold sgv
    rw [if_neg (by omega), if_neg (by omega), if_neg (by omega), if_pos h.1]
    exact h.2
  · unfold sgv
    rw [if_neg (by omega), if_neg (by omega), if_neg (by omega), if_neg (by omega), if_pos h.1]
    exact h.2
  · unfold sgv
    rw [if_neg (by omega), if_neg (by omega), if_neg (by omega), if_neg (by omega), if_neg (by omega), if_pos h.1]
    exact h.2
  · unfold sgv
    rw [if_neg (by omega), if_neg (by omega), if_neg (by omega), if_neg (by omega), if_neg (by omega), if_neg (by omega), if_pos h.1]
    exact h.2
  · unfold sgv
    rw [if_neg (by omega), if_neg (by omega), if_neg (by omega), if_neg (by omega), if_neg (by omega), if_neg (by omega), if_neg (by omega), if_pos h.1]
    exact h.2
  · unfold sgv
    rw [if_neg (by omega), if_neg (by omega), if_neg (by omega), if_neg (by omega), if_neg (by omega), if_neg (by omega), if_neg (by omega), if_neg (by omega), if_pos h.1]
    exact h.2
  · unfold sgv
    rw [if_neg (by omega), if_neg (by omega), if_neg (by omega), if_neg (by omega), if_neg (by omega), if_neg (by omega), if_neg (by omega), if_neg (by omega), if_neg (by omega), if_pos h.1]
    exact h.2
  · unfold sgv
    rw [if_neg (by omega), if_neg (by omega), if_neg (by omega), if_neg (by omega), if_neg (by omega), if_neg (by omega), if_neg (by omega), if_neg (by omega), if_neg (by omega), if_neg (by omega)]
    omega
