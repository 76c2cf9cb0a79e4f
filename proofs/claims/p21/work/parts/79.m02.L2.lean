-- the class's town and its beams (object 10)
def twC (b : Nat) (I : MI) : TN := fun n k => match n with
  | 0 => (match k with | 0 => I b 0 | 1 => I b 1 | _ => I b 4)
  | 1 => I (b + 1) k
  | 2 => I (b + 4) k
  | 3 => I (b + 3) k
  | 4 => I (b + 8) (16 + k)
  | 5 => I (b + 7) (192 + k)
  | 6 => I (b + 7) (72 + k)
  | 7 => I (b + 7) (168 + k)
  | 8 => I (b + 7) (96 + k)
  | _ => I (b + 7) (48 + k)
theorem twC_of {b : Nat} {I I2 : MI} (h : ∀ n, b ≤ n → n < b + 9 → I2 n = I n) : twC b I2 = twC b I := by
  funext n k
  unfold twC
  split
  · split <;> rw [h b (by omega) (by omega)]
  all_goals rw [h _ (by omega) (by omega)]
-- a beam that waits, as the class writes it down
def QE (f l : Int32) (e : BQ) : Prop := e.2.2.2 = l ∧ e.2.2.1.toInt = f.toInt % 8 ∧ e.1.toInt = f.toInt / 8 % 24 + (sX e.2.2.1).toInt ∧ e.2.1.toInt = f.toInt / 8 / 24 + (sY e.2.2.1).toInt
def QC (I : MI) (q : List BQ) : Prop := ∀ (i : Nat) (e : BQ), q[i]? = some e → QE (I 13 (((I 10 11).toNatClampNeg + i) % 60)) (I 14 (((I 10 11).toNatClampNeg + i) % 60)) e
theorem QC.of {I I2 : MI} {q : List BQ} (h : QC I q) (h13 : I2 13 = I 13) (h14 : I2 14 = I 14) (h11 : I2 10 11 = I 10 11) : QC I2 q := by
  unfold QC
  rw [h13, h14, h11]
  exact h
def LSC (I : MI) (S : SN) : Prop := (∀ k, k < 8 → I 11 k = S.got k) ∧ ((I 10 8).toInt = 1 → ∀ c, c < 576 → I 12 c = S.pas c) ∧ (I 10 2 = S.nu 0 ∧ I 10 3 = S.nu 1 ∧ I 10 5 = S.nu 2 ∧ I 10 6 = S.nu 3 ∧ I 10 7 = S.nu 4) ∧ (I 10 12).toInt = (S.q.length : Int) ∧ QC I S.q
theorem LSC.of {I I2 : MI} {S : SN} (h : LSC I S) (h11 : I2 11 = I 11) (h12 : I2 12 = I 12) (h13 : I2 13 = I 13) (h14 : I2 14 = I 14) (h10 : ∀ k, k ≠ 4 → I2 10 k = I 10 k) : LSC I2 S := by
  unfold LSC QC
  rw [h11, h12, h13, h14, h10 8 (by decide), h10 2 (by decide), h10 3 (by decide), h10 5 (by decide), h10 6 (by decide), h10 7 (by decide), h10 12 (by decide), h10 11 (by decide)]
  exact h
theorem LSC.cells {I : MI} {S : SN} (h : LSC I S) (v : Int32) : LSC (u2 I 10 4 v) S := h.of (u2_ne _ _ _ (by decide)) (u2_ne _ _ _ (by decide)) (u2_ne _ _ _ (by decide)) (u2_ne _ _ _ (by decide)) (fun k hk => by rw [u2_v, if_neg (by simp [hk])])
theorem upN_s (f : Nat → Int32) (k : Nat) (v : Int32) : upN f k v k = v := if_pos rfl
theorem upN_n (f : Nat → Int32) {k j : Nat} (v : Int32) (h : j ≠ k) : upN f k v j = f j := if_neg h
-- lost, spilt
theorem LSC.lost {I : MI} {S : SN} (h : LSC I S) (g : Int32) : LSC (u2 I 10 2 (I 10 2 + g)) (S.nA 0 g) := by
  obtain ⟨h1, h2, ⟨h3, h4, h5, h6, h7⟩, h8, h9⟩ := h
  refine ⟨fun k hk => ?_, fun hw c hc => ?_, ⟨?_, ?_, ?_, ?_, ?_⟩, ?_, ?_⟩
  · rw [u2_ne _ _ _ (by decide)]; exact h1 k hk
  · rw [u2_ne _ _ _ (by decide)]; exact h2 (by rw [u2_v, if_neg (by decide)] at hw; exact hw) c hc
  · rw [u2_self, h3]; rfl
  · rw [u2_v, if_neg (by decide)]; exact h4
  · rw [u2_v, if_neg (by decide)]; exact h5
  · rw [u2_v, if_neg (by decide)]; exact h6
  · rw [u2_v, if_neg (by decide)]; exact h7
  · rw [u2_v, if_neg (by decide)]; exact h8
  · exact h9.of (u2_ne _ _ _ (by decide)) (u2_ne _ _ _ (by decide)) (by rw [u2_v, if_neg (by decide)])
theorem LSC.spilt {I : MI} {S : SN} (h : LSC I S) (g : Int32) : LSC (u2 I 10 3 (I 10 3 + g)) (S.nA 1 g) := by
  obtain ⟨h1, h2, ⟨h3, h4, h5, h6, h7⟩, h8, h9⟩ := h
  refine ⟨fun k hk => ?_, fun hw c hc => ?_, ⟨?_, ?_, ?_, ?_, ?_⟩, ?_, ?_⟩
  · rw [u2_ne _ _ _ (by decide)]; exact h1 k hk
  · rw [u2_ne _ _ _ (by decide)]; exact h2 (by rw [u2_v, if_neg (by decide)] at hw; exact hw) c hc
  · rw [u2_v, if_neg (by decide)]; exact h3
  · rw [u2_self, h4]; rfl
  · rw [u2_v, if_neg (by decide)]; exact h5
  · rw [u2_v, if_neg (by decide)]; exact h6
  · rw [u2_v, if_neg (by decide)]; exact h7
  · rw [u2_v, if_neg (by decide)]; exact h8
  · exact h9.of (u2_ne _ _ _ (by decide)) (u2_ne _ _ _ (by decide)) (by rw [u2_v, if_neg (by decide)])
theorem LSC.cut {I : MI} {S : SN} (h : LSC I S) : LSC (u2 I 10 6 1) (S.nU 3 1) := by
  obtain ⟨h1, h2, ⟨h3, h4, h5, h6, h7⟩, h8, h9⟩ := h
  refine ⟨fun k hk => ?_, fun hw c hc => ?_, ⟨?_, ?_, ?_, ?_, ?_⟩, ?_, ?_⟩
  · rw [u2_ne _ _ _ (by decide)]; exact h1 k hk
  · rw [u2_ne _ _ _ (by decide)]; exact h2 (by rw [u2_v, if_neg (by decide)] at hw; exact hw) c hc
  · rw [u2_v, if_neg (by decide)]; exact h3
  · rw [u2_v, if_neg (by decide)]; exact h4
  · rw [u2_v, if_neg (by decide)]; exact h5
  · rw [u2_self]; rfl
  · rw [u2_v, if_neg (by decide)]; exact h7
  · rw [u2_v, if_neg (by decide)]; exact h8
  · exact h9.of (u2_ne _ _ _ (by decide)) (u2_ne _ _ _ (by decide)) (by rw [u2_v, if_neg (by decide)])
theorem LSC.touch {I : MI} {S : SN} (h : LSC I S) (v : Int32) : LSC (u2 I 10 7 (I 10 7 ||| v)) (S.nU 4 (S.nu 4 ||| v)) := by
  obtain ⟨h1, h2, ⟨h3, h4, h5, h6, h7⟩, h8, h9⟩ := h
  refine ⟨fun k hk => ?_, fun hw c hc => ?_, ⟨?_, ?_, ?_, ?_, ?_⟩, ?_, ?_⟩
  · rw [u2_ne _ _ _ (by decide)]; exact h1 k hk
  · rw [u2_ne _ _ _ (by decide)]; exact h2 (by rw [u2_v, if_neg (by decide)] at hw; exact hw) c hc
  · rw [u2_v, if_neg (by decide)]; exact h3
  · rw [u2_v, if_neg (by decide)]; exact h4
  · rw [u2_v, if_neg (by decide)]; exact h5
  · rw [u2_v, if_neg (by decide)]; exact h6
  · rw [u2_self, h7]; rfl
  · rw [u2_v, if_neg (by decide)]; exact h8
  · exact h9.of (u2_ne _ _ _ (by decide)) (u2_ne _ _ _ (by decide)) (by rw [u2_v, if_neg (by decide)])
theorem LSC.gets {I : MI} {S : SN} (h : LSC I S) {k : Nat} (hk : k < 8) (g : Int32) : LSC (u2 I 11 k (I 11 k + g)) (S.gU k (S.got k + g)) := by
  obtain ⟨h1, h2, h3, h8, h9⟩ := h
  refine ⟨fun j hj => ?_, fun hw c hc => ?_, ?_, ?_, ?_⟩
  · rw [u2_v]
    show _ = upN S.1 k (S.got k + g) j
    by_cases hq : j = k
    · subst hq; rw [if_pos ⟨rfl, rfl⟩, upN_s, h1 j hj]
    · rw [if_neg (fun z => hq z.2), upN_n _ _ hq]; exact h1 j hj
  · rw [u2_ne _ _ _ (by decide)]; exact h2 (by rw [u2_ne _ _ _ (by decide)] at hw; exact hw) c hc
  · rw [u2_ne _ _ _ (by decide)]; exact h3
  · rw [u2_ne _ _ _ (by decide)]; exact h8
  · exact h9.of (u2_ne _ _ _ (by decide)) (u2_ne _ _ _ (by decide)) (by rw [u2_ne _ _ _ (by decide)])
-- passing a cell
theorem LSC.pass {I : MI} {S : SN} (h : LSC I S) {c : Nat} (v : Int32) : LSC (u2 I 12 c v) (S.pU c v) := by
  obtain ⟨h1, h2, h3, h8, h9⟩ := h
  refine ⟨fun j hj => ?_, fun hw j hj => ?_, ?_, ?_, ?_⟩
  · rw [u2_ne _ _ _ (by decide)]; exact h1 j hj
  · rw [u2_v]
    show _ = upN S.2.1 c v j
    rw [u2_ne _ _ _ (by decide)] at hw
    by_cases hq : j = c
    · subst hq; rw [if_pos ⟨rfl, rfl⟩, upN_s]
    · rw [if_neg (fun z => hq z.2), upN_n _ _ hq]; exact h2 hw j hj
  · rw [u2_ne _ _ _ (by decide)]; exact h3
  · rw [u2_ne _ _ _ (by decide)]; exact h8
  · exact h9.of (u2_ne _ _ _ (by decide)) (u2_ne _ _ _ (by decide)) (by rw [u2_ne _ _ _ (by decide)])
theorem LSC.blind {I : MI} {S : SN} (h : LSC I S) (hw : (I 10 8).toInt ≠ 1) (c : Nat) (v : Int32) : LSC I (S.pU c v) := ⟨h.1, fun z => absurd z hw, h.2.2⟩
theorem LSC.stay {I : MI} {S : SN} (h : LSC I S) {c : Nat} {v : Int32} (hv : v = S.pas c) : LSC I (S.pU c v) := by
  refine ⟨h.1, fun hw j hj => ?_, h.2.2⟩
  show _ = upN S.2.1 c v j
  by_cases hq : j = c
  · subst hq; rw [upN_s, hv]; exact h.2.1 hw j hj
  · rw [upN_n _ _ hq]; exact h.2.1 hw j hj
def AIX (T : TN) (c : Nat) (s : Int32) (I I2 : MI) : Prop := ∀ S, LSC I S → LSC I2 (airS T c s S)
theorem AIX.n {I : MI} {T : TN} {c : Nat} {s : Int32} (hw : (I 10 8).toInt ≠ 1) : AIX T c s I (u2 I 10 2 (I 10 2 + shr s T.air)) := fun S hS => (hS.lost (shr s T.air)).blind (by rw [u2_v, if_neg (by decide)]; exact hw) _ _
theorem AIX.y {I : MI} {T : TN} {c : Nat} {s : Int32} (hc : c < 576) (hw : (I 10 8).toInt = 1) (h : (I 12 c).toInt < (airL T s).toInt) : AIX T c s I (u2 (u2 I 10 2 (I 10 2 + shr s T.air)) 12 c (airL T s)) := fun S hS => by
  unfold airS
  rw [if_pos (by rw [← hS.2.1 hw c hc]; exact h)]
  exact (hS.lost (shr s T.air)).pass _
theorem AIX.s {I : MI} {T : TN} {c : Nat} {s : Int32} (hc : c < 576) (hw : (I 10 8).toInt = 1) (h : ¬ (I 12 c).toInt < (airL T s).toInt) : AIX T c s I (u2 I 10 2 (I 10 2 + shr s T.air)) := fun S hS => by
  unfold airS
  rw [if_neg (by rw [← hS.2.1 hw c hc]; exact h)]
  exact (hS.lost (shr s T.air)).stay rfl
def YDX2 (k : Nat) (g : Int32) (I I2 : MI) : Prop := ∀ S, LSC I S → LSC I2 (S.gU k (S.got k + g))
-- what waits
def WTX (f g : Int32) (I I2 : MI) : Prop := ∀ S e, LSC I S → QE f g e → LSC I2 (waitS e S)
theorem WTX.full {I : MI} {f g : Int32} (h : 60 ≤ (I 10 12).toInt) : WTX f g I (u2 (u2 I 10 3 (I 10 3 + g)) 10 6 1) := fun S e hS he => by
  unfold waitS
  rw [if_neg (by have := hS.2.2.2.1; omega), he.1]
  exact (hS.spilt g).cut
theorem q_add {I : MI} {q : List BQ} {e : BQ} {f g v w : Int32} {t : Nat} (h : QC I q) (he : QE f g e) (hl : q.length < 60) (ht : t = ((I 10 11).toNatClampNeg + q.length) % 60) : QC (u2 (u2 (u2 (u2 I 13 t f) 14 t g) 10 12 v) 10 5 w) (q ++ [e]) := by
  intro i x hx
  rw [u2_ne _ _ _ (by decide), u2_ne _ _ _ (by decide), u2_ne _ _ _ (by decide), u2_ne (n := 10) (m := 14) _ _ _ (by decide), u2_ne (n := 10) (m := 14) _ _ _ (by decide), u2_v _ 10 5, if_neg (by decide), u2_v _ 10 12, if_neg (by decide), u2_ne (n := 14) (m := 10) _ _ _ (by decide), u2_ne (n := 13) (m := 10) _ _ _ (by decide), u2_v, u2_v, u2_ne (n := 13) (m := 14) _ _ _ (by decide)]
  by_cases hi : i < q.length
  · rw [List.getElem?_append_left hi] at hx
    rw [if_neg (by omega), if_neg (by omega)]
    exact h i x hx
  · have hlen : i < (q ++ [e]).length := (List.getElem?_eq_some_iff.mp hx).1
    simp at hlen
    have hi2 : i = q.length := by omega
    subst hi2
    rw [List.getElem?_append_right (Nat.le_refl _)] at hx
    simp at hx
    subst hx
    rw [if_pos ⟨rfl, ht.symm⟩, if_pos ⟨rfl, ht.symm⟩]
    exact he
theorem WTX.add {I : MI} {f g v w t : Int32} (h : (I 10 12).toInt < 60) (h0 : 0 ≤ (I 10 12).toInt) (hh : 0 ≤ (I 10 11).toInt) (ht : t.toInt = ((I 10 11).toInt + (I 10 12).toInt) % 60) (hv : v = I 10 12 + 1) (hw : w = I 10 5 + 1) : WTX f g I (u2 (u2 (u2 (u2 I 13 t.toNatClampNeg f) 14 t.toNatClampNeg g) 10 12 v) 10 5 w) := fun S e hS he => by
  unfold waitS
  have hl := hS.2.2.2.1
  have tt := tn (i := t) (by omega)
  have th := tn hh
  rw [if_pos (by omega)]
  have hq := q_add (v := v) (w := w) hS.2.2.2.2 he (by omega) (t := t.toNatClampNeg) (by omega)
  obtain ⟨h1, h2, ⟨h3, h4, h5, h6, h7⟩, h8, h9⟩ := hS
  refine ⟨fun k hk => ?_, fun hw c hc => ?_, ⟨?_, ?_, ?_, ?_, ?_⟩, ?_, hq⟩
  · rw [u2_ne _ _ _ (by decide), u2_ne _ _ _ (by decide), u2_ne _ _ _ (by decide), u2_ne _ _ _ (by decide)]; exact h1 k hk
  · rw [u2_ne _ _ _ (by decide), u2_ne _ _ _ (by decide), u2_ne _ _ _ (by decide), u2_ne _ _ _ (by decide)]; exact h2 (by rw [u2_v, if_neg (by decide), u2_v, if_neg (by decide), u2_ne _ _ _ (by decide), u2_ne _ _ _ (by decide)] at hw; exact hw) c hc
  · rw [u2_v, if_neg (by decide), u2_v, if_neg (by decide), u2_ne _ _ _ (by decide), u2_ne _ _ _ (by decide)]; exact h3
  · rw [u2_v, if_neg (by decide), u2_v, if_neg (by decide), u2_ne _ _ _ (by decide), u2_ne _ _ _ (by decide)]; exact h4
  · rw [u2_self, hw, h5]; rfl
  · rw [u2_v, if_neg (by decide), u2_v, if_neg (by decide), u2_ne _ _ _ (by decide), u2_ne _ _ _ (by decide)]; exact h6
  · rw [u2_v, if_neg (by decide), u2_v, if_neg (by decide), u2_ne _ _ _ (by decide), u2_ne _ _ _ (by decide)]; exact h7
  · rw [u2_v, if_neg (by decide), u2_self]
    have k1 : (1 : Int32).toInt = 1 := rfl
    rw [a_add hv (by omega) (by omega), k1, h8]
    show (S.q.length : Int) + 1 = (((S.q ++ [e]).length : Nat) : Int)
    simp
-- a mirror
def MIX (T : TN) (m f s : Int32) (I I2 : MI) : Prop := ∀ S x y w, LSC I S → QE f (mirT T m s) (x + sX w, y + sY w, w, mirT T m s) → LSC I2 (mirS T m x y w s S)
theorem MIX.n {I : MI} {T : TN} {m f s : Int32} (h : (mirT T m s).toInt ≤ 0) : MIX T m f s I (u2 (u2 I 10 7 (I 10 7 ||| (1 <<< (m &&& 31)))) 10 2 (I 10 2 + mirG T m s)) := fun S x y w hS _ => by
  unfold mirS
  rw [if_neg (by omega)]
  have := (hS.touch (1 <<< (m &&& 31))).lost (mirG T m s)
  rw [u2_v, if_neg (by decide)] at this
  exact this
theorem MIX.y {I I2 : MI} {T : TN} {m f s : Int32} (h : 0 < (mirT T m s).toInt) (hw : WTX f (mirT T m s) (u2 (u2 I 10 7 (I 10 7 ||| (1 <<< (m &&& 31)))) 10 2 (I 10 2 + mirG T m s)) I2) : MIX T m f s I I2 := fun S x y w hS he => by
  unfold mirS
  rw [if_pos h]
  have := (hS.touch (1 <<< (m &&& 31))).lost (mirG T m s)
  rw [u2_v, if_neg (by decide)] at this
  exact hw _ _ this he
-- one beam
def nC (I : MI) : Nat := (2000 - (I 10 4).toInt).toNat
def FXA (T : TN) (I J : MI) (x y w s a b c d : Int32) : Prop := ∀ S, LSC I S → ∃ S2, LSC J S2 ∧ beam T (nC J) x y w s S2 = beam T (nC I) a b c d S
def BMX (T : TN) (I J : MI) (a b c d : Int32) : Prop := ∀ S, LSC I S → ∃ S2, LSC J S2 ∧ beam T (nC I) a b c d S = (nC J, S2)
theorem FXA.z {T : TN} {I : MI} {a b c d : Int32} : FXA T I I a b c d a b c d := fun S hS => ⟨S, hS, rfl⟩
theorem FXA.fin {T : TN} {I J : MI} {x y w s a b c d : Int32} (h : FXA T I J x y w s a b c d) (hs : s.toInt ≤ 0) : BMX T I J a b c d := fun S hS => by
  obtain ⟨S2, h1, h2⟩ := h S hS
  exact ⟨S2, h1, by rw [← h2, beam_end hs]⟩
theorem FXA.full {T : TN} {I J : MI} {x y w s a b c d : Int32} (h : FXA T I J x y w s a b c d) (hs : 0 < s.toInt) (hn : 2000 ≤ (J 10 4).toInt) : BMX T I (u2 (u2 J 10 3 (J 10 3 + s)) 10 6 1) a b c d := fun S hS => by
  obtain ⟨S2, h1, h2⟩ := h S hS
  refine ⟨_, (h1.spilt s).cut, ?_⟩
  have e1 : nC J = 0 := by unfold nC; omega
  have e2 : nC (u2 (u2 J 10 3 (J 10 3 + s)) 10 6 1) = 0 := by unfold nC; rw [u2_v, if_neg (by decide), u2_v, if_neg (by decide)]; omega
  rw [← h2, e1, e2, beam_full hs]
theorem FXA.shut {T : TN} {I J : MI} {v x y w s a b c d : Int32} (h : FXA T I J x y w s a b c d) (hs : 0 < s.toInt) (hn : (J 10 4).toInt < 2000) (h0 : 0 ≤ (J 10 4).toInt) (hv : v.toInt = (J 10 4).toInt + 1) (ho : ¬ opn T x y) : BMX T I (u2 (u2 J 10 4 v) 10 3 (J 10 3 + s)) a b c d := fun S hS => by
  obtain ⟨S2, h1, h2⟩ := h S hS
  have := (h1.cells v).spilt s
  rw [u2_v, if_neg (by decide)] at this
  refine ⟨_, this, ?_⟩
  have e1 : nC J = nC (u2 (u2 J 10 4 v) 10 3 (J 10 3 + s)) + 1 := by unfold nC; rw [u2_v, if_neg (by decide), u2_self]; omega
  rw [← h2, e1, beam_shut hs ho]
def STX (T : TN) (x y w s : Int32) (J J2 : MI) : Prop := ∀ S, LSC J S → LSC J2 (stpS T x y w s S)
theorem FXA.step {T : TN} {I J J2 : MI} {x y w s x2 y2 w2 s2 a b c d : Int32} (h : FXA T I J x y w s a b c d) (hs : 0 < s.toInt) (hn : (J 10 4).toInt < 2000) (h0 : 0 ≤ (J 10 4).toInt) (hv : (J2 10 4).toInt = (J 10 4).toInt + 1) (ho : opn T x y) (hS2 : STX T x y w s J J2) (ew : w2 = stpW T x y w) (es : s2 = stpL T x y s) (ex : x2 = x + sX w2) (ey : y2 = y + sY w2) : FXA T I J2 x2 y2 w2 s2 a b c d := fun S hS => by
  obtain ⟨S2, h1, h2⟩ := h S hS
  refine ⟨_, hS2 S2 h1, ?_⟩
  have e1 : nC J = nC J2 + 1 := by unfold nC; omega
  rw [← h2, e1, beam_step hs ho, ex, ey, es, ew]
-- a cell's parts
theorem cellL_n {T : TN} {x y s l : Int32} (hy : (T.yat (clN x y)).toInt = -1) (hl : l = airL T s) : l = cellL T x y s := by unfold cellL yrdL; rw [if_pos hy]; exact hl
theorem cellL_y {T : TN} {x y s l : Int32} (hy : (T.yat (clN x y)).toInt ≠ -1) (hl : l = airL T s - shr (airL T s) (T.tk (T.yat (clN x y)).toNatClampNeg)) : l = cellL T x y s := by unfold cellL yrdL; rw [if_neg hy]; exact hl
def CEl (T : TN) (x y s : Int32) (J J2 : MI) : Prop := ∀ S, LSC J S → LSC J2 (cellS T x y s S)
theorem CEl.n {T : TN} {x y s : Int32} {J J2 : MI} (v : Int32) (h : AIX T (clN x y) s (u2 J 10 4 v) J2) (hy : (T.yat (clN x y)).toInt = -1) : CEl T x y s J J2 := fun S hS => by
  unfold cellS yrdS
  rw [if_pos hy]
  exact h S (hS.cells v)
theorem CEl.y {T : TN} {x y s : Int32} {J J1 J2 : MI} (v : Int32) (h : AIX T (clN x y) s (u2 J 10 4 v) J1) (hy : (T.yat (clN x y)).toInt ≠ -1) (h2 : YDX2 (T.yat (clN x y)).toNatClampNeg (shr (airL T s) (T.tk (T.yat (clN x y)).toNatClampNeg)) J1 J2) : CEl T x y s J J2 := fun S hS => by
  unfold cellS yrdS
  rw [if_neg hy]
  exact h2 _ (h S (hS.cells v))
theorem STX.n {T : TN} {x y w s : Int32} {J J2 : MI} (h : CEl T x y s J J2) (hm : ¬ isM T (clN x y)) : STX T x y w s J J2 := fun S hS => by
  unfold stpS
  rw [if_neg hm]
  exact h S hS
theorem qe_of {x y w f l : Int32} (hx : 0 ≤ x.toInt ∧ x.toInt < 24) (hy : 0 ≤ y.toInt ∧ y.toInt < 24) (hw : 0 ≤ w.toInt ∧ w.toInt < 8) (hf : f.toInt = (24 * y.toInt + x.toInt) * 8 + w.toInt) : QE f l (x + sX w, y + sY w, w, l) := by
  have r1 : -1 ≤ (sX w).toInt ∧ (sX w).toInt ≤ 1 := stX_r rfl
  have r2 : -1 ≤ (sY w).toInt ∧ (sY w).toInt ≤ 1 := stY_r rfl
  refine ⟨rfl, by show w.toInt = _; omega, ?_, ?_⟩
  · show (x + sX w).toInt = _ + (sX w).toInt
    rw [a_add rfl (by omega) (by omega)]
    omega
  · show (y + sY w).toInt = _ + (sY w).toInt
    rw [a_add rfl (by omega) (by omega)]
    omega
theorem STX.y {T : TN} {x y w s f : Int32} {J J1 J2 : MI} (h : CEl T x y s J J1) (hm : isM T (clN x y)) (h2 : MIX T (T.mat (clN x y)) f (cellL T x y s) J1 J2) (hx : 0 ≤ x.toInt ∧ x.toInt < 24) (hy : 0 ≤ y.toInt ∧ y.toInt < 24) (hw : 0 ≤ w.toInt ∧ w.toInt < 8) (hf : f.toInt = (24 * y.toInt + x.toInt) * 8 + w.toInt) : STX T x y w s J J2 := fun S hS => by
  unfold stpS
  rw [if_pos hm]
  exact h2 _ x y w (h S hS) (qe_of hx hy hw hf)
-- all beams
def SHX (T : TN) (J : MI) (f : Nat) (x y w s : Int32) : Prop := ∃ S2, LSC J S2 ∧ drain T f (nC J, S2) = shineP T x y w s ∧ S2.q.length + nC J ≤ f
def SHF (T : TN) (J : MI) (x y w s : Int32) : Prop := ∃ S2, LSC J S2 ∧ shineP T x y w s = (nC J, S2)
theorem SHX.z {T : TN} {I0 J : MI} {x y w s : Int32} (h0 : LSC I0 SZ) (hn : nC I0 = 2000) (h : BMX T I0 J x y w s) : SHX T J 2000 x y w s := by
  obtain ⟨S2, h1, h2⟩ := h SZ h0
  rw [hn] at h2
  refine ⟨S2, h1, by unfold shineP; rw [h2], ?_⟩
  have := (beam_q T 2000 x y w s SZ).2.1
  rw [h2] at this
  exact this
theorem SHX.fin {T : TN} {J : MI} {f : Nat} {x y w s : Int32} (h : SHX T J f x y w s) (hc : (J 10 12).toInt ≤ 0 ∨ f = 0) : SHF T J x y w s := by
  obtain ⟨S2, h1, h2, h3⟩ := h
  have hl := h1.2.2.2.1
  have hq : S2.q = [] := List.length_eq_zero_iff.mp (by omega)
  exact ⟨S2, h1, by rw [← h2, drain_nil (p := (nC J, S2)) hq]⟩
-- the next one that waits
theorem SHX.next {T : TN} {J J1 J2 : MI} {f : Nat} {x y w s x2 y2 w2 s2 h1v c1v : Int32} (h : SHX T J (f + 1) x y w s) (hc : 0 < (J 10 12).toInt) (hh : 0 ≤ (J 10 11).toInt ∧ (J 10 11).toInt < 60) (e1 : J1 = u2 (u2 J 10 11 h1v) 10 12 c1v) (eh : h1v.toInt = ((J 10 11).toInt + 1) % 60) (ec : c1v.toInt = (J 10 12).toInt - 1) (hs : s2 = J 14 (J 10 11).toNatClampNeg) (hw : w2.toInt = (J 13 (J 10 11).toNatClampNeg).toInt % 8) (hx : x2.toInt = (J 13 (J 10 11).toNatClampNeg).toInt / 8 % 24 + (sX w2).toInt) (hy : y2.toInt = (J 13 (J 10 11).toNatClampNeg).toInt / 8 / 24 + (sY w2).toInt) (hb : BMX T J1 J2 x2 y2 w2 s2) : SHX T J2 f x y w s := by
  obtain ⟨S, g1, g2, g3⟩ := h
  have hl := g1.2.2.2.1
  cases hq : S.q with
  | nil => rw [hq] at hl; simp at hl; omega
  | cons e q =>
    have th := tn hh.1
    have t1 := tn (i := h1v) (by omega)
    have he := g1.2.2.2.2 0 e (by rw [hq]; rfl)
    rw [show ((J 10 11).toNatClampNeg + 0) % 60 = (J 10 11).toNatClampNeg from by omega] at he
    obtain ⟨k1, k2, k3, k4⟩ := he
    have w_e : e.2.2.1 = w2 := Int32.toInt_inj.mp (by omega)
    have x_e : e.1 = x2 := Int32.toInt_inj.mp (by rw [k3, hx, w_e])
    have y_e : e.2.1 = y2 := Int32.toInt_inj.mp (by rw [k4, hy, w_e])
    have s_e : e.2.2.2 = s2 := by rw [k1, hs]
    have hS1 : LSC J1 (S.qU q) := by
      obtain ⟨a1, a2, ⟨a3, a4, a5, a6, a7⟩, a8, a9⟩ := g1
      rw [e1]
      refine ⟨fun k hk => ?_, fun hw c hc => ?_, ⟨?_, ?_, ?_, ?_, ?_⟩, ?_, fun i e' hq' => ?_⟩
      · rw [u2_ne _ _ _ (by decide), u2_ne _ _ _ (by decide)]; exact a1 k hk
      · rw [u2_ne _ _ _ (by decide), u2_ne _ _ _ (by decide)]; exact a2 (by rw [u2_v, if_neg (by decide), u2_v, if_neg (by decide)] at hw; exact hw) c hc
      · rw [u2_v, if_neg (by decide), u2_v, if_neg (by decide)]; exact a3
      · rw [u2_v, if_neg (by decide), u2_v, if_neg (by decide)]; exact a4
      · rw [u2_v, if_neg (by decide), u2_v, if_neg (by decide)]; exact a5
      · rw [u2_v, if_neg (by decide), u2_v, if_neg (by decide)]; exact a6
      · rw [u2_v, if_neg (by decide), u2_v, if_neg (by decide)]; exact a7
      · rw [u2_self, ec, hl, hq]
        show _ = (q.length : Int)
        simp
      · rw [u2_v _ 10 12 10 11, if_neg (by decide), u2_self, u2_ne (n := 10) (m := 13) _ _ _ (by decide), u2_ne (n := 10) (m := 13) _ _ _ (by decide), u2_ne (n := 10) (m := 14) _ _ _ (by decide), u2_ne (n := 10) (m := 14) _ _ _ (by decide)]
        have := a9 (i + 1) e' (by rw [hq]; exact hq')
        rw [show (h1v.toNatClampNeg + i) % 60 = ((J 10 11).toNatClampNeg + (i + 1)) % 60 from by omega]
        exact this
    obtain ⟨S2, b1, b2⟩ := hb _ hS1
    have hn : nC J1 = nC J := by unfold nC; rw [e1, u2_v, if_neg (by decide), u2_v, if_neg (by decide)]
    refine ⟨S2, b1, ?_, ?_⟩
    · rw [← g2, drain_cons (p := (nC J, S)) hq, ← b2, hn, x_e, y_e, w_e, s_e]
    · have hq2 := (beam_q T (nC J1) x2 y2 w2 s2 (S.qU q)).2.1
      rw [b2, hn] at hq2
      have hq3 : S2.q.length + nC J2 ≤ q.length + nC J := hq2
      rw [hq] at g3
      simp only [List.length_cons] at g3
      omega
