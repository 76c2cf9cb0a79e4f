-- a town's light as a function of its table; a day
noncomputable def twV (V : VW) : TN := fun n k => match n with
  | 0 => (match k with | 0 => V 1 1 | 1 => V 1 2 | _ => V 1 4)
  | 1 => V 2 k
  | 2 => Int32.ofInt (yo V k (V 1 9).toNatClampNeg)
  | 3 => V 6 k
  | 4 => V 21 k
  | 5 => V 15 k
  | 6 => V 10 k
  | 7 => V 14 k
  | 8 => V 11 k
  | _ => V 9 k
theorem twM_V (J : MI) : twM J = twV (live J) := by
  funext n k
  match n with
  | 0 => (match k with
    | 0 => rfl
    | 1 => rfl
    | _ + 2 => rfl)
  | 1 => rfl
  | 2 => rfl
  | 3 => rfl
  | 4 => rfl
  | 5 => rfl
  | 6 => rfl
  | 7 => rfl
  | 8 => rfl
  | _ + 9 => rfl
def gpX (V : VW) : Int32 := Int32.ofInt ((V 1 3).toInt % 24)
def gpY (V : VW) : Int32 := Int32.ofInt ((V 1 3).toInt / 24)
noncomputable def shV (V : VW) (h : Int32) : Nat × SN := shineP (twV V) (gpX V) (gpY V) (wyV V h) (V 5 (sunI V h))
theorem LTe.ok {T U : TN} (h : LTe T U) : TNok U := by
  refine ⟨?_, fun c hc => ?_, fun c hc => ?_⟩
  · rw [h.c, h.r]; exact h.1.1
  · rw [h.yat hc]; exact h.1.2.1 c hc
  · rw [h.mat hc]; exact h.1.2.2 c hc
theorem LTe.sy {T U : TN} (h : LTe T U) : LTe U T := ⟨h.ok, fun n k a b => (h.2 n k a b).symm⟩
theorem LTe.tr {T U X : TN} (h : LTe T U) (h2 : LTe U X) : LTe T X := ⟨h.1, fun n k a b => (h2.2 n k a b).trans (h.2 n k a b)⟩
theorem twV_eq {V W : VW} (e : EqV V W) (h9 : (V 1 9).toNatClampNeg ≤ 8) (hok : TNok (twV V)) : LTe (twV V) (twV W) := by
  refine ⟨hok, fun n k hn hk => ?_⟩
  have e1 : ∀ k, k < 10 → W 1 k = V 1 k := fun k hk => e 1 k (by decide) (by decide) hk
  rcases (show n = 0 ∨ n = 1 ∨ n = 2 ∨ n = 3 ∨ n = 4 ∨ n = 5 ∨ n = 6 ∨ n = 7 ∨ n = 8 ∨ n = 9 by omega) with rfl | rfl | rfl | rfl | rfl | rfl | rfl | rfl | rfl | rfl
  · have hk3 : k < 3 := hk
    rcases (show k = 0 ∨ k = 1 ∨ k = 2 by omega) with rfl | rfl | rfl
    · exact e1 1 (by decide)
    · exact e1 2 (by decide)
    · exact e1 4 (by decide)
  · exact e 2 k (by decide) (by decide) hk
  · show Int32.ofInt (yo W k (W 1 9).toNatClampNeg) = Int32.ofInt (yo V k (V 1 9).toNatClampNeg)
    rw [e1 9 (by decide), yo_eq e h9]
  · exact e 6 k (by decide) (by decide) hk
  · exact e 21 k (by decide) (by decide) hk
  · exact e 15 k (by decide) (by decide) hk
  · exact e 10 k (by decide) (by decide) hk
  · exact e 14 k (by decide) (by decide) hk
  · exact e 11 k (by decide) (by decide) hk
  · exact e 9 k (by decide) (by decide) hk
-- the class's town against its table
def YLY (b : Nat) (I : MI) : Prop := ∀ c, c < 576 → (I (b + 4) c).toInt = yo (cF b I) c (I b 9).toNatClampNeg
theorem twC_V {b : Nat} {I : MI} (hy : YLY b I) (hok : TNok (twC b I)) : LTe (twC b I) (twV (cF b I)) := by
  refine ⟨hok, fun n k hn hk => ?_⟩
  have em : ∀ n, 2 ≤ n → cF b I n k = I (b + nc n) (ofs n + k) := fun n a => by
    unfold cF
    rw [if_neg (by omega)]
  rcases (show n = 0 ∨ n = 1 ∨ n = 2 ∨ n = 3 ∨ n = 4 ∨ n = 5 ∨ n = 6 ∨ n = 7 ∨ n = 8 ∨ n = 9 by omega) with rfl | rfl | rfl | rfl | rfl | rfl | rfl | rfl | rfl | rfl
  · have hk3 : k < 3 := hk
    rcases (show k = 0 ∨ k = 1 ∨ k = 2 by omega) with rfl | rfl | rfl <;> rfl
  · have := em 2 (by decide)
    rw [show ofs 2 + k = k from Nat.zero_add k] at this
    exact this
  · show Int32.ofInt (yo (cF b I) k (cF b I 1 9).toNatClampNeg) = I (b + 4) k
    rw [sc9, ← hy k hk, Int32.ofInt_toInt]
  · have := em 6 (by decide)
    rw [show ofs 6 + k = k from Nat.zero_add k] at this
    exact this
  all_goals rfl
theorem gp_C {b : Nat} {I : MI} (h2 : 0 ≤ (I b 2).toInt ∧ (I b 2).toInt ≤ 23) (h3 : 0 ≤ (I b 3).toInt ∧ (I b 3).toInt ≤ 23) : gpX (cF b I) = I b 2 ∧ gpY (cF b I) = I b 3 := by
  have e1 := a_mulL (x := 24) (y := I b 3) (c := 24) (v := 24 * I b 3) rfl (by decide) (by omega) (by omega)
  have e2 := a_add (x := 24 * I b 3) (y := I b 2) (v := 24 * I b 3 + I b 2) rfl (by omega) (by omega)
  have e3 : (cF b I 1 3).toInt = 24 * (I b 3).toInt + (I b 2).toInt := by
    show (24 * I b 3 + I b 2).toInt = _
    omega
  unfold gpX gpY
  constructor
  · rw [e3, show (24 * (I b 3).toInt + (I b 2).toInt) % 24 = (I b 2).toInt by omega, Int32.ofInt_toInt]
  · rw [e3, show (24 * (I b 3).toInt + (I b 2).toInt) / 24 = (I b 3).toInt by omega, Int32.ofInt_toInt]
theorem shV_C {b : Nat} {I : MI} {h : Int32} (hy : YLY b I) (hok : TNok (twC b I)) (h2 : 0 ≤ (I b 2).toInt ∧ (I b 2).toInt ≤ 23) (h3 : 0 ≤ (I b 3).toInt ∧ (I b 3).toInt ≤ 23) : shineP (twC b I) (I b 2) (I b 3) (I (b + 5) (I b 5 * 24 + h).toNatClampNeg) (I (b + 6) (I b 5 * 24 + h).toNatClampNeg) = shV (cF b I) h := by
  have hg := gp_C (b := b) (I := I) h2 h3
  unfold shV
  rw [(twC_V hy hok).shine, hg.1, hg.2]
  unfold wyV sunI
  rw [cf4, cf5, sc5]
-- what may be counted on while days go by
def OKW (V : VW) : Prop := (0 ≤ (V 1 5).toInt ∧ (V 1 5).toInt ≤ 11) ∧ (0 ≤ (V 1 8).toInt ∧ (V 1 8).toInt ≤ 24) ∧ (0 ≤ (V 1 9).toInt ∧ (V 1 9).toInt ≤ 8) ∧ TNok (twV V)
theorem OKW.n8 {V : VW} (h : OKW V) : (V 1 8).toNatClampNeg ≤ 24 := by
  have := tn h.2.1.1
  have := h.2.1.2
  omega
theorem OKW.n9 {V : VW} (h : OKW V) : (V 1 9).toNatClampNeg ≤ 8 := by
  have := tn h.2.2.1.1
  have := h.2.2.1.2
  omega
theorem OKW.eq {V W : VW} (h : OKW V) (e : EqV V W) : OKW W := by
  have e1 : ∀ k, k < 10 → W 1 k = V 1 k := fun k hk => e 1 k (by decide) (by decide) hk
  refine ⟨by rw [e1 5 (by decide)]; exact h.1, by rw [e1 8 (by decide)]; exact h.2.1, by rw [e1 9 (by decide)]; exact h.2.2.1, (twV_eq e h.n9 h.2.2.2).ok⟩
theorem TNok.of {V W : VW} (h : TNok (twV V)) (a1 : W 1 1 = V 1 1) (a2 : W 1 2 = V 1 2) (a9 : W 1 9 = V 1 9) (e6 : W 6 = V 6) (ey : W 17 = V 17 ∧ W 18 = V 18 ∧ W 19 = V 19 ∧ W 20 = V 20) : TNok (twV W) := by
  obtain ⟨g1, g2, g3⟩ := h
  have hy : ∀ c, (twV W).yat c = (twV V).yat c := fun c => by
    show Int32.ofInt (yo W c (W 1 9).toNatClampNeg) = Int32.ofInt (yo V c (V 1 9).toNatClampNeg)
    rw [a9, yo_congr (F := V) (fun k _ => ⟨congrFun ey.1 k, congrFun ey.2.1 k, congrFun ey.2.2.1 k, congrFun ey.2.2.2 k⟩)]
  refine ⟨?_, fun c hc => by rw [hy c]; exact g2 c hc, fun c hc => ?_⟩
  · show (W 1 1).toInt ≤ 24 ∧ (W 1 2).toInt ≤ 24
    rw [a1, a2]
    exact g1
  · show -1 ≤ (W 6 c).toInt ∧ (W 6 c).toInt < 24
    rw [e6]
    exact g3 c hc
theorem OKW.of {V W : VW} (h : OKW V) (e1 : W 1 1 = V 1 1 ∧ W 1 2 = V 1 2 ∧ W 1 5 = V 1 5 ∧ W 1 8 = V 1 8 ∧ W 1 9 = V 1 9) (e6 : W 6 = V 6) (ey : W 17 = V 17 ∧ W 18 = V 18 ∧ W 19 = V 19 ∧ W 20 = V 20) : OKW W := by
  obtain ⟨a1, a2, a5, a8, a9⟩ := e1
  exact ⟨by rw [a5]; exact h.1, by rw [a8]; exact h.2.1, by rw [a9]; exact h.2.2.1, h.2.2.2.of a1 a2 a9 e6 ey⟩
theorem OKW.tA {V : VW} {h : Int32} {g : Nat → Int32} {L : LWt} {n : Nat} (hV : OKW V) : OKW (trA V h g L n) := hV.of ⟨trA_ne (by decide), trA_ne (by decide), trA_ne (by decide), trA_ne (by decide), trA_ne (by decide)⟩ (funext fun _ => trA_ne (by decide)) ⟨funext fun _ => trA_ne (by decide), funext fun _ => trA_ne (by decide), funext fun _ => trA_ne (by decide), funext fun _ => trA_ne (by decide)⟩
theorem shV_eq {V W : VW} {h : Int32} (hV : OKW V) (e : EqV V W) (hh : 0 ≤ h.toInt ∧ h.toInt < 24) : shV W h = shV V h := by
  have e3 : W 1 3 = V 1 3 := e 1 3 (by decide) (by decide) (by decide)
  have hs := wyV_eq e hV.1 hh
  unfold shV gpX gpY
  rw [(twV_eq e hV.n9 hV.2.2.2).shine, e3, hs.2.1, hs.2.2]
-- who has no cell gets nothing
theorem stpS_g {T : TN} {k : Nat} (hok : TNok T) (hk : ∀ c, c < 576 → (T.yat c).toInt = -1 ∨ (T.yat c).toNatClampNeg ≠ k) {x y w s : Int32} {S : SN} (hi : inT T x y) : (stpS T x y w s S).got k = S.got k := by
  have hc := hok.cl hi
  have h1 : (cellS T x y s S).got k = S.got k := by
    unfold cellS yrdS
    by_cases hq : (T.yat (clN x y)).toInt = -1
    · rw [if_pos hq]; rfl
    · rw [if_neg hq]
      exact upN_n _ _ (fun z => ((hk _ hc).resolve_left hq) z.symm)
  have hw : ∀ (e : BQ) (S : SN), (waitS e S).got k = S.got k := fun e S => by
    unfold waitS
    split <;> rfl
  unfold stpS
  split
  · unfold mirS
    split
    · rw [hw]; exact h1
    · exact h1
  · exact h1
theorem beam_g {T : TN} {k : Nat} (hok : TNok T) (hk : ∀ c, c < 576 → (T.yat c).toInt = -1 ∨ (T.yat c).toNatClampNeg ≠ k) (n : Nat) : ∀ (x y w s : Int32) (S : SN), (beam T n x y w s S).2.got k = S.got k := by
  induction n with
  | zero =>
    intro x y w s S
    by_cases h : 0 < s.toInt
    · rw [beam_full h]; rfl
    · rw [beam_end (by omega)]
  | succ n ih =>
    intro x y w s S
    by_cases h : 0 < s.toInt
    · by_cases ho : opn T x y
      · rw [beam_step h ho, ih, stpS_g hok hk ho.1]
      · rw [beam_shut h ho]; rfl
    · rw [beam_end (by omega)]
theorem drain_g {T : TN} {k : Nat} (hok : TNok T) (hk : ∀ c, c < 576 → (T.yat c).toInt = -1 ∨ (T.yat c).toNatClampNeg ≠ k) (f : Nat) : ∀ p : Nat × SN, (drain T f p).2.got k = p.2.got k := by
  induction f with
  | zero => intro p; rfl
  | succ f ih =>
    intro p
    cases hq : p.2.q with
    | nil => rw [drain_nil hq]
    | cons e q => rw [drain_cons hq, ih, beam_g hok hk]; rfl
theorem yo_lt {F : Nat → Nat → Int32} {c : Nat} : ∀ n : Nat, -1 ≤ yo F c n ∧ yo F c n < n := by
  intro n
  induction n with
  | zero => exact ⟨by show (-1 : Int) ≤ -1; decide, by show (-1 : Int) < ((0 : Nat) : Int); decide⟩
  | succ n ih =>
    by_cases h0 : yo F c n = -1
    · by_cases h1 : yin F n c
      · rw [yo_hit h0 h1]; omega
      · rw [yo_miss h0 h1]; omega
    · rw [yo_stay h0 (n + 1) (by omega)]
      omega
theorem shV_g {V : VW} {h : Int32} (hV : OKW V) {k : Nat} (hk : (V 1 9).toNatClampNeg ≤ k) : (shV V h).2.got k = 0 := by
  have h9 := hV.n9
  have hyk : ∀ c, c < 576 → ((twV V).yat c).toInt = -1 ∨ ((twV V).yat c).toNatClampNeg ≠ k := fun c _ => by
    have hy := yo_lt (F := V) (c := c) (V 1 9).toNatClampNeg
    have e : ((twV V).yat c).toInt = yo V c (V 1 9).toNatClampNeg := i32 (by omega) rfl
    by_cases hq : ((twV V).yat c).toInt = -1
    · exact Or.inl hq
    · right
      have := tn (i := (twV V).yat c) (by omega)
      omega
  unfold shV shineP
  rw [drain_g hV.2.2.2 hyk, beam_g hV.2.2.2 hyk]
  rfl
-- an hour, a day, days
def hrI (n : Nat) : Int32 := Int32.ofInt (n : Int)
theorem hrI_t {n : Nat} (h : n < 24) : (hrI n).toInt = n := i32 (by omega) rfl
theorem hrI_of {x : Int32} (h : 0 ≤ x.toInt) : hrI x.toNatClampNeg = x := by
  unfold hrI
  rw [tn h, Int32.ofInt_toInt]
def DS : Type := VW × (Nat → Int32)
noncomputable def adG (V : VW) (h : Int32) (g : Nat → Int32) : Nat → Int32 := fun k => if (wyV V h).toInt = -1 then g k else g k + (shV V h).2.got k
noncomputable def hrS (L : LWt) (p : DS) (n : Nat) : DS := (trV p.1 (hrI n) p.2 L, adG (trV p.1 (hrI n) p.2 L) (hrI n) p.2)
noncomputable def dyS (L : LWt) (V : VW) : Nat → DS
  | 0 => (V, fun _ => 0)
  | n + 1 => hrS L (dyS L V n) n
noncomputable def blH (V : VW) (h : Int32) : Int32 := if (wyV V h).toInt = -1 then 0 else if 0 < (blN 576 (V 3) (shV V h).2.pas).toInt then 1 else 0
noncomputable def blS (L : LWt) (V : VW) : Nat → Int32
  | 0 => 0
  | n + 1 => blS L V n + blH (dyS L V (n + 1)).1 (hrI n)
def dst (d f : Int32) : Int32 := if 1000 < (d + f).toInt then 1000 else d + f
def edS (p : DS) : VW := fun m k => if m = 14 ∧ k < (p.1 1 8).toNatClampNeg then dst (p.1 14 k) (p.1 1 7) else if m = 23 ∧ k < (p.1 1 9).toNatClampNeg then p.2 k else if m = 1 ∧ k = 6 then p.1 1 6 + 1 else p.1 m k
noncomputable def dayS (L : LWt) (V : VW) : VW := edS (dyS L V 24)
noncomputable def dayN (L : LWt) (V : VW) : Nat → VW
  | 0 => V
  | n + 1 => dayS L (dayN L V n)
noncomputable def blD (L : LWt) (V : VW) : Nat → Int32
  | 0 => 0
  | n + 1 => blD L V n + blS L (dayN L V n) 24
def EqS (p q : DS) : Prop := EqV p.1 q.1 ∧ ∀ k, k < 8 → q.2 k = p.2 k
theorem trV_eq {V W : VW} {h : Int32} {g g2 : Nat → Int32} {L : LWt} (hV : OKW V) (e : EqV V W) (hg : ∀ j, j < 8 → g2 j = g j) (hh : 0 ≤ h.toInt ∧ h.toInt < 24) : EqV (trV V h g L) (trV W h g2 L) := trA_eq e hg hV.1 hh
theorem OKW.tV {V : VW} {h : Int32} {g : Nat → Int32} {L : LWt} (hV : OKW V) : OKW (trV V h g L) := OKW.tA hV
theorem adG_eq {V W : VW} {h : Int32} {g g2 : Nat → Int32} (hV : OKW V) (e : EqV V W) (hg : ∀ j, j < 8 → g2 j = g j) (hh : 0 ≤ h.toInt ∧ h.toInt < 24) : ∀ k, k < 8 → adG W h g2 k = adG V h g k := fun k hk => by
  unfold adG
  rw [(wyV_eq e hV.1 hh).2.1, shV_eq hV e hh, hg k hk]
theorem hrS_eq {L : LWt} {p q : DS} {n : Nat} (hV : OKW p.1) (e : EqS p q) (hn : n < 24) : EqS (hrS L p n) (hrS L q n) := by
  have hh : 0 ≤ (hrI n).toInt ∧ (hrI n).toInt < 24 := by rw [hrI_t hn]; omega
  have h1 := trV_eq (L := L) (h := hrI n) hV e.1 e.2 hh
  exact ⟨h1, adG_eq hV.tV h1 e.2 hh⟩
theorem dyS_ok {L : LWt} {V : VW} (hV : OKW V) : ∀ n, OKW (dyS L V n).1 := by
  intro n
  induction n with
  | zero => exact hV
  | succ n ih => exact OKW.tV ih
theorem dyS_eq {L : LWt} {V W : VW} (hV : OKW V) (e : EqV V W) : ∀ n, n ≤ 24 → EqS (dyS L V n) (dyS L W n) := by
  intro n
  induction n with
  | zero => intro _; exact ⟨e, fun _ _ => rfl⟩
  | succ n ih => intro hn; exact hrS_eq (dyS_ok hV n) (ih (by omega)) (by omega)
theorem blH_eq {V W : VW} {h : Int32} (hV : OKW V) (e : EqV V W) (hh : 0 ≤ h.toInt ∧ h.toInt < 24) : blH W h = blH V h := by
  unfold blH
  rw [(wyV_eq e hV.1 hh).2.1, shV_eq hV e hh, blN.same (Nat.le_refl _) (fun c hc => e 3 c (by decide) (by decide) hc) (fun _ _ => rfl)]
theorem blS_eq {L : LWt} {V W : VW} (hV : OKW V) (e : EqV V W) : ∀ n, n ≤ 24 → blS L W n = blS L V n := by
  intro n
  induction n with
  | zero => intro _; rfl
  | succ n ih =>
    intro hn
    have hh : 0 ≤ (hrI n).toInt ∧ (hrI n).toInt < 24 := by rw [hrI_t (by omega)]; omega
    show blS L W n + _ = blS L V n + _
    rw [ih (by omega), blH_eq (dyS_ok hV (n + 1)) (dyS_eq hV e (n + 1) hn).1 hh]
theorem edS_ne {p : DS} {m k : Nat} (h14 : m ≠ 14) (h23 : m ≠ 23) (h1 : ¬ (m = 1 ∧ k = 6)) : edS p m k = p.1 m k := by
  unfold edS
  rw [if_neg (fun z => h14 z.1), if_neg (fun z => h23 z.1), if_neg h1]
theorem edS_eq {p q : DS} (hV : OKW p.1) (e : EqS p q) : EqV (edS p) (edS q) := fun m k h1 h2 hk => by
  have e1 : ∀ k, k < 10 → q.1 1 k = p.1 1 k := fun k hk => e.1 1 k (by decide) (by decide) hk
  have h8 := hV.n8
  have h9 := hV.n9
  unfold edS
  rw [e1 8 (by decide), e1 9 (by decide), e1 7 (by decide), e1 6 (by decide)]
  by_cases c1 : m = 14 ∧ k < (p.1 1 8).toNatClampNeg
  · rw [if_pos c1, if_pos c1, e.1 14 k (by decide) (by decide) (show k < 24 by omega)]
  · rw [if_neg c1, if_neg c1]
    by_cases c2 : m = 23 ∧ k < (p.1 1 9).toNatClampNeg
    · rw [if_pos c2, if_pos c2, e.2 k (by omega)]
    · rw [if_neg c2, if_neg c2]
      by_cases c3 : m = 1 ∧ k = 6
      · rw [if_pos c3, if_pos c3]
      · rw [if_neg c3, if_neg c3]
        exact e.1 m k h1 h2 hk
theorem OKW.ed {p : DS} (hV : OKW p.1) : OKW (edS p) := hV.of ⟨edS_ne (by decide) (by decide) (by decide), edS_ne (by decide) (by decide) (by decide), edS_ne (by decide) (by decide) (by decide), edS_ne (by decide) (by decide) (by decide), edS_ne (by decide) (by decide) (by decide)⟩ (funext fun _ => edS_ne (by decide) (by decide) (by simp)) ⟨funext fun _ => edS_ne (by decide) (by decide) (by simp), funext fun _ => edS_ne (by decide) (by decide) (by simp), funext fun _ => edS_ne (by decide) (by decide) (by simp), funext fun _ => edS_ne (by decide) (by decide) (by simp)⟩
theorem dayS_eq {L : LWt} {V W : VW} (hV : OKW V) (e : EqV V W) : EqV (dayS L V) (dayS L W) := edS_eq (dyS_ok hV 24) (dyS_eq hV e 24 (Nat.le_refl _))
theorem dayS_ok {L : LWt} {V : VW} (hV : OKW V) : OKW (dayS L V) := OKW.ed (dyS_ok hV 24)
theorem dayN_ok {L : LWt} {V : VW} (hV : OKW V) : ∀ n, OKW (dayN L V n) := by
  intro n
  induction n with
  | zero => exact hV
  | succ n ih => exact dayS_ok ih
theorem dayN_eq {L : LWt} {V W : VW} (hV : OKW V) (e : EqV V W) : ∀ n, EqV (dayN L V n) (dayN L W n) := by
  intro n
  induction n with
  | zero => exact e
  | succ n ih => exact dayS_eq (dayN_ok hV n) ih
-- what got nothing has nothing
theorem dyS_g {L : LWt} {V : VW} (hV : OKW V) {k : Nat} (hk : (V 1 9).toNatClampNeg ≤ k) : ∀ n, (dyS L V n).1 1 9 = V 1 9 ∧ (dyS L V n).2 k = 0 := by
  intro n
  induction n with
  | zero => exact ⟨rfl, rfl⟩
  | succ n ih =>
    have h1 : (dyS L V (n + 1)).1 1 9 = V 1 9 := by
      show trA (dyS L V n).1 (hrI n) (dyS L V n).2 L (L 0 5).toNatClampNeg 1 9 = V 1 9
      rw [trA_ne (by decide)]
      exact ih.1
    refine ⟨h1, ?_⟩
    show adG _ _ _ k = 0
    unfold adG
    split
    · exact ih.2
    · rw [ih.2, shV_g (OKW.tV (dyS_ok hV n)) (by rw [show trV (dyS L V n).1 (hrI n) (dyS L V n).2 L 1 9 = V 1 9 from h1]; exact hk)]
      rfl
-- what stays while days go by
theorem dyS_st {L : LWt} {V : VW} {m k : Nat} (hm : m ≠ 9) : ∀ n, (dyS L V n).1 m k = V m k := by
  intro n
  induction n with
  | zero => rfl
  | succ n ih => exact (trA_ne hm).trans ih
theorem dayS_st {L : LWt} {V : VW} {m k : Nat} (hm : m ≠ 9) (h14 : m ≠ 14) (h23 : m ≠ 23) (h1 : ¬ (m = 1 ∧ k = 6)) : dayS L V m k = V m k := (edS_ne h14 h23 h1).trans (dyS_st hm 24)
theorem dayS_6 {L : LWt} {V : VW} : dayS L V 1 6 = V 1 6 + 1 := by
  show edS (dyS L V 24) 1 6 = _
  unfold edS
  rw [if_neg (by simp), if_neg (by simp), if_pos ⟨rfl, rfl⟩, dyS_st (by decide)]
theorem dayN_st {L : LWt} {V : VW} {m k : Nat} (hm : m ≠ 9) (h14 : m ≠ 14) (h23 : m ≠ 23) (h1 : ¬ (m = 1 ∧ k = 6)) : ∀ n, dayN L V n m k = V m k := by
  intro n
  induction n with
  | zero => rfl
  | succ n ih => exact (dayS_st hm h14 h23 h1).trans ih
-- ranges of tables while days go by (of the day alone nothing is said)
def RKw (V : VW) : Prop := ((0 ≤ (V 1 4).toInt ∧ (V 1 4).toInt ≤ 1000) ∧ (0 ≤ (V 1 3).toInt ∧ (V 1 3).toInt < 576) ∧ (0 ≤ (V 1 5).toInt ∧ (V 1 5).toInt ≤ 11) ∧ (0 ≤ (V 1 7).toInt ∧ (V 1 7).toInt ≤ 99) ∧ (0 ≤ (V 1 8).toInt ∧ (V 1 8).toInt ≤ 24) ∧ 0 ≤ (V 1 9).toInt ∧ (V 1 9).toInt ≤ 8) ∧ (∀ c, c < 576 → (V 2 c).toInt = 0 ∨ (V 2 c).toInt = 1) ∧ (∀ j, j < 288 → (-1 ≤ (V 4 j).toInt ∧ (V 4 j).toInt ≤ 7) ∧ 0 ≤ (V 5 j).toInt ∧ (V 5 j).toInt ≤ 99999) ∧ (∀ k, k < 24 → (0 ≤ (V 9 k).toInt ∧ (V 9 k).toInt ≤ 7) ∧ (0 ≤ (V 10 k).toInt ∧ (V 10 k).toInt ≤ 1000) ∧ (0 ≤ (V 11 k).toInt ∧ (V 11 k).toInt ≤ 1000) ∧ (0 ≤ (V 12 k).toInt ∧ (V 12 k).toInt ≤ 4) ∧ (0 ≤ (V 14 k).toInt ∧ (V 14 k).toInt ≤ 1000) ∧ 0 ≤ (V 15 k).toInt ∧ (V 15 k).toInt ≤ 1) ∧ ∀ k, k < 8 → 0 ≤ (V 21 k).toInt ∧ (V 21 k).toInt ≤ 1000
theorem RKv.w {V : VW} (h : RKv V) : RKw V ∧ 0 ≤ (V 1 6).toInt ∧ (V 1 6).toInt ≤ 9999 := by
  obtain ⟨⟨h1, h2, h3, h4, h5, h6, h7⟩, h8⟩ := h
  exact ⟨⟨⟨h1, h2, h3, h5, h6, h7⟩, h8⟩, h4⟩
theorem RKw.v {V : VW} (h : RKw V) (h6 : 0 ≤ (V 1 6).toInt ∧ (V 1 6).toInt ≤ 9999) : RKv V := by
  obtain ⟨⟨h1, h2, h3, h4, h5, h7⟩, h8⟩ := h
  exact ⟨⟨h1, h2, h3, h6, h4, h5, h7⟩, h8⟩
theorem RKw.eq {V W : VW} (h : RKw V) (e : EqV V W) : RKw W := by
  obtain ⟨⟨h1, h2, h3, h4, h5, h7⟩, h8, h9, h10, h11⟩ := h
  have e1 : ∀ k, k < 10 → W 1 k = V 1 k := fun k hk => e 1 k (by decide) (by decide) hk
  refine ⟨?_, fun c hc => ?_, fun j hj => ?_, fun k hk => ?_, fun k hk => ?_⟩
  · rw [e1 4 (by decide), e1 3 (by decide), e1 5 (by decide), e1 7 (by decide), e1 8 (by decide), e1 9 (by decide)]
    exact ⟨h1, h2, h3, h4, h5, h7⟩
  · rw [e 2 c (by decide) (by decide) hc]; exact h8 c hc
  · rw [e 4 j (by decide) (by decide) hj, e 5 j (by decide) (by decide) hj]; exact h9 j hj
  · rw [e 9 k (by decide) (by decide) hk, e 10 k (by decide) (by decide) hk, e 11 k (by decide) (by decide) hk, e 12 k (by decide) (by decide) hk, e 14 k (by decide) (by decide) hk, e 15 k (by decide) (by decide) hk]; exact h10 k hk
  · rw [e 21 k (by decide) (by decide) hk]; exact h11 k hk
theorem slA_r {V : VW} {h : Int32} {g : Nat → Int32} {L : LWt} {k n : Nat} (h9 : 0 ≤ (V 9 k).toInt ∧ (V 9 k).toInt ≤ 7) : 0 ≤ (slA V h g L k n).toInt ∧ (slA V h g L k n).toInt ≤ 7 := by
  cases hq : fsf (firV V h g L k) n with
  | none => rw [slA_n hq]; exact h9
  | some i =>
    rw [slA_s hq]
    have := trn_r (V 9 k).toInt (V 12 k).toInt (vsV V h g L k i &&& 7).toInt
    rw [i32 (c := Int32.ofInt (trn (V 9 k).toInt (V 12 k).toInt (vsV V h g L k i &&& 7).toInt)) (by omega) rfl]
    omega
theorem RKw.tA {V : VW} {h : Int32} {g : Nat → Int32} {L : LWt} {n : Nat} (hV : RKw V) : RKw (trA V h g L n) := by
  obtain ⟨h1, h8, h9, h10, h11⟩ := hV
  refine ⟨h1, h8, h9, fun k hk => ?_, h11⟩
  obtain ⟨g1, g2⟩ := h10 k hk
  refine ⟨?_, g2⟩
  unfold trA
  split
  · exact slA_r g1
  · exact g1
theorem RKw.tV {V : VW} {h : Int32} {g : Nat → Int32} {L : LWt} (hV : RKw V) : RKw (trV V h g L) := RKw.tA hV
theorem dyS_rk {L : LWt} {V : VW} (hV : RKw V) : ∀ n, RKw (dyS L V n).1 := by
  intro n
  induction n with
  | zero => exact hV
  | succ n ih => exact RKw.tV ih
theorem RKw.ed {p : DS} (hV : RKw p.1) : RKw (edS p) := by
  obtain ⟨⟨h1, h2, h3, h4, h5, h7⟩, h8, h9, h10, h11⟩ := hV
  refine ⟨⟨h1, h2, h3, h4, h5, h7⟩, h8, h9, fun k hk => ?_, h11⟩
  obtain ⟨g1, g2, g3, g4, g5, g6⟩ := h10 k hk
  refine ⟨g1, g2, g3, g4, ?_, g6⟩
  have e : edS p 14 k = if k < (p.1 1 8).toNatClampNeg then dst (p.1 14 k) (p.1 1 7) else p.1 14 k := by
    unfold edS
    by_cases hq : k < (p.1 1 8).toNatClampNeg
    · rw [if_pos ⟨rfl, hq⟩, if_pos hq]
    · rw [if_neg (fun z => hq z.2), if_neg hq, if_neg (by simp), if_neg (by simp)]
  rw [e]
  split
  · have ea := a_add (x := p.1 14 k) (y := p.1 1 7) (v := p.1 14 k + p.1 1 7) rfl (by omega) (by omega)
    unfold dst
    split
    · decide
    · omega
  · exact g5
theorem dayS_rk {L : LWt} {V : VW} (hV : RKw V) : RKw (dayS L V) := RKw.ed (dyS_rk hV 24)
theorem dayN_rk {L : LWt} {V : VW} (hV : RKw V) : ∀ n, RKw (dayN L V n) := by
  intro n
  induction n with
  | zero => exact hV
  | succ n ih => exact dayS_rk ih
theorem RKw.mok {V : VW} {J : MI} (h : RKw V) (e : EqV V (live J)) (h1 : (J 1001 0).toInt = 1) (h59 : (J 1000 59).toInt = 0) : MOK J := by
  have hk := h.eq e
  obtain ⟨⟨a1, a2, a3, a5, a6, a7⟩, a8, a9, a10, a11⟩ := hk
  exact ⟨h1, h59, a2, ⟨a1, a8, a11, fun k hk => ⟨(a10 k hk).2.1, (a10 k hk).2.2.2.2.1, (a10 k hk).2.2.1, (a10 k hk).1⟩⟩, a9⟩
-- blind hours
theorem blN_c {e p : Nat → Int32} : ∀ n : Nat, n ≤ 576 → 0 ≤ (blN n e p).toInt ∧ (blN n e p).toInt ≤ n ∧ ((blN n e p).toInt = 0 ↔ ∀ c, c < n → ¬ bln e p c) := by
  intro n
  induction n with
  | zero => intro _; exact ⟨by show (0 : Int) ≤ (0 : Int32).toInt; decide, by show (0 : Int32).toInt ≤ _; decide, ⟨fun _ c hc => absurd hc (Nat.not_lt_zero c), fun _ => rfl⟩⟩
  | succ n ih =>
    intro hn
    obtain ⟨h1, h2, h3⟩ := ih (by omega)
    by_cases hq : bln e p n
    · rw [blN_y hq]
      have ea := a_add (x := blN n e p) (y := 1) (v := blN n e p + 1) rfl (by rw [show (1 : Int32).toInt = 1 from by decide]; omega) (by rw [show (1 : Int32).toInt = 1 from by decide]; omega)
      rw [show (1 : Int32).toInt = 1 from by decide] at ea
      exact ⟨by omega, by omega, ⟨fun z => by omega, fun z => absurd hq (z n (by omega))⟩⟩
    · rw [blN_n hq]
      refine ⟨h1, by omega, h3.trans ⟨fun z c hc => ?_, fun z c hc => z c (by omega)⟩⟩
      by_cases hz : c = n
      · rw [hz]; exact hq
      · exact z c (by omega)
theorem fsB_bl {e p : Nat → Int32} {r : Int32} (h : fsB e p r) : (r.toInt = -2 → ¬ 0 < (blN 576 e p).toInt) ∧ (r.toInt ≠ -2 → 0 < (blN 576 e p).toInt) := by
  have hc := blN_c (e := e) (p := p) 576 (Nat.le_refl _)
  rcases h with ⟨h1, h2⟩ | ⟨h1, h2, h3, h4⟩
  · exact ⟨fun _ => by have := hc.2.2.mpr h2; omega, fun z => absurd h1 z⟩
  · refine ⟨fun z => by omega, fun _ => ?_⟩
    have t := tn h1
    by_cases hz : (blN 576 e p).toInt = 0
    · exact absurd h3 (hc.2.2.mp hz _ (by omega))
    · omega
