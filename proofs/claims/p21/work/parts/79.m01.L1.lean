-- light: a town as light sees it, what became of light, one beam, all beams
def sX (w : Int32) : Int32 := stX.getD w.toNatClampNeg 0
def sY (w : Int32) : Int32 := stY.getD w.toNatClampNeg 0
def shr (s t : Int32) : Int32 := s * t / 1000
abbrev BQ : Type := Int32 × Int32 × Int32 × Int32
-- rows: 0 columns, rows, air; 1 rock, 2 yards, 3 mirrors; 4 what yards take; 5 broken, 6 loss, 7 dust, 8 through, 9 slant
def TN : Type := Nat → Nat → Int32
def TN.c (T : TN) : Int32 := T 0 0
def TN.r (T : TN) : Int32 := T 0 1
def TN.air (T : TN) : Int32 := T 0 2
def TN.rock (T : TN) : Nat → Int32 := T 1
def TN.yat (T : TN) : Nat → Int32 := T 2
def TN.mat (T : TN) : Nat → Int32 := T 3
def TN.tk (T : TN) : Nat → Int32 := T 4
def TN.brk (T : TN) : Nat → Int32 := T 5
def TN.los (T : TN) : Nat → Int32 := T 6
def TN.dus (T : TN) : Nat → Int32 := T 7
def TN.thr (T : TN) : Nat → Int32 := T 8
def TN.sla (T : TN) : Nat → Int32 := T 9
def upN (f : Nat → Int32) (k : Nat) (v : Int32) : Nat → Int32 := fun j => if j = k then v else f j
-- what yards got, what passed cells, numbers (0 lost, 1 spilt, 2 beams, 3 cut, 4 touched), what waits
def SN : Type := (Nat → Int32) × (Nat → Int32) × (Nat → Int32) × List BQ
def SN.got (S : SN) : Nat → Int32 := S.1
def SN.pas (S : SN) : Nat → Int32 := S.2.1
def SN.nu (S : SN) : Nat → Int32 := S.2.2.1
def SN.q (S : SN) : List BQ := S.2.2.2
def SN.gU (S : SN) (k : Nat) (v : Int32) : SN := (upN S.1 k v, S.2)
def SN.pU (S : SN) (k : Nat) (v : Int32) : SN := (S.1, upN S.2.1 k v, S.2.2)
def SN.nU (S : SN) (k : Nat) (v : Int32) : SN := (S.1, S.2.1, upN S.2.2.1 k v, S.2.2.2)
def SN.qU (S : SN) (q : List BQ) : SN := (S.1, S.2.1, S.2.2.1, q)
def SN.nA (S : SN) (k : Nat) (v : Int32) : SN := S.nU k (S.nu k + v)
abbrev inT (T : TN) (x y : Int32) : Prop := 0 ≤ x.toInt ∧ x.toInt < T.c.toInt ∧ 0 ≤ y.toInt ∧ y.toInt < T.r.toInt
def clN (x y : Int32) : Nat := 24 * y.toNatClampNeg + x.toNatClampNeg
abbrev opn (T : TN) (x y : Int32) : Prop := inT T x y ∧ (T.rock (clN x y)).toInt = 0
def airL (T : TN) (s : Int32) : Int32 := s - shr s T.air
def airS (T : TN) (c : Nat) (s : Int32) (S : SN) : SN := (S.nA 0 (shr s T.air)).pU c (if (S.pas c).toInt < (airL T s).toInt then airL T s else S.pas c)
def yrdL (T : TN) (c : Nat) (s : Int32) : Int32 := if (T.yat c).toInt = -1 then s else s - shr s (T.tk (T.yat c).toNatClampNeg)
def yrdS (T : TN) (c : Nat) (s : Int32) (S : SN) : SN := if (T.yat c).toInt = -1 then S else S.gU (T.yat c).toNatClampNeg (S.got (T.yat c).toNatClampNeg + shr s (T.tk (T.yat c).toNatClampNeg))
def lsT (T : TN) (k : Nat) : Int32 := if (T.los k + T.dus k).toInt < 1000 then T.los k + T.dus k else 1000
def waitS (e : BQ) (S : SN) : SN := if S.q.length < 60 then (S.qU (S.q ++ [e])).nA 2 1 else (S.nA 1 e.2.2.2).nU 3 1
abbrev isM (T : TN) (c : Nat) : Prop := (T.mat c).toInt ≠ -1 ∧ (T.brk (T.mat c).toNatClampNeg).toInt = 0
def mirG (T : TN) (m : Int32) (s : Int32) : Int32 := shr s (lsT T m.toNatClampNeg)
def mirT (T : TN) (m : Int32) (s : Int32) : Int32 := shr (s - mirG T m s) (T.thr m.toNatClampNeg)
def mirL (T : TN) (m : Int32) (s : Int32) : Int32 := s - mirG T m s - mirT T m s
def mirW (T : TN) (m : Int32) (w : Int32) : Int32 := (T.sla m.toNatClampNeg - w) &&& 7
def mirS (T : TN) (m x y w s : Int32) (S : SN) : SN :=
  if 0 < (mirT T m s).toInt then waitS (x + sX w, y + sY w, w, mirT T m s) ((S.nU 4 (S.nu 4 ||| (1 <<< (m &&& 31)))).nA 0 (mirG T m s))
  else (S.nU 4 (S.nu 4 ||| (1 <<< (m &&& 31)))).nA 0 (mirG T m s)
-- a cell: the way, the light and the rest behind it
def cellS (T : TN) (x y s : Int32) (S : SN) : SN := yrdS T (clN x y) (airL T s) (airS T (clN x y) s S)
def cellL (T : TN) (x y s : Int32) : Int32 := yrdL T (clN x y) (airL T s)
def stpW (T : TN) (x y w : Int32) : Int32 := if isM T (clN x y) then mirW T (T.mat (clN x y)) w else w
def stpL (T : TN) (x y s : Int32) : Int32 := if isM T (clN x y) then mirL T (T.mat (clN x y)) (cellL T x y s) else cellL T x y s
def stpS (T : TN) (x y w s : Int32) (S : SN) : SN := if isM T (clN x y) then mirS T (T.mat (clN x y)) x y w (cellL T x y s) (cellS T x y s S) else cellS T x y s S
def beam (T : TN) : Nat → Int32 → Int32 → Int32 → Int32 → SN → Nat × SN
  | 0, _, _, _, s, S => (0, if 0 < s.toInt then (S.nA 1 s).nU 3 1 else S)
  | n + 1, x, y, w, s, S =>
    if 0 < s.toInt then
      if opn T x y then beam T n (x + sX (stpW T x y w)) (y + sY (stpW T x y w)) (stpW T x y w) (stpL T x y s) (stpS T x y w s S)
      else (n, S.nA 1 s)
    else (n + 1, S)
theorem beam_end {T : TN} {n : Nat} {x y w s : Int32} {S : SN} (h : s.toInt ≤ 0) : beam T n x y w s S = (n, S) := by
  cases n with
  | zero => simp only [beam]; rw [if_neg (by omega)]
  | succ n => simp only [beam]; rw [if_neg (by omega)]
theorem beam_full {T : TN} {x y w s : Int32} {S : SN} (h : 0 < s.toInt) : beam T 0 x y w s S = (0, (S.nA 1 s).nU 3 1) := by
  simp only [beam]; rw [if_pos h]
theorem beam_shut {T : TN} {n : Nat} {x y w s : Int32} {S : SN} (h : 0 < s.toInt) (ho : ¬ opn T x y) : beam T (n + 1) x y w s S = (n, S.nA 1 s) := by
  simp only [beam]; rw [if_pos h, if_neg ho]
theorem beam_step {T : TN} {n : Nat} {x y w s : Int32} {S : SN} (h : 0 < s.toInt) (ho : opn T x y) : beam T (n + 1) x y w s S = beam T n (x + sX (stpW T x y w)) (y + sY (stpW T x y w)) (stpW T x y w) (stpL T x y s) (stpS T x y w s S) := by
  simp only [beam]; rw [if_pos h, if_pos ho]
-- what waits
theorem waitS_q (e : BQ) (S : SN) : ((waitS e S).q = S.q ∨ (waitS e S).q = S.q ++ [e]) ∧ (S.q.length ≤ 60 → (waitS e S).q.length ≤ 60) := by
  unfold waitS
  split
  · rename_i h
    refine ⟨Or.inr rfl, fun _ => ?_⟩
    show (S.q ++ [e]).length ≤ 60
    simp; omega
  · exact ⟨Or.inl rfl, fun h => h⟩
theorem yrdS_q (T : TN) (c : Nat) (s : Int32) (S : SN) : (yrdS T c s S).q = S.q := by
  unfold yrdS
  split <;> rfl
theorem cellS_q (T : TN) (x y s : Int32) (S : SN) : (cellS T x y s S).q = S.q := by unfold cellS; rw [yrdS_q]; rfl
theorem stpS_q (T : TN) (x y w s : Int32) (S : SN) : ((stpS T x y w s S).q = S.q ∨ (isM T (clN x y) ∧ (stpS T x y w s S).q = S.q ++ [(x + sX w, y + sY w, w, mirT T (T.mat (clN x y)) (cellL T x y s))])) ∧ (S.q.length ≤ 60 → (stpS T x y w s S).q.length ≤ 60) := by
  have hc := cellS_q T x y s S
  unfold stpS
  split
  · rename_i hm
    unfold mirS
    split
    · have h := waitS_q (x + sX w, y + sY w, w, mirT T (T.mat (clN x y)) (cellL T x y s)) (((cellS T x y s S).nU 4 ((cellS T x y s S).nu 4 ||| (1 <<< (T.mat (clN x y) &&& 31)))).nA 0 (mirG T (T.mat (clN x y)) (cellL T x y s)))
      rw [show (((cellS T x y s S).nU 4 ((cellS T x y s S).nu 4 ||| (1 <<< (T.mat (clN x y) &&& 31)))).nA 0 (mirG T (T.mat (clN x y)) (cellL T x y s))).q = S.q from hc] at h
      refine ⟨?_, h.2⟩
      rcases h.1 with h1 | h1
      · exact Or.inl h1
      · exact Or.inr ⟨hm, h1⟩
    · refine ⟨Or.inl hc, fun h => ?_⟩
      show (cellS T x y s S).q.length ≤ 60
      rw [hc]; exact h
  · exact ⟨Or.inl hc, fun h => by rw [hc]; exact h⟩
theorem beam_q (T : TN) (n : Nat) : ∀ (x y w s : Int32) (S : SN), (beam T n x y w s S).1 ≤ n ∧ (beam T n x y w s S).2.q.length + (beam T n x y w s S).1 ≤ S.q.length + n ∧ (S.q.length ≤ 60 → (beam T n x y w s S).2.q.length ≤ 60) := by
  induction n with
  | zero =>
    intro x y w s S
    by_cases h : 0 < s.toInt
    · rw [beam_full h]; exact ⟨Nat.le_refl _, Nat.le_refl _, fun q => q⟩
    · rw [beam_end (by omega)]; exact ⟨Nat.le_refl _, Nat.le_refl _, fun q => q⟩
  | succ n ih =>
    intro x y w s S
    by_cases h : 0 < s.toInt
    · by_cases ho : opn T x y
      · rw [beam_step h ho]
        have hq := stpS_q T x y w s S
        have hl : (stpS T x y w s S).q.length ≤ S.q.length + 1 := by
          rcases hq.1 with h1 | ⟨-, h1⟩ <;> rw [h1]
          · omega
          · simp
        have hi := ih (x + sX (stpW T x y w)) (y + sY (stpW T x y w)) (stpW T x y w) (stpL T x y s) (stpS T x y w s S)
        exact ⟨by omega, by omega, fun q => hi.2.2 (hq.2 q)⟩
      · rw [beam_shut h ho]
        refine ⟨by simp, ?_, fun q => q⟩
        show S.q.length + n ≤ S.q.length + (n + 1)
        omega
    · rw [beam_end (by omega)]; exact ⟨Nat.le_refl _, Nat.le_refl _, fun q => q⟩
def drain (T : TN) : Nat → Nat × SN → Nat × SN
  | 0, p => p
  | f + 1, p => match p.2.q with
    | [] => p
    | e :: q => drain T f (beam T p.1 e.1 e.2.1 e.2.2.1 e.2.2.2 (p.2.qU q))
theorem drain_nil {T : TN} {f : Nat} {p : Nat × SN} (h : p.2.q = []) : drain T f p = p := by
  cases f with
  | zero => rfl
  | succ f => simp only [drain]; rw [h]
theorem drain_cons {T : TN} {f : Nat} {p : Nat × SN} {e : BQ} {q : List BQ} (h : p.2.q = e :: q) : drain T (f + 1) p = drain T f (beam T p.1 e.1 e.2.1 e.2.2.1 e.2.2.2 (p.2.qU q)) := by
  simp only [drain]; rw [h]
-- as many goes as there are beams that wait and cells that are left: the rest is done
def SZ : SN := (fun _ => 0, fun _ => 0, fun k => if k = 2 then 1 else 0, [])
def shineP (T : TN) (x y w s : Int32) : Nat × SN := drain T 2000 (beam T 2000 x y w s SZ)
-- towns that look the same to light
def lw (n : Nat) : Nat := if n = 0 then 3 else if n < 4 then 576 else if n = 4 then 8 else 24
def TNok (T : TN) : Prop := (T.c.toInt ≤ 24 ∧ T.r.toInt ≤ 24) ∧ (∀ c, c < 576 → -1 ≤ (T.yat c).toInt ∧ (T.yat c).toInt < 8) ∧ ∀ c, c < 576 → -1 ≤ (T.mat c).toInt ∧ (T.mat c).toInt < 24
def LTe (T U : TN) : Prop := TNok T ∧ ∀ n k, n < 10 → k < lw n → U n k = T n k
theorem LTe.c {T U : TN} (h : LTe T U) : U.c = T.c := h.2 0 0 (by decide) (by decide)
theorem LTe.r {T U : TN} (h : LTe T U) : U.r = T.r := h.2 0 1 (by decide) (by decide)
theorem LTe.air {T U : TN} (h : LTe T U) : U.air = T.air := h.2 0 2 (by decide) (by decide)
theorem LTe.rock {T U : TN} (h : LTe T U) {c : Nat} (hc : c < 576) : U.rock c = T.rock c := h.2 1 c (by decide) hc
theorem LTe.yat {T U : TN} (h : LTe T U) {c : Nat} (hc : c < 576) : U.yat c = T.yat c := h.2 2 c (by decide) hc
theorem LTe.mat {T U : TN} (h : LTe T U) {c : Nat} (hc : c < 576) : U.mat c = T.mat c := h.2 3 c (by decide) hc
theorem LTe.tk {T U : TN} (h : LTe T U) {c : Nat} (hc : c < 8) : U.tk c = T.tk c := h.2 4 c (by decide) hc
theorem LTe.brk {T U : TN} (h : LTe T U) {c : Nat} (hc : c < 24) : U.brk c = T.brk c := h.2 5 c (by decide) hc
theorem LTe.los {T U : TN} (h : LTe T U) {c : Nat} (hc : c < 24) : U.los c = T.los c := h.2 6 c (by decide) hc
theorem LTe.dus {T U : TN} (h : LTe T U) {c : Nat} (hc : c < 24) : U.dus c = T.dus c := h.2 7 c (by decide) hc
theorem LTe.thr {T U : TN} (h : LTe T U) {c : Nat} (hc : c < 24) : U.thr c = T.thr c := h.2 8 c (by decide) hc
theorem LTe.sla {T U : TN} (h : LTe T U) {c : Nat} (hc : c < 24) : U.sla c = T.sla c := h.2 9 c (by decide) hc
theorem TNok.cl {T : TN} (h : TNok T) {x y : Int32} (hi : inT T x y) : clN x y < 576 := by
  obtain ⟨h1, h2, h3, h4⟩ := hi
  have := h.1
  have t1 := tn h1
  have t2 := tn h3
  unfold clN
  omega
theorem LTe.inTe {T U : TN} (h : LTe T U) (x y : Int32) : inT U x y ↔ inT T x y := by
  unfold inT
  rw [h.c, h.r]
theorem LTe.opne {T U : TN} (h : LTe T U) (x y : Int32) : opn U x y ↔ opn T x y := by
  unfold opn
  rw [h.inTe]
  constructor
  · rintro ⟨h1, h2⟩; exact ⟨h1, by rw [← h.rock (h.1.cl h1)]; exact h2⟩
  · rintro ⟨h1, h2⟩; exact ⟨h1, by rw [h.rock (h.1.cl h1)]; exact h2⟩
theorem nat_of {i : Int32} {n : Int} (h1 : i.toInt ≠ -1) (h2 : -1 ≤ i.toInt ∧ i.toInt < n) : (i.toNatClampNeg : Int) < n := by
  have := tn (i := i) (by omega)
  omega
theorem LTe.mir {T U : TN} (h : LTe T U) {m : Int32} (hm : m.toNatClampNeg < 24) (x y w s : Int32) (S : SN) : mirW U m w = mirW T m w ∧ mirL U m s = mirL T m s ∧ mirS U m x y w s S = mirS T m x y w s S := by
  have hl : lsT U m.toNatClampNeg = lsT T m.toNatClampNeg := by unfold lsT; rw [h.los hm, h.dus hm]
  have hG : ∀ s, mirG U m s = mirG T m s := fun s => by unfold mirG; rw [hl]
  have hT : ∀ s, mirT U m s = mirT T m s := fun s => by unfold mirT; rw [hG, h.thr hm]
  refine ⟨by unfold mirW; rw [h.sla hm], by unfold mirL; rw [hG, hT], by unfold mirS; rw [hG, hT]⟩
theorem LTe.stp {T U : TN} (h : LTe T U) {x y : Int32} (hi : inT T x y) (w s : Int32) (S : SN) : stpW U x y w = stpW T x y w ∧ stpL U x y s = stpL T x y s ∧ stpS U x y w s S = stpS T x y w s S := by
  have hc := h.1.cl hi
  have hcL : cellL U x y s = cellL T x y s := by
    unfold cellL yrdL airL
    rw [h.air, h.yat hc]
    by_cases hq : (T.yat (clN x y)).toInt = -1
    · rw [if_pos hq, if_pos hq]
    · rw [if_neg hq, if_neg hq, h.tk (by have := nat_of hq (h.1.2.1 _ hc); omega)]
  have hcS : cellS U x y s S = cellS T x y s S := by
    unfold cellS yrdS airS airL
    rw [h.air, h.yat hc]
    by_cases hq : (T.yat (clN x y)).toInt = -1
    · rw [if_pos hq, if_pos hq]
    · rw [if_neg hq, if_neg hq, h.tk (by have := nat_of hq (h.1.2.1 _ hc); omega)]
  have hM : isM U (clN x y) ↔ isM T (clN x y) := by
    unfold isM
    rw [h.mat hc]
    constructor
    · rintro ⟨h1, h2⟩; exact ⟨h1, by rw [← h.brk (by have := nat_of h1 (h.1.2.2 _ hc); omega)]; exact h2⟩
    · rintro ⟨h1, h2⟩; exact ⟨h1, by rw [h.brk (by have := nat_of h1 (h.1.2.2 _ hc); omega)]; exact h2⟩
  unfold stpW stpL stpS
  by_cases hq : isM T (clN x y)
  · have hm : (T.mat (clN x y)).toNatClampNeg < 24 := by have := nat_of hq.1 (h.1.2.2 _ hc); omega
    rw [if_pos hq, if_pos hq, if_pos hq, if_pos (hM.mpr hq), if_pos (hM.mpr hq), if_pos (hM.mpr hq), hcL, hcS, h.mat hc]
    exact h.mir hm _ _ _ _ _
  · rw [if_neg hq, if_neg hq, if_neg hq, if_neg (fun z => hq (hM.mp z)), if_neg (fun z => hq (hM.mp z)), if_neg (fun z => hq (hM.mp z))]
    exact ⟨rfl, hcL, hcS⟩
theorem LTe.beame {T U : TN} (h : LTe T U) (n : Nat) : ∀ (x y w s : Int32) (S : SN), beam U n x y w s S = beam T n x y w s S := by
  induction n with
  | zero => intro x y w s S; simp only [beam]
  | succ n ih =>
    intro x y w s S
    by_cases hs : 0 < s.toInt
    · by_cases ho : opn T x y
      · rw [beam_step hs ho, beam_step hs ((h.opne x y).mpr ho), ih, (h.stp ho.1 w s S).1, (h.stp ho.1 w s S).2.1, (h.stp ho.1 w s S).2.2]
      · rw [beam_shut hs ho, beam_shut hs (fun z => ho ((h.opne x y).mp z))]
    · rw [beam_end (by omega), beam_end (by omega)]
theorem LTe.draine {T U : TN} (h : LTe T U) (f : Nat) : ∀ p, drain U f p = drain T f p := by
  induction f with
  | zero => intro p; rfl
  | succ f ih =>
    intro p
    cases hq : p.2.q with
    | nil => rw [drain_nil hq, drain_nil hq]
    | cons e q => rw [drain_cons hq, drain_cons hq, ih, h.beame]
theorem LTe.shine {T U : TN} (h : LTe T U) (x y w s : Int32) : shineP U x y w s = shineP T x y w s := by
  unfold shineP
  rw [h.draine, h.beame]
