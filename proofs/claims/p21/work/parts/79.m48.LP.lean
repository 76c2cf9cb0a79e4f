-- answers that are asked of a town's table
def ANW (ok : Prop) (r v d : Int32) : Prop := (ok ∧ r = v) ∨ (¬ ok ∧ r = d)
theorem ANW.same {ok ok2 : Prop} {r q v w d : Int32} (h : ANW ok r v d) (h2 : ANW ok2 q w d) (e : ok ↔ ok2) (hv : ok → v = w) : r = q := by
  rcases h with ⟨h1, h3⟩ | ⟨h1, h3⟩ <;> rcases h2 with ⟨g1, g3⟩ | ⟨g1, g3⟩
  · rw [h3, g3]; exact hv h1
  · exact absurd (e.mp h1) g1
  · exact absurd (e.mpr g1) h1
  · rw [h3, g3]
def okL (V : VW) (h : Int32) : Prop := (V 1 0).toInt = 1 ∧ (0 ≤ h.toInt ∧ h.toInt < 24) ∧ (wyV V h).toInt ≠ -1
theorem okL_eq {V W : VW} {h : Int32} (e : EqV V W) (h5 : 0 ≤ (V 1 5).toInt ∧ (V 1 5).toInt ≤ 11) : okL V h ↔ okL W h := by
  unfold okL
  rw [e 1 0 (by decide) (by decide) (by decide)]
  constructor
  · rintro ⟨h1, h2, h3⟩
    exact ⟨h1, h2, by rw [(wyV_eq e h5 h2).2.1]; exact h3⟩
  · rintro ⟨h1, h2, h3⟩
    exact ⟨h1, h2, by rw [← (wyV_eq e h5 h2).2.1]; exact h3⟩
theorem sumN_eq {f g : Nat → Int32} : ∀ {n : Nat}, (∀ k, k < n → f k = g k) → sumN n f = sumN n g := by
  intro n
  induction n with
  | zero => intro _; rfl
  | succ n ih =>
    intro h
    show sumN n f + f n = sumN n g + g n
    rw [ih (fun k hk => h k (by omega)), h n (by omega)]
theorem sumN_z {f : Nat → Int32} {n : Nat} : ∀ d : Nat, (∀ k, n ≤ k → k < n + d → f k = 0) → sumN (n + d) f = sumN n f := by
  intro d
  induction d with
  | zero => intro _; rfl
  | succ d ih =>
    intro h
    show sumN (n + d) f + f (n + d) = sumN n f
    rw [ih (fun k h1 h2 => h k h1 (by omega)), h (n + d) (by omega) (by omega), i_adz]
theorem sum_yards {V : VW} {h : Int32} (hV : OKW V) : sumN (V 1 9).toNatClampNeg (shV V h).2.got = sumN 8 (shV V h).2.got := by
  have h9 := hV.n9
  have h1 := sumN_z (f := (shV V h).2.got) (n := (V 1 9).toNatClampNeg) (8 - (V 1 9).toNatClampNeg) (fun k h1 _ => shV_g hV h1)
  rw [show (V 1 9).toNatClampNeg + (8 - (V 1 9).toNatClampNeg) = 8 from by omega] at h1
  exact h1.symm
def LGT (V : VW) (h : Int32) (w : Int) (r : Int32) : Prop := (w = 0 ∧ r = sumN 8 (shV V h).2.got) ∨ (w = 1 ∧ r = (shV V h).2.nu 0) ∨ (w = 2 ∧ r = (shV V h).2.nu 1) ∨ (w = 3 ∧ r.toInt = 2000 - ((shV V h).1 : Int)) ∨ (w = 4 ∧ r = (shV V h).2.nu 2) ∨ (w = 5 ∧ r = blN 576 (V 3) (shV V h).2.pas) ∨ (w = 6 ∧ fsB (V 3) (shV V h).2.pas r)
theorem LGT.c0 {V : VW} {h : Int32} {w : Int} {r : Int32} {n : Nat} {S : SN} (e : shV V h = (n, S)) (hw : w = 0) (hr : r = sumN 8 S.got) : LGT V h w r := by
  unfold LGT
  rw [e]
  exact Or.inl ⟨hw, hr⟩
theorem LGT.c1 {V : VW} {h : Int32} {w : Int} {r : Int32} {n : Nat} {S : SN} (e : shV V h = (n, S)) (hw : w = 1) (hr : r = S.nu 0) : LGT V h w r := by
  unfold LGT
  rw [e]
  exact Or.inr (Or.inl ⟨hw, hr⟩)
theorem LGT.c2 {V : VW} {h : Int32} {w : Int} {r : Int32} {n : Nat} {S : SN} (e : shV V h = (n, S)) (hw : w = 2) (hr : r = S.nu 1) : LGT V h w r := by
  unfold LGT
  rw [e]
  exact Or.inr (Or.inr (Or.inl ⟨hw, hr⟩))
theorem LGT.c3 {V : VW} {h : Int32} {w : Int} {r : Int32} {n : Nat} {S : SN} (e : shV V h = (n, S)) (hw : w = 3) (hr : r.toInt = 2000 - (n : Int)) : LGT V h w r := by
  unfold LGT
  rw [e]
  exact Or.inr (Or.inr (Or.inr (Or.inl ⟨hw, hr⟩)))
theorem LGT.c4 {V : VW} {h : Int32} {w : Int} {r : Int32} {n : Nat} {S : SN} (e : shV V h = (n, S)) (hw : w = 4) (hr : r = S.nu 2) : LGT V h w r := by
  unfold LGT
  rw [e]
  exact Or.inr (Or.inr (Or.inr (Or.inr (Or.inl ⟨hw, hr⟩))))
theorem LGT.c5 {V : VW} {h : Int32} {w : Int} {r : Int32} {n : Nat} {S : SN} (e : shV V h = (n, S)) (hw : w = 5) (hr : r = blN 576 (V 3) S.pas) : LGT V h w r := by
  unfold LGT
  rw [e]
  exact Or.inr (Or.inr (Or.inr (Or.inr (Or.inr (Or.inl ⟨hw, hr⟩)))))
theorem LGT.c6 {V : VW} {h : Int32} {w : Int} {r : Int32} {n : Nat} {S : SN} (e : shV V h = (n, S)) (hw : w = 6) (hr : fsB (V 3) S.pas r) : LGT V h w r := by
  unfold LGT
  rw [e]
  exact Or.inr (Or.inr (Or.inr (Or.inr (Or.inr (Or.inr (⟨hw, hr⟩))))))
theorem LGT.same {V W : VW} {h : Int32} {w : Int} {r q : Int32} (hV : OKW V) (e : EqV V W) (hh : 0 ≤ h.toInt ∧ h.toInt < 24) (a : LGT V h w r) (b : LGT W h w q) : r = q := by
  have e3 : ∀ c, c < 576 → W 3 c = V 3 c := fun c hc => e 3 c (by decide) (by decide) hc
  unfold LGT at a b
  rw [shV_eq hV e hh] at b
  generalize shV V h = Q at a b
  rcases a with ⟨a1, a2⟩ | ⟨a1, a2⟩ | ⟨a1, a2⟩ | ⟨a1, a2⟩ | ⟨a1, a2⟩ | ⟨a1, a2⟩ | ⟨a1, a2⟩ <;> rcases b with ⟨b1, b2⟩ | ⟨b1, b2⟩ | ⟨b1, b2⟩ | ⟨b1, b2⟩ | ⟨b1, b2⟩ | ⟨b1, b2⟩ | ⟨b1, b2⟩ <;> first | (exfalso; omega) | skip
  · exact a2.trans b2.symm
  · exact a2.trans b2.symm
  · exact a2.trans b2.symm
  · exact Int32.toInt_inj.mp (a2.trans b2.symm)
  · exact a2.trans b2.symm
  · rw [a2, b2]
    exact (blN.same (Nat.le_refl _) e3 (fun _ _ => rfl)).symm
  · exact a2.same b2 e3 (fun _ _ => rfl)
def LTA (ok : Prop) (V : VW) (h : Int32) (w : Int) (r : Int32) : Prop := (ok ∧ LGT V h w r) ∨ (¬ ok ∧ r = -1)
theorem LTA.same {ok ok2 : Prop} {V W : VW} {h : Int32} {w : Int} {r q : Int32} (a : LTA ok V h w r) (b : LTA ok2 W h w q) (hV : OKW V) (e : EqV V W) (hok : ok ↔ ok2) (hh : ok → 0 ≤ h.toInt ∧ h.toInt < 24) : r = q := by
  rcases a with ⟨h1, h3⟩ | ⟨h1, h3⟩ <;> rcases b with ⟨g1, g3⟩ | ⟨g1, g3⟩
  · exact h3.same hV e (hh h1) g3
  · exact absurd (hok.mp h1) g1
  · exact absurd (hok.mpr g1) h1
  · rw [h3, g3]
def okC (V : VW) (x y : Int32) : Prop := 0 ≤ x.toInt ∧ x.toInt < (V 1 1).toInt ∧ 0 ≤ y.toInt ∧ y.toInt < (V 1 2).toInt
-- what a town counts
def cnV (V : VW) (w : Int) : Int32 := if w = 0 then V 1 1 else if w = 1 then V 1 2 else if w = 2 then V 1 8 else if w = 3 then V 1 9 else if w = 4 then V 1 5 else if w = 5 then V 1 6 else if w = 6 then metV V else V 1 7
theorem cnV_eq {V W : VW} {w : Int} (e : EqV V W) (h9 : (V 1 9).toNatClampNeg ≤ 8) : cnV W w = cnV V w := by
  have e1 : ∀ k, k < 10 → W 1 k = V 1 k := fun k hk => e 1 k (by decide) (by decide) hk
  unfold cnV
  rw [e1 1 (by decide), e1 2 (by decide), e1 8 (by decide), e1 9 (by decide), e1 5 (by decide), e1 6 (by decide), e1 7 (by decide), metV_eq e h9]
def CNX (b : Prop) (V : VW) (w r l t : Int32) : Prop := (w.toInt = 8 ∧ r.toInt = l.toInt) ∨ (w.toInt = 9 ∧ r.toInt = t.toInt) ∨ ((b ∧ 0 ≤ w.toInt ∧ w.toInt ≤ 7) ∧ r = cnV V w.toInt) ∨ (¬ (b ∧ 0 ≤ w.toInt ∧ w.toInt ≤ 7) ∧ w.toInt ≠ 8 ∧ w.toInt ≠ 9 ∧ r = -1)
theorem CNX.same {b b2 : Prop} {V W : VW} {w r q l l2 t t2 : Int32} (h : CNX b V w r l t) (h2 : CNX b2 W w q l2 t2) (e : EqV V W) (h9 : (V 1 9).toNatClampNeg ≤ 8) (hb : b ↔ b2) (hl : l.toInt = l2.toInt) (ht : t.toInt = t2.toInt) : r = q := by
  rcases h with ⟨h1, h3⟩ | ⟨h1, h3⟩ | ⟨h1, h3⟩ | ⟨h1, h4, h5, h3⟩ <;> rcases h2 with ⟨g1, g3⟩ | ⟨g1, g3⟩ | ⟨g1, g3⟩ | ⟨g1, g4, g5, g3⟩
  all_goals first | exact Int32.toInt_inj.mp (by omega) | (exfalso; omega) | skip
  · rw [h3, g3, cnV_eq e h9]
  · exact absurd ⟨hb.mp h1.1, h1.2⟩ g1
  · exact absurd ⟨hb.mpr g1.1, g1.2⟩ h1
  · rw [h3, g3]
-- days by a law that is told by other tables
theorem hrS_L {L L2 : LWt} (e : ∀ n, n < 6 → L2 n = L n) (p : DS) (n : Nat) : hrS L2 p n = hrS L p n := by
  unfold hrS
  rw [trV_L e]
theorem dyS_L {L L2 : LWt} (e : ∀ n, n < 6 → L2 n = L n) (V : VW) : ∀ n, dyS L2 V n = dyS L V n := by
  intro n
  induction n with
  | zero => rfl
  | succ n ih =>
    show hrS L2 (dyS L2 V n) n = hrS L (dyS L V n) n
    rw [ih, hrS_L e]
theorem blS_L {L L2 : LWt} (e : ∀ n, n < 6 → L2 n = L n) (V : VW) : ∀ n, blS L2 V n = blS L V n := by
  intro n
  induction n with
  | zero => rfl
  | succ n ih =>
    show blS L2 V n + blH (dyS L2 V (n + 1)).1 (hrI n) = blS L V n + blH (dyS L V (n + 1)).1 (hrI n)
    rw [ih, dyS_L e]
theorem dayS_L {L L2 : LWt} (e : ∀ n, n < 6 → L2 n = L n) (V : VW) : dayS L2 V = dayS L V := by
  unfold dayS
  rw [dyS_L e]
theorem dayN_L {L L2 : LWt} (e : ∀ n, n < 6 → L2 n = L n) (V : VW) : ∀ n, dayN L2 V n = dayN L V n := by
  intro n
  induction n with
  | zero => rfl
  | succ n ih =>
    show dayS L2 (dayN L2 V n) = dayS L (dayN L V n)
    rw [ih, dayS_L e]
theorem dayN_6 {L : LWt} {V : VW} : ∀ n : Nat, 0 ≤ (V 1 6).toInt → (V 1 6).toInt + n ≤ 20000 → (dayN L V n 1 6).toInt = (V 1 6).toInt + n := by
  intro n
  induction n with
  | zero => intro _ _; show (V 1 6).toInt = _; omega
  | succ n ih =>
    intro h0 h1
    have h2 := ih h0 (by omega)
    have h3 : dayN L V (n + 1) 1 6 = dayN L V n 1 6 + 1 := dayS_6
    have k1 : (1 : Int32).toInt = 1 := by decide
    have h4 := a_add h3 (by rw [k1]; omega) (by rw [k1]; omega)
    rw [k1] at h4
    omega
def DYW (ok : Prop) (r : Int32) (I I2 : MI) (V W : VW) : Prop := (ok ∧ r = metV V ∧ EqV V W) ∨ (¬ ok ∧ r = -1 ∧ I2 = I)
-- what an ahead answers
noncomputable def ahV (L : LWt) (V : VW) (n : Nat) (w : Int32) : Int32 := if w.toInt = -2 then metV (dayN L V n) else if w.toInt = -1 then blD L V n else dayN L V n 23 w.toNatClampNeg
-- a copy of a town
theorem CPF.eqv {b c : Nat} {I I2 : MI} (h : CPF b c I I2) : EqV (cF c I) (cF b I2) := by
  obtain ⟨h0, h1, h2, h3, h4, h5, h6, h7, h8⟩ := h
  intro n k hn1 hn2 hk
  by_cases e1 : n = 1
  · subst e1
    have hk : k < 10 := hk
    show sC b I2 k = sC c I k
    unfold sC
    have g : ∀ j, j < 10 → I2 b j = I c j := h0
    rcases (show k = 0 ∨ k = 1 ∨ k = 2 ∨ k = 3 ∨ k = 4 ∨ k = 5 ∨ k = 6 ∨ k = 7 ∨ k = 8 ∨ k = 9 by omega) with rfl | rfl | rfl | rfl | rfl | rfl | rfl | rfl | rfl | rfl
    · show (if 0 < (I2 b 0).toInt then (1 : Int32) else 0) = if 0 < (I c 0).toInt then 1 else 0
      rw [g 0 (by decide)]
    · exact g 0 (by decide)
    · exact g 1 (by decide)
    · show 24 * I2 b 3 + I2 b 2 = 24 * I c 3 + I c 2
      rw [g 3 (by decide), g 2 (by decide)]
    · exact g 4 (by decide)
    · exact g 5 (by decide)
    · exact g 6 (by decide)
    · exact g 7 (by decide)
    · exact g 8 (by decide)
    · exact g 9 (by decide)
  · unfold cF
    rw [if_neg e1, if_neg e1]
    have hk' := hk
    unfold wdt at hk'
    rw [if_neg e1] at hk'
    by_cases e2 : n = 2
    · subst e2; show I2 (b + 1) (0 + k) = I (c + 1) (0 + k); rw [Nat.zero_add]; exact h1 k (by simpa using hk')
    by_cases e3 : n = 3
    · subst e3; show I2 (b + 2) (0 + k) = I (c + 2) (0 + k); rw [Nat.zero_add]; exact h2 k (by simpa using hk')
    by_cases e6 : n = 6
    · subst e6; show I2 (b + 3) (0 + k) = I (c + 3) (0 + k); rw [Nat.zero_add]; exact h3 k (by simpa using hk')
    rw [if_neg (by omega)] at hk'
    by_cases e4 : n = 4
    · subst e4; show I2 (b + 5) (0 + k) = I (c + 5) (0 + k); rw [Nat.zero_add]; exact h5 k (by simpa using hk')
    by_cases e5 : n = 5
    · subst e5; show I2 (b + 6) (0 + k) = I (c + 6) (0 + k); rw [Nat.zero_add]; exact h6 k (by simpa using hk')
    rw [if_neg (by omega)] at hk'
    by_cases e7 : n < 17
    · rw [if_pos e7] at hk'
      have a : nc n = 7 := by unfold nc; rw [if_neg e2, if_neg e3, if_neg e4, if_neg e5, if_neg e6, if_pos e7]
      have b' : ofs n = 24 * (n - 7) := by unfold ofs; rw [if_neg (by omega), if_pos e7]
      rw [a, b']
      exact h7 _ (by omega)
    · rw [if_neg e7] at hk'
      have a : nc n = 8 := by unfold nc; rw [if_neg e2, if_neg e3, if_neg e4, if_neg e5, if_neg e6, if_neg e7]
      rw [a]
      refine h8 _ ?_
      rcases (show n = 17 ∨ n = 18 ∨ n = 19 ∨ n = 20 ∨ n = 21 ∨ n = 22 ∨ n = 23 by omega) with rfl | rfl | rfl | rfl | rfl | rfl | rfl <;> simp [ofs] <;> omega
theorem CPF.yly {b c : Nat} {I I2 : MI} (h : CPF b c I I2) (hy : YLY c I) (h8 : (I c 9).toNatClampNeg ≤ 8) : YLY b I2 := fun k hk => by
  rw [h.2.2.2.2.1 k hk, h.1 9 (by decide), hy k hk]
  exact (yo_congr (fun j hj => h.eqv.yds j (by omega))).symm
-- a town is begun
theorem sc0_pos {b : Nat} {I : MI} (h : (cF b I 1 0).toInt = 1) : 0 < (I b 0).toInt := by
  by_cases hq : 0 < (I b 0).toInt
  · exact hq
  · exfalso
    have h2 : (if 0 < (I b 0).toInt then (1 : Int32) else 0).toInt = 1 := h
    rw [if_neg hq] at h2
    exact absurd h2 (by decide)
theorem sc0_iff {b : Nat} {I : MI} : (cF b I 1 0).toInt = 1 ↔ 0 < (I b 0).toInt := by
  refine ⟨sc0_pos, fun h => ?_⟩
  show (if 0 < (I b 0).toInt then (1 : Int32) else 0).toInt = 1
  rw [if_pos h]
  decide
