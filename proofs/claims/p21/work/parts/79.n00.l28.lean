-- what a search answers, as a function of the town's table: sees
def w1 (s : Int32) : Int32 := s + 1 - (s + 1) / 8 * 8
def seS (f g : Nat → Int32) : Nat → Int32
  | 0 => 0
  | n + 1 => if f n = g n then seS f g n else seS f g n ||| (1 <<< (hrI n &&& 31))
theorem seS_n {f g : Nat → Int32} {n : Nat} {x y : Int32} (h : x = y) (hx : x = f n) (hy : y = g n) : seS f g (n + 1) = seS f g n := by
  show (if f n = g n then _ else _) = _
  rw [if_pos (by rw [← hx, ← hy]; exact h)]
theorem seS_y {f g : Nat → Int32} {n : Nat} {x y k : Int32} (h : x ≠ y) (hx : x = f n) (hy : y = g n) (hk : k.toNatClampNeg = n) (h0 : 0 ≤ k.toInt) : seS f g (n + 1) = seS f g n ||| (1 <<< (k &&& 31)) := by
  show (if f n = g n then _ else _) = _
  rw [if_neg (by rw [← hx, ← hy]; exact h), ← hk, hrI_of h0]
theorem seS_z {f g : Nat → Int32} {n : Nat} : ∀ d : Nat, (∀ k, n ≤ k → k < n + d → f k = g k) → seS f g (n + d) = seS f g n := by
  intro d
  induction d with
  | zero => intro _; rfl
  | succ d ih =>
    intro h
    have := ih (fun k a b => h k a (by omega))
    show seS f g ((n + d) + 1) = seS f g n
    rw [seS_n (h (n + d) (by omega) (by omega)) rfl rfl, this]
noncomputable def seV (V : VW) (h : Int32) (k : Nat) : Int32 := seS (shV (stV V 9 k (w1 (V 9 k))) h).2.got (shV V h).2.got 8
theorem seV_eq {V W : VW} {h : Int32} {k : Nat} (hV : OKW V) (e : EqV V W) (hh : 0 ≤ h.toInt ∧ h.toInt < 24) (hk : k < 24) : seV W h k = seV V h k := by
  have e9 : W 9 k = V 9 k := e 9 k (by decide) (by decide) hk
  have hV2 : OKW (stV V 9 k (w1 (V 9 k))) := hV.of ⟨rfl, rfl, rfl, rfl, rfl⟩ rfl ⟨rfl, rfl, rfl, rfl⟩
  unfold seV
  rw [e9, shV_eq hV e hh, shV_eq hV2 (stV_eq e 9 k (w1 (V 9 k))) hh]
theorem YLY.r8 {b : Nat} {I J : MI} (h : YLY b I) (h4 : J (b + 4) = I (b + 4)) (h8 : J (b + 8) = I (b + 8)) (h9 : J b 9 = I b 9) (hn : (I b 9).toNatClampNeg ≤ 8) : YLY b J := h.of h4 h9 (fun k hk => by
  have e : ∀ n, (n = 17 ∨ n = 18 ∨ n = 19 ∨ n = 20) → cF b J n k = cF b I n k := fun n hq => by
    unfold cF
    rw [if_neg (by omega), if_neg (by omega)]
    rcases hq with rfl | rfl | rfl | rfl <;> exact congrFun h8 _
  exact ⟨e 17 (by omega), e 18 (by omega), e 19 (by omega), e 20 (by omega)⟩) hn
theorem seeV {V : VW} {h v : Int32} {k n m : Nat} {S T : SN} (hA : shV V h = (n, S)) (hB : shV (stV V (7 + (2 : Int32).toNatClampNeg) k v) h = (m, T)) (hv : v = w1 (V 9 k)) : seS T.got S.got 8 = seV V h k := by
  have hB : shV (stV V 9 k v) h = (m, T) := hB
  rw [hv] at hB
  unfold seV
  rw [hA, hB]
-- one slant, one mirror that breaks
theorem RKw.m9 {V : VW} {k : Nat} {v : Int32} (h : RKw V) (hv : 0 ≤ v.toInt ∧ v.toInt ≤ 7) : RKw (stV V 9 k v) := by
  obtain ⟨h1, h8, h9, h10, h11⟩ := h
  refine ⟨h1, h8, h9, fun j hj => ?_, h11⟩
  obtain ⟨g1, g2⟩ := h10 j hj
  refine ⟨?_, g2⟩
  unfold stV
  by_cases hq : 9 = 9 ∧ j = k
  · rw [if_pos hq]; exact hv
  · rw [if_neg hq]; exact g1
theorem OKW.m9 {V : VW} {k : Nat} {v : Int32} (h : OKW V) : OKW (stV V 9 k v) := h.of ⟨rfl, rfl, rfl, rfl, rfl⟩ rfl ⟨rfl, rfl, rfl, rfl⟩
theorem w1_r {s : Int32} (h : 0 ≤ s.toInt ∧ s.toInt ≤ 7) : 0 ≤ (w1 s).toInt ∧ (w1 s).toInt ≤ 7 := by
  have hm : ∀ k : Fin 8, 0 ≤ (w1 (Int32.ofNat k.val)).toInt ∧ (w1 (Int32.ofNat k.val)).toInt ≤ 7 := by decide
  have ht := tn h.1
  have h2 := hm ⟨s.toNatClampNeg, by omega⟩
  have e : Int32.ofNat s.toNatClampNeg = s := by
    apply Int32.toInt_inj.mp
    rw [Int32.toInt_ofNat_of_lt (by omega), ht]
  simp only at h2
  rw [e] at h2
  exact h2
theorem or_z0 (x : Int32) : x ||| 0 = x := Int32.or_zero
-- what all yards get
-- mirrors of a set that break, one, those of an owner
noncomputable def bkV (V : VW) (x : Int32) : VW := fun n j => @ite Int32 (n = 15 ∧ j < (V 1 8).toNatClampNeg ∧ bitA x j) (Classical.propDecidable _) 1 (V n j)
theorem bkV_ne {V : VW} {x : Int32} {n j : Nat} (h : n ≠ 15) : bkV V x n j = V n j := if_neg (fun z => h z.1)
theorem OKW.bk {V : VW} {x : Int32} (h : OKW V) : OKW (bkV V x) := h.of ⟨bkV_ne (by decide), bkV_ne (by decide), bkV_ne (by decide), bkV_ne (by decide), bkV_ne (by decide)⟩ (funext fun _ => bkV_ne (by decide)) ⟨funext fun _ => bkV_ne (by decide), funext fun _ => bkV_ne (by decide), funext fun _ => bkV_ne (by decide), funext fun _ => bkV_ne (by decide)⟩
-- the answers are the same
theorem ans_sees {I I1 : MI} {r q a b : Int32} (h : TWK I 100 (live I)) (hO : OKW (cF 100 I)) (c1 : ∀ n, 1000 ≤ n → I1 n = I n) (y1 : ANW (okL (cF 100 I) a ∧ 0 ≤ b.toInt ∧ b.toInt < (cF 100 I 1 8).toInt) r (seV (cF 100 I) a b.toNatClampNeg) (-1)) (y2 : ANW (okL (live I1) a ∧ 0 ≤ b.toInt ∧ b.toInt < (live I1 1 8).toInt) q (seV (live I1) a b.toNatClampNeg) (-1)) : r = q := y1.same y2 (and_congr (okL_live h hO c1) (by rw [live_out c1, h.1 1 8 (by decide) (by decide) (by decide)])) (fun hh => by
  rw [live_out c1]
  have t := tn hh.2.1
  have g8 := hO.n8
  have t8 := tn hO.2.1.1
  exact (seV_eq hO h.1 hh.1.2.1 (by omega)).symm)
theorem seeM {V : VW} {h v : Int32} {k n m : Nat} {S T : SN} (hV : OKW V) (hA : shV V h = (n, S)) (hB : shV (stV V 9 k v) h = (m, T)) (hv : v = w1 (V 9 k)) : seS T.got S.got (V 1 9).toNatClampNeg = seV V h k := by
  have h9 := hV.n9
  rw [hv] at hB
  have hz := seS_z (f := T.got) (g := S.got) (n := (V 1 9).toNatClampNeg) (8 - (V 1 9).toNatClampNeg) (fun j h1 _ => by
    have e1 := shV_g (h := h) hV h1
    have e2 := shV_g (V := stV V 9 k (w1 (V 9 k))) (h := h) (OKW.m9 hV) h1
    rw [hA] at e1
    rw [hB] at e2
    exact e2.trans e1.symm)
  rw [show (V 1 9).toNatClampNeg + (8 - (V 1 9).toNatClampNeg) = 8 from by omega] at hz
  unfold seV
  rw [hA, hB, ← hz]
