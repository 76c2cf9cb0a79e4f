-- tables of towns: what calls write
theorem nc_m {w : Nat} (h : w < 10) : nc (7 + w) = 7 ∧ ofs (7 + w) = 24 * w := by
  unfold nc ofs
  constructor
  · rw [if_neg (by omega), if_neg (by omega), if_neg (by omega), if_neg (by omega), if_neg (by omega), if_pos (by omega)]
  · rw [if_neg (by omega), if_pos (by omega), show 7 + w - 7 = w from by omega]
theorem wdt_m {w : Nat} (h : w < 10) : wdt (7 + w) = 24 := by
  unfold wdt
  rw [if_neg (by omega), if_neg (by omega), if_neg (by omega), if_pos (by omega)]
theorem cF_mir {b : Nat} {I : MI} {w k : Nat} {v : Int32} (hw : w < 10) (hk : k < 24) : EqV (stV (cF b I) (7 + w) k v) (cF b (u2 I (b + 7) (24 * w + k) v)) := by
  have h := cF_put (b := b) (I := I) (n := 7 + w) (k := k) (v := v) (by omega) (by rw [wdt_m hw]; exact hk)
  rw [(nc_m hw).1, (nc_m hw).2] at h
  exact h
-- the row of the reference's table in which a row of the class's yards lies
def yrow (w : Nat) : Nat := match w with | 0 => 23 | 1 => 22 | 2 => 21 | n => 14 + n
theorem cF_yrd {b : Nat} {I : MI} {w k : Nat} {v : Int32} (hw : w < 7) (hk : k < 8) : EqV (stV (cF b I) (yrow w) k v) (cF b (u2 I (b + 8) (8 * w + k) v)) := by
  rcases (show w = 0 ∨ w = 1 ∨ w = 2 ∨ w = 3 ∨ w = 4 ∨ w = 5 ∨ w = 6 by omega) with rfl | rfl | rfl | rfl | rfl | rfl | rfl
  · exact cF_put (n := 23) (by decide) hk
  · exact cF_put (n := 22) (by decide) hk
  · exact cF_put (n := 21) (by decide) hk
  · exact cF_put (n := 17) (by decide) hk
  · exact cF_put (n := 18) (by decide) hk
  · exact cF_put (n := 19) (by decide) hk
  · exact cF_put (n := 20) (by decide) hk
theorem EqV.st {V W X : VW} {n k : Nat} {v : Int32} (h : EqV V W) (h2 : EqV (stV W n k v) X) : EqV (stV V n k v) X := (stV_eq h n k v).tr h2
-- names that a frame leaves alone
theorem cF_fr {R P : List (Nat × Nat)} {I I2 : MI} {b : Nat} (h : Kp R P I I2) (hc : apb b R P = true) : cF b I2 = cF b I := cF_kp (fun n h1 h2 => h.ap hc n h1 h2)
-- one place of the reference's tables
theorem live_put {I : MI} {n k : Nat} {v : Int32} : live (u2 I (1000 + n) k v) = stV (live I) n k v := by
  funext m j
  unfold live stV
  rw [u2_v]
  by_cases hq : m = n ∧ j = k
  · rw [if_pos ⟨by omega, hq.2⟩, if_pos hq]
  · rw [if_neg (by omega), if_neg hq]
theorem live_ne {I : MI} {n k : Nat} {v : Int32} (h : n ≤ 1000 ∨ 1024 ≤ n) : EqV (live I) (live (u2 I n k v)) := fun m j h1 h2 _ => by
  unfold live
  rw [u2_ne _ _ _ (by omega)]
theorem live_fr {R P : List (Nat × Nat)} {I I2 : MI} (h : Kp R P I I2) (hc : apm R P = true) : EqV (live I) (live I2) := fun n k h1 h2 _ => by
  unfold live
  rw [h.apm hc _ (by omega) (by omega)]
-- a new mirror
def mirV (V : VW) (c : Nat) (x y s l t r o : Int32) : VW := fun m j => if m = 1 ∧ j = 8 then V 1 8 + 1 else if m = 6 ∧ j = c then V 1 8 else if 7 ≤ m ∧ m ≤ 16 ∧ j = (V 1 8).toNatClampNeg then (match m with | 7 => x | 8 => y | 9 => s | 10 => l | 11 => t | 12 => r | 13 => o | 14 => 0 | 15 => 0 | _ => -1) else V m j
-- a new yard
def yrdV (V : VW) (x y x2 y2 t w : Int32) : VW := fun m j => if m = 1 ∧ j = 9 then V 1 9 + 1 else if 17 ≤ m ∧ m ≤ 23 ∧ j = (V 1 9).toNatClampNeg then (match m with | 17 => x | 18 => y | 19 => x2 | 20 => y2 | 21 => t | 22 => w | _ => 0) else V m j
-- a new town
def twnV (V : VW) (a b x y z : Int32) : VW := fun m j => if m = 1 then (match j with | 0 => 1 | 1 => a | 2 => b | 3 => 24 * y + x | 4 => z | _ => 0) else if m = 2 ∨ m = 5 then 0 else if m = 3 ∨ m = 4 ∨ m = 6 then -1 else V m j
theorem mirV_eq {V W : VW} (h : EqV V W) {c : Nat} {x y s l t r o : Int32} : EqV (mirV V c x y s l t r o) (mirV W c x y s l t r o) := fun m j h1 h2 hj => by
  unfold mirV
  rw [h 1 8 (by decide) (by decide) (by decide), h m j h1 h2 hj]
theorem yrdV_eq {V W : VW} (h : EqV V W) {x y x2 y2 t w : Int32} : EqV (yrdV V x y x2 y2 t w) (yrdV W x y x2 y2 t w) := fun m j h1 h2 hj => by
  unfold yrdV
  rw [h 1 9 (by decide) (by decide) (by decide), h m j h1 h2 hj]
theorem twnV_eq {V W : VW} (h : EqV V W) {a b x y z : Int32} : EqV (twnV V a b x y z) (twnV W a b x y z) := fun m j h1 h2 hj => by
  unfold twnV
  rw [h m j h1 h2 hj]
theorem mirV_st {V : VW} {c : Nat} {x y s l t r o n : Int32} {k : Nat} (hn : n = V 1 8 + 1) (hk : k = (V 1 8).toNatClampNeg) : stV (stV (stV (stV (stV (stV (stV (stV (stV (stV (stV (stV V 1 8 n) 6 c (V 1 8)) 7 k x) 8 k y) 14 k 0) 15 k 0) 16 k (-1)) 9 k s) 10 k l) 11 k t) 12 k r) 13 k o = mirV V c x y s l t r o := by
  subst hn hk
  funext m j
  unfold stV mirV
  by_cases h1 : m = 1 ∧ j = 8
  · obtain ⟨rfl, rfl⟩ := h1; simp
  · by_cases h2 : m = 6 ∧ j = c
    · obtain ⟨rfl, rfl⟩ := h2; simp
    · by_cases h3 : 7 ≤ m ∧ m ≤ 16 ∧ j = (V 1 8).toNatClampNeg
      · obtain ⟨h4, h5, rfl⟩ := h3
        rcases (show m = 7 ∨ m = 8 ∨ m = 9 ∨ m = 10 ∨ m = 11 ∨ m = 12 ∨ m = 13 ∨ m = 14 ∨ m = 15 ∨ m = 16 by omega) with rfl | rfl | rfl | rfl | rfl | rfl | rfl | rfl | rfl | rfl <;> simp
      · rw [if_neg (fun z => h3 (by omega)), if_neg (fun z => h3 (by omega)), if_neg (fun z => h3 (by omega)), if_neg (fun z => h3 (by omega)), if_neg (fun z => h3 (by omega)), if_neg (fun z => h3 (by omega)), if_neg (fun z => h3 (by omega)), if_neg (fun z => h3 (by omega)), if_neg (fun z => h3 (by omega)), if_neg (fun z => h3 (by omega)), if_neg h2, if_neg h1, if_neg h1, if_neg h2, if_neg h3]
theorem mirV_sm {V : VW} {c : Nat} {x y s l t r o n : Int32} {k : Nat} (hn : n = V 1 8 + 1) (hk : k = (V 1 8).toNatClampNeg) : stV (stV (stV (stV (stV (stV (stV (stV (stV (stV (stV (stV V 7 k x) 8 k y) 9 k s) 10 k l) 11 k t) 12 k r) 13 k o) 14 k 0) 15 k 0) 16 k (-1)) 6 c (V 1 8)) 1 8 n = mirV V c x y s l t r o := by
  subst hn hk
  funext m j
  unfold stV mirV
  by_cases h1 : m = 1 ∧ j = 8
  · obtain ⟨rfl, rfl⟩ := h1; simp
  · by_cases h2 : m = 6 ∧ j = c
    · obtain ⟨rfl, rfl⟩ := h2; simp
    · by_cases h3 : 7 ≤ m ∧ m ≤ 16 ∧ j = (V 1 8).toNatClampNeg
      · obtain ⟨h4, h5, rfl⟩ := h3
        rcases (show m = 7 ∨ m = 8 ∨ m = 9 ∨ m = 10 ∨ m = 11 ∨ m = 12 ∨ m = 13 ∨ m = 14 ∨ m = 15 ∨ m = 16 by omega) with rfl | rfl | rfl | rfl | rfl | rfl | rfl | rfl | rfl | rfl <;> simp
      · rw [if_neg h1, if_neg h2, if_neg (fun z => h3 (by omega)), if_neg (fun z => h3 (by omega)), if_neg (fun z => h3 (by omega)), if_neg (fun z => h3 (by omega)), if_neg (fun z => h3 (by omega)), if_neg (fun z => h3 (by omega)), if_neg (fun z => h3 (by omega)), if_neg (fun z => h3 (by omega)), if_neg (fun z => h3 (by omega)), if_neg (fun z => h3 (by omega)), if_neg h1, if_neg h2, if_neg h3]
theorem yrdV_st {V : VW} {x y x2 y2 t w n : Int32} {k : Nat} (hn : n = V 1 9 + 1) (hk : k = (V 1 9).toNatClampNeg) : stV (stV (stV (stV (stV (stV (stV (stV V 1 9 n) 23 k 0) 17 k x) 18 k y) 19 k x2) 20 k y2) 21 k t) 22 k w = yrdV V x y x2 y2 t w := by
  subst hn hk
  funext m j
  unfold stV yrdV
  by_cases h1 : m = 1 ∧ j = 9
  · obtain ⟨rfl, rfl⟩ := h1; simp
  · by_cases h3 : 17 ≤ m ∧ m ≤ 23 ∧ j = (V 1 9).toNatClampNeg
    · obtain ⟨h4, h5, rfl⟩ := h3
      rcases (show m = 17 ∨ m = 18 ∨ m = 19 ∨ m = 20 ∨ m = 21 ∨ m = 22 ∨ m = 23 by omega) with rfl | rfl | rfl | rfl | rfl | rfl | rfl <;> simp
    · rw [if_neg (fun z => h3 (by omega)), if_neg (fun z => h3 (by omega)), if_neg (fun z => h3 (by omega)), if_neg (fun z => h3 (by omega)), if_neg (fun z => h3 (by omega)), if_neg (fun z => h3 (by omega)), if_neg (fun z => h3 (by omega)), if_neg h1, if_neg h1, if_neg h3]
theorem yrdV_sm {V : VW} {x y x2 y2 t w n : Int32} {k : Nat} (hn : n = V 1 9 + 1) (hk : k = (V 1 9).toNatClampNeg) : stV (stV (stV (stV (stV (stV (stV (stV V 17 k x) 18 k y) 19 k x2) 20 k y2) 21 k t) 22 k w) 23 k 0) 1 9 n = yrdV V x y x2 y2 t w := by
  subst hn hk
  funext m j
  unfold stV yrdV
  by_cases h1 : m = 1 ∧ j = 9
  · obtain ⟨rfl, rfl⟩ := h1; simp
  · by_cases h3 : 17 ≤ m ∧ m ≤ 23 ∧ j = (V 1 9).toNatClampNeg
    · obtain ⟨h4, h5, rfl⟩ := h3
      rcases (show m = 17 ∨ m = 18 ∨ m = 19 ∨ m = 20 ∨ m = 21 ∨ m = 22 ∨ m = 23 by omega) with rfl | rfl | rfl | rfl | rfl | rfl | rfl <;> simp
    · rw [if_neg h1, if_neg (fun z => h3 (by omega)), if_neg (fun z => h3 (by omega)), if_neg (fun z => h3 (by omega)), if_neg (fun z => h3 (by omega)), if_neg (fun z => h3 (by omega)), if_neg (fun z => h3 (by omega)), if_neg (fun z => h3 (by omega)), if_neg h1, if_neg h3]
theorem nc_4 (n : Nat) : nc n ≠ 4 := by
  unfold nc
  (repeat' split) <;> omega
theorem cF_y4 {b : Nat} {I : MI} {k : Nat} {v : Int32} : cF b (u2 I (b + 4) k v) = cF b I := by
  funext n j
  unfold cF
  by_cases hq : n = 1
  · rw [if_pos hq, if_pos hq]
    unfold sC
    rw [u2_ne _ _ _ (by omega)]
  · rw [if_neg hq, if_neg hq, u2_ne _ _ _ (by have := nc_4 n; omega)]
theorem cF_at {b : Nat} {I : MI} {n k : Nat} {v : Int32} (hn : 2 ≤ n ∧ n ≤ 6) (hk : k < wdt n) : EqV (stV (cF b I) n k v) (cF b (u2 I (b + nc n) k v)) := by
  have h := cF_put (b := b) (I := I) (n := n) (k := k) (v := v) (by omega) hk
  rw [show ofs n + k = k from by unfold ofs; rw [if_pos (by omega), Nat.zero_add]] at h
  exact h
theorem live_st {V : VW} {I : MI} {n k : Nat} {v : Int32} (h : EqV V (live I)) : EqV (stV V n k v) (live (u2 I (1000 + n) k v)) := by
  rw [live_put]
  exact stV_eq h n k v
theorem EqV.of {V W X : VW} (h : EqV V W) (e : V = X) : EqV X W := by rw [← e]; exact h
def ADT (ok : Prop) (r v : Int32) (I I2 : MI) (V W : VW) : Prop := (ok ∧ r = v ∧ EqV V W) ∨ (¬ ok ∧ r = -1 ∧ I2 = I)
def SNT (ok : Prop) (r : Int32) (I I2 : MI) (V W : VW) : Prop := (ok ∧ r = 1 ∧ EqV V W) ∨ (¬ ok ∧ r = 0 ∧ I2 = I)
def SET (ok : Prop) (r v : Int32) (I I2 : MI) (V W : VW) : Prop := (ok ∧ r = v ∧ EqV V W) ∨ (¬ ok ∧ r = -2 ∧ I2 = I)
-- which row sets() changes
def srow (a : Int32) : Nat := if a.toInt = 0 then 9 else if a.toInt = 1 then 14 else if a.toInt = 2 then 15 else 16
def okE (a n : Int32) : Prop := (a.toInt = 0 ∧ 0 ≤ n.toInt ∧ n.toInt ≤ 7) ∨ (a.toInt = 1 ∧ 0 ≤ n.toInt ∧ n.toInt ≤ 1000) ∨ (a.toInt = 2 ∧ 0 ≤ n.toInt ∧ n.toInt ≤ 1) ∨ (a.toInt = 3 ∧ -1 ≤ n.toInt ∧ n.toInt ≤ 99999)
