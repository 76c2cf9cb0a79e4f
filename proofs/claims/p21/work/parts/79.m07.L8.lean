-- the reference's light, told
def apm (R P : List (Nat × Nat)) : Bool := R.all (fun r => decide (r.2 ≤ 1001) || decide (1024 ≤ r.1)) && P.all (fun q => decide (q.1 < 1001) || decide (1024 ≤ q.1))
theorem Kp.apm {R P : List (Nat × Nat)} {I I2 : MI} (h : Kp R P I I2) (hc : apm R P = true) (n : Nat) (h1 : 1001 ≤ n) (h2 : n ≤ 1023) : I2 n = I n := by
  unfold Jvm.Pilot.COneSunbeamLaw_law_r1578_235cb1.apm at hc
  simp only [Bool.and_eq_true, List.all_eq_true, Bool.or_eq_true, decide_eq_true_eq] at hc
  funext k
  refine h n k ?_ ?_
  · cases hq : inR R n with
    | false => rfl
    | true =>
      exfalso
      obtain ⟨r, hr, hb⟩ := List.any_eq_true.mp hq
      have h3 := hc.1 r hr
      simp only [Bool.and_eq_true, decide_eq_true_eq] at hb
      omega
  · cases hq : P.contains (n, k) with
    | false => rfl
    | true =>
      exfalso
      have h3 : (n, k) ∈ P := by simpa using hq
      have h4 := hc.2 (n, k) h3
      simp only at h4
      omega
theorem twM_kp {R P : List (Nat × Nat)} {I I2 : MI} (h : Kp R P I I2) (hc : apm R P = true) : twM I2 = twM I := twM_of (fun n h1 h2 => h.apm hc n h1 h2)
theorem sX_of {a r : Int32} (h : 0 ≤ a.toInt ∧ a.toInt ≤ 7) (hr : ((a.toInt = 0 ∨ a.toInt = 1 ∨ a.toInt = 7) ∧ r = 1) ∨ ((a.toInt = 3 ∨ a.toInt = 4 ∨ a.toInt = 5) ∧ r = -1) ∨ ((a.toInt = 2 ∨ a.toInt = 6) ∧ r = 0)) : r = sX a := by
  have t := tn h.1
  unfold sX
  rcases hr with ⟨q, rfl⟩ | ⟨q, rfl⟩ | ⟨q, rfl⟩
  · rcases q with q | q | q
    · rw [show a.toNatClampNeg = 0 from by omega]; rfl
    · rw [show a.toNatClampNeg = 1 from by omega]; rfl
    · rw [show a.toNatClampNeg = 7 from by omega]; rfl
  · rcases q with q | q | q
    · rw [show a.toNatClampNeg = 3 from by omega]; rfl
    · rw [show a.toNatClampNeg = 4 from by omega]; rfl
    · rw [show a.toNatClampNeg = 5 from by omega]; rfl
  · rcases q with q | q
    · rw [show a.toNatClampNeg = 2 from by omega]; rfl
    · rw [show a.toNatClampNeg = 6 from by omega]; rfl
theorem sY_of {a r : Int32} (h : 0 ≤ a.toInt ∧ a.toInt ≤ 7) (hr : ((a.toInt = 1 ∨ a.toInt = 2 ∨ a.toInt = 3) ∧ r = 1) ∨ ((a.toInt = 5 ∨ a.toInt = 6 ∨ a.toInt = 7) ∧ r = -1) ∨ ((a.toInt = 0 ∨ a.toInt = 4) ∧ r = 0)) : r = sY a := by
  have t := tn h.1
  unfold sY
  rcases hr with ⟨q, rfl⟩ | ⟨q, rfl⟩ | ⟨q, rfl⟩
  · rcases q with q | q | q
    · rw [show a.toNatClampNeg = 1 from by omega]; rfl
    · rw [show a.toNatClampNeg = 2 from by omega]; rfl
    · rw [show a.toNatClampNeg = 3 from by omega]; rfl
  · rcases q with q | q | q
    · rw [show a.toNatClampNeg = 5 from by omega]; rfl
    · rw [show a.toNatClampNeg = 6 from by omega]; rfl
    · rw [show a.toNatClampNeg = 7 from by omega]; rfl
  · rcases q with q | q
    · rw [show a.toNatClampNeg = 0 from by omega]; rfl
    · rw [show a.toNatClampNeg = 4 from by omega]; rfl
theorem of_nat {a : Int32} {n : Nat} (h : a.toInt = n) : a = Int32.ofInt n := Int32.toInt_inj.mp (by rw [h, ← h, Int32.ofInt_toInt])
theorem and7_lem : ∀ a b : Fin 8, ((Int32.ofInt (a.val : Int) - Int32.ofInt (b.val : Int)) &&& 7).toInt = ((a.val : Int) - (b.val : Int) + 8) % 8 := by decide
theorem and7 {a b v : Int32} (ha : 0 ≤ a.toInt ∧ a.toInt ≤ 7) (hb : 0 ≤ b.toInt ∧ b.toInt ≤ 7) (hv : v.toInt = (a.toInt - b.toInt + 8) % 8) : v = (a - b) &&& 7 := by
  have ta := tn ha.1
  have tb := tn hb.1
  have h := and7_lem ⟨a.toNatClampNeg, by omega⟩ ⟨b.toNatClampNeg, by omega⟩
  simp only at h
  rw [← of_nat (a := a) (by omega), ← of_nat (a := b) (by omega)] at h
  apply Int32.toInt_inj.mp
  rw [hv, h, ta, tb]
theorem lsT_le {T : TN} {k : Nat} {v : Int32} (e : v = T.los k + T.dus k) (h : v.toInt ≤ 1000) : v = lsT T k := by
  unfold lsT
  rw [← e]
  by_cases hq : v.toInt < 1000
  · rw [if_pos hq]
  · rw [if_neg hq]
    exact Int32.toInt_inj.mp (by rw [show (1000 : Int32).toInt = 1000 from rfl]; omega)
theorem lsT_gt {T : TN} {k : Nat} {v : Int32} (e : v = T.los k + T.dus k) (h : 1000 < v.toInt) : (1000 : Int32) = lsT T k := by
  unfold lsT
  rw [← e, if_neg (by omega)]
theorem lsT_r {T : TN} {k : Nat} (h1 : 0 ≤ (T.los k).toInt ∧ (T.los k).toInt ≤ 1000) (h2 : 0 ≤ (T.dus k).toInt ∧ (T.dus k).toInt ≤ 1000) : 0 ≤ (lsT T k).toInt ∧ (lsT T k).toInt ≤ 1000 := by
  have h3 : (T.los k + T.dus k).toInt = (T.los k).toInt + (T.dus k).toInt := a_add rfl (by omega) (by omega)
  unfold lsT
  split
  · omega
  · decide
-- a town that the reference's light can go through
def SUNk (I : MI) : Prop := ∀ j, j < 288 → (-1 ≤ (I 1004 j).toInt ∧ (I 1004 j).toInt ≤ 7) ∧ 0 ≤ (I 1005 j).toInt ∧ (I 1005 j).toInt ≤ 99999
def MOK (I : MI) : Prop := (I 1001 0).toInt = 1 ∧ (I 1000 59).toInt = 0 ∧ (0 ≤ (I 1001 3).toInt ∧ (I 1001 3).toInt < 576) ∧ TRk (twM I) ∧ SUNk I
def SHH (I J : MI) (c w s : Int32) : Prop := ∃ S2, LSM J S2 ∧ ∀ x y : Int32, x.toInt = c.toInt % 24 → y.toInt = c.toInt / 24 → shineP (twM I) x y w s = (nM J, S2)
def GZ (I : MI) : Prop := ∀ k, k < 8 → I 1050 k = 0
def PZ (I : MI) : Prop := ∀ c, c < 576 → I 1049 c = 0
theorem MOK.kp {R P : List (Nat × Nat)} {I I2 : MI} (h : MOK I) (hK : Kp R P I I2) (hc : apm R P = true) (h59 : I2 1000 59 = I 1000 59) : MOK I2 := by
  have e := fun n a b => hK.apm hc n a b
  unfold MOK SUNk
  rw [e 1001 (by decide) (by decide), e 1004 (by decide) (by decide), e 1005 (by decide) (by decide), twM_kp hK hc, h59]
  exact h
theorem LSM.zero {J : MI} (g : GZ J) (p : PZ J) (h2 : J 1000 53 = 0) (h3 : J 1000 54 = 0) (h5 : J 1000 56 = 1) (h12 : J 1000 52 = 0) : LSM J SZ := by
  refine ⟨fun k hk => g k hk, fun c hc => p c hc, ⟨h2, h3, h5⟩, by rw [h12]; rfl, fun i e hq => ?_⟩
  simp [SZ, SN.q] at hq
theorem i32 {c : Int32} {z : Int} (h : -2147483648 ≤ z ∧ z < 2147483648) (e : c = Int32.ofInt z) : c.toInt = z := by
  subst e
  rw [Int32.toInt_ofInt, show (Int32.size : Nat) = 4294967296 from rfl]
  exact Int.bmod_eq_of_le (by omega) (by omega)
