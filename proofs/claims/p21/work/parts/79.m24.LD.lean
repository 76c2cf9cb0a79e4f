-- the reference puts its town back
def KM (I I2 : MI) : Prop := EqV (live I) (live I2)
def apx (ex : List Nat) (R P : List (Nat × Nat)) : Bool := (List.range 23).all (fun i => ex.contains (1001 + i) || (!(inR R (1001 + i)) && P.all (fun q => q.1 != 1001 + i)))
theorem KM.of {R P : List (Nat × Nat)} {I I2 : MI} (ex : List Nat) (hK : Kp R P I I2) (hc : apx ex R P = true) (h : ∀ n ∈ ex, ∀ k, k < wdt (n - 1000) → I2 n k = I n k) : KM I I2 := fun n k h1 h2 hk => by
  show I2 (1000 + n) k = I (1000 + n) k
  unfold apx at hc
  have h3 := List.all_eq_true.mp hc (n - 1) (List.mem_range.mpr (by omega))
  rw [show 1001 + (n - 1) = 1000 + n from by omega, Bool.or_eq_true, Bool.and_eq_true] at h3
  rcases h3 with h3 | ⟨h3, h4⟩
  · exact h (1000 + n) (by simpa using h3) k (by rw [show 1000 + n - 1000 = n from by omega]; exact hk)
  · refine hK _ _ (by simpa using h3) ?_
    cases hq : P.contains (1000 + n, k) with
    | false => rfl
    | true =>
      exfalso
      have h5 : (1000 + n, k) ∈ P := by simpa using hq
      have h6 := List.all_eq_true.mp h4 _ h5
      simp at h6
def CPX (a b n : Nat) (I I2 : MI) : Prop := ∀ j, j < n → I2 b j = I a j
theorem cp_step {a b : Nat} {I J : MI} {k k2 : Int32} (h : ∀ j, j < k.toNatClampNeg → J b j = I a j) (hab : b ≠ a) (ha : J a = I a) (h0 : 0 ≤ k.toInt) (e : k2.toInt = k.toInt + 1) : ∀ j, j < k2.toNatClampNeg → u2 J b k.toNatClampNeg (J a k.toNatClampNeg) b j = I a j := fun j hj => by
  have z1 := tn h0
  have z2 := tn (i := k2) (by omega)
  rw [u2_v]
  by_cases hq : j = k.toNatClampNeg
  · rw [if_pos ⟨rfl, hq⟩, ha, hq]
  · rw [if_neg (fun z => hq z.2)]; exact h j (by omega)
