-- set bits
def cb (u : Nat) : Nat → Nat
  | 0 => 0
  | k + 1 => cb u k + u / 2 ^ k % 2
theorem cb_half (u k : Nat) : cb u (k + 1) = u % 2 + cb (u / 2) k := by
  induction k with
  | zero => simp [cb]
  | succ k ih =>
    rw [cb, ih, cb]
    have : u / 2 ^ (k + 1) = u / 2 / 2 ^ k := by rw [Nat.div_div_eq_div_mul, Nat.pow_succ, Nat.mul_comm]
    rw [this]
    omega
theorem cb_clear : ∀ (k u : Nat), 0 < u → u < 2 ^ k → cb (u &&& (u - 1)) k + 1 = cb u k := by
  intro k
  induction k with
  | zero => intro u h1 h2; simp at h2; omega
  | succ k ih =>
    intro u h1 h2
    rw [cb_half, cb_half]
    have e1 : (u &&& (u - 1)) / 2 = u / 2 &&& (u - 1) / 2 := Nat.and_div_two
    have e2 : (u &&& (u - 1)) % 2 = u % 2 &&& (u - 1) % 2 := Nat.and_mod_two_pow (n := 1)
    rw [e1, e2]
    rcases Nat.mod_two_eq_zero_or_one u with h | h
    · have h3 : (u - 1) / 2 = u / 2 - 1 := by omega
      rw [h3, h, Nat.zero_and]
      have := ih (u / 2) (by omega) (by rw [Nat.pow_succ] at h2; omega)
      omega
    · have h3 : (u - 1) / 2 = u / 2 := by omega
      have h4 : (u - 1) % 2 = 0 := by omega
      rw [h3, h4, Nat.and_zero, Nat.and_self, h]
      omega
theorem cb_mono (u : Nat) {j k : Nat} (h : j ≤ k) : cb u j ≤ cb u k := by
  induction k with
  | zero => simp [Nat.le_zero.mp h]
  | succ k ih =>
    rcases Nat.lt_or_ge k j with h1 | h1
    · have : j = k + 1 := by omega
      rw [this]
      exact Nat.le_refl _
    · rw [cb]
      have := ih h1
      omega
theorem cb_top (u : Nat) {j k : Nat} (h : j ≤ k) (hu : u < 2 ^ j) : cb u k = cb u j := by
  induction k with
  | zero => simp [Nat.le_zero.mp h]
  | succ k ih =>
    rcases Nat.lt_or_ge k j with h1 | h1
    · have : j = k + 1 := by omega
      rw [this]
    · rw [cb, ih h1]
      have : u / 2 ^ k = 0 := Nat.div_eq_of_lt (Nat.lt_of_lt_of_le hu (Nat.pow_le_pow_right (by decide) h1))
      rw [this]
      simp
/-- the bits of a number, as a natural one -/
def un (x : Int32) : Nat := x.toBitVec.toNat
theorem un_lt (x : Int32) : un x < 2 ^ 32 := x.toBitVec.isLt
theorem un_nz {x : Int32} (h : ¬ x = 0) : 0 < un x := by
  rcases Nat.eq_zero_or_pos (un x) with h1 | h1
  · exfalso
    apply h
    apply Int32.toBitVec_inj.mp
    apply BitVec.eq_of_toNat_eq
    exact h1
  · exact h1
theorem un_step {x v t : Int32} (h : ¬ x = 0) (ht : t = x - 1) (hv : v = x &&& t) : un v = un x &&& (un x - 1) := by
  have h0 := un_nz h
  have h1 := un_lt x
  subst ht
  subst hv
  show (x &&& (x - 1)).toBitVec.toNat = _
  rw [Int32.toBitVec_and, BitVec.toNat_and]
  have : (x - 1).toBitVec.toNat = un x - 1 := by
    rw [Int32.toBitVec_sub, BitVec.toNat_sub]
    show (2 ^ 32 - 1 + un x) % 2 ^ 32 = un x - 1
    omega
  rw [this]
  rfl
theorem un_nn {x : Int32} (h : 0 ≤ x.toInt) : (un x : Int) = x.toInt := by
  have h1 : x.toInt = x.toBitVec.toInt := rfl
  have h2 := BitVec.toInt_eq_msb_cond x.toBitVec
  have h3 := un_lt x
  have h4 : x.toBitVec.toNat = un x := rfl
  split at h2
  · omega
  · omega
theorem sh_n : ∀ n : Fin 32, ((Int32.ofNat n.val &&& 31).toBitVec.smod 32).toNat = n.val := by decide +kernel
theorem a_shr {x y v : Int32} {k : Nat} (h : v = x >>> (y &&& 31)) (hy : y.toInt = k) (hk : k < 32) : v.toInt = x.toInt / 2 ^ k := by
  have ey : y = Int32.ofNat k := Int32.toInt_inj.mp (by rw [hy]; exact (nI_toInt (by omega)).symm)
  subst ey
  subst h
  have h1 := sh_n ⟨k, hk⟩
  have h2 : (x >>> (Int32.ofNat k &&& 31)).toInt = (x.toBitVec.sshiftRight ((Int32.ofNat k &&& 31).toBitVec.smod 32).toNat).toInt := rfl
  rw [h2]
  have h3 : ((Int32.ofNat k &&& 31).toBitVec.smod 32).toNat = k := h1
  rw [h3, BitVec.toInt_sshiftRight, Int.shiftRight_eq_div_pow]
  rfl
