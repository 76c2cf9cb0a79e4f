-- a mirror turns towards a slant
def trn (s r w : Int) : Int := if (w - s) % 8 ≤ 4 then (s + (if (w - s) % 8 ≤ r then (w - s) % 8 else r)) % 8 else (s - (if 8 - (w - s) % 8 ≤ r then 8 - (w - s) % 8 else r)) % 8
theorem and7m_lem : ∀ a : Fin 32, ((Int32.ofInt ((a.val : Int) - 16)) &&& 7).toInt = ((a.val : Int) - 16) % 8 := by decide
theorem and7m {x v : Int32} (hx : -16 ≤ x.toInt ∧ x.toInt < 16) (hv : v = x &&& 7) : v.toInt = x.toInt % 8 := by
  have h := and7m_lem ⟨(x.toInt + 16).toNat, by omega⟩
  simp only at h
  rw [show (((x.toInt + 16).toNat : Nat) : Int) - 16 = x.toInt from by omega, Int32.ofInt_toInt] at h
  rw [hv]
  exact h
