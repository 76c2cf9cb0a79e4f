theorem fill_step {f : Nat → Int32} {i t v : Int32} (h0 : 0 ≤ i.toInt) (h : ∀ j : Nat, (j : Int) < i.toInt → f j = v) (ht : t.toInt = i.toInt + 1) : ∀ j : Nat, (j : Int) < t.toInt → va_up f i.toNatClampNeg v j = v := by
  intro j hj
  have h1 := tn h0
  by_cases hq : j = i.toNatClampNeg
  · rw [hq, va_up_self]
  · rw [va_up_ne _ _ hq]
    exact h j (by omega)
