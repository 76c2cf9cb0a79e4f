def Z59 (I J : MI) : Prop := (I 1000 59).toInt = 0 → (J 1000 59).toInt = 0
def ZA (J : MI) : Prop := (J 1000 59).toInt = 0
theorem Z59.rf {I : MI} : Z59 I I := fun h => h
theorem Z59.tr {I J K : MI} (h1 : Z59 I J) (h2 : Z59 J K) : Z59 I K := fun h => h2 (h1 h)
theorem Z59.eq {I J K : MI} (h1 : Z59 I J) (h : K 1000 59 = J 1000 59) : Z59 I K := fun g => (congrArg Int32.toInt h).trans (h1 g)
theorem Z59.pt {I J : MI} {n k : Nat} {v : Int32} (h : Z59 I J) (hne : ¬(1000 = n ∧ 59 = k)) : Z59 I (u2 J n k v) := h.eq (by rw [u2_v, if_neg hne])
theorem ZA.eq {J K : MI} (h1 : ZA J) (h : K 1000 59 = J 1000 59) : ZA K := (congrArg Int32.toInt h).trans h1
theorem ZA.pt {J : MI} {n k : Nat} {v : Int32} (h : ZA J) (hne : ¬(1000 = n ∧ 59 = k)) : ZA (u2 J n k v) := h.eq (by rw [u2_v, if_neg hne])
theorem ZA.put {J : MI} {v : Int32} (h : v.toInt = 0) : ZA (u2 J 1000 59 v) := (congrArg Int32.toInt (u2_self ..)).trans h
theorem ZA.z {I J : MI} (h : ZA J) : Z59 I J := fun _ => h
