theorem nar_bool (x : Int32) : 0 ≤ (vp_nar .boolean x).toInt ∧ (vp_nar .boolean x).toInt ≤ 1 := a_and (x := x) (y := 1) (v := vp_nar .boolean x) (c := 1) rfl (by decide) (by decide)
