-- how class and reference stand to each other: laws told, the text fed
def REL (I : MI) (_ : MG) : Prop := (I 0 14).toInt = (I 1000 28).toInt ∧ (I 0 15).toInt = (I 1000 24).toInt ∧ ∀ j : Nat, (j : Int) < (I 1000 24).toInt → I 3 j = I 1034 j
theorem REL.ext {I I2 : MI} {G G2 : MG} (h : REL I G) (h14 : I2 0 14 = I 0 14) (h15 : I2 0 15 = I 0 15) (h24 : I2 1000 24 = I 1000 24) (h28 : I2 1000 28 = I 1000 28) (h3 : I2 3 = I 3) (h34 : I2 1034 = I 1034) : REL I2 G2 := by
  unfold REL
  rw [h14, h15, h24, h28, h3, h34]
  exact h
def relok (R P : List (Nat × Nat)) : Bool := !(inR R 0 || P.contains (0, 14)) && (!(inR R 0 || P.contains (0, 15)) && (!(inR R 1000 || P.contains (1000, 24)) && (!(inR R 1000 || P.contains (1000, 28)) && (!(inR R 3 || P.any (fun q => q.1 == 3)) && !(inR R 1034 || P.any (fun q => q.1 == 1034))))))
theorem REL.kp {R P : List (Nat × Nat)} {I I2 : MI} {G G2 : MG} (h : REL I G) (hK : Kp R P I I2) (hc : relok R P = true) : REL I2 G2 := by
  simp only [relok, Bool.and_eq_true, Bool.not_eq_true'] at hc
  obtain ⟨h1, h2, h3, h4, h5, h6⟩ := hc
  exact h.ext (hK.get _ _ h1) (hK.get _ _ h2) (hK.get _ _ h3) (hK.get _ _ h4) (hK.getA _ h5) (hK.getA _ h6)
theorem REL.feed {I I1 I2 : MI} {G G2 : MG} {r1 r2 a b c d e : Int32} (h : REL I G) (hI : INV I) (y1 : FEEDX (I 0 15) (I1 0 15) (I 3) (I1 3) r1 a b c d e) (y2 : FEEDX (I1 1000 24) (I2 1000 24) (I1 1034) (I2 1034) r2 a b c d e) (e14 : I1 0 14 = I 0 14) (o1 : I1 1000 = I 1000) (o34 : I1 1034 = I 1034) (f0 : I2 0 = I1 0) (f3 : I2 3 = I1 3) (f28 : I2 1000 28 = I1 1000 28) : r1 = r2 ∧ REL I2 G2 := by
  obtain ⟨h1, h2, h3⟩ := h
  have g := hI.get 1000 24 (lo := 0) (hi := 400) rfl
  rw [o1, o34] at y2
  unfold REL
  rcases y1 with ⟨a1, a2, a3, a4⟩ | ⟨a1, a2, a3, a4⟩ <;> rcases y2 with ⟨b1, b2, b3, b4⟩ | ⟨b1, b2, b3, b4⟩
  · refine ⟨Int32.toInt_inj.mp (by omega), ?_, ?_, ?_⟩
    · rw [f0, e14, f28, o1]; exact h1
    · rw [f0, a3, b3]; exact h2
    · rw [f3, a4, b3, b4]; exact h3
  · omega
  · omega
  · have t1 := tn (i := I 0 15) (by omega)
    have t2 := tn (i := I 1000 24) (by omega)
    refine ⟨by rw [a3, b3]; exact Int32.toInt_inj.mp (by omega), ?_, ?_, ?_⟩
    · rw [f0, e14, f28, o1]; exact h1
    · rw [f0]; omega
    · intro j hj
      rw [f3]
      rw [show (I 0 15).toNatClampNeg = (I 1000 24).toNatClampNeg from by omega] at a4
      exact a4.same b4 (fun k hk => h3 k (by omega)) j (by omega)
theorem REL.fin {I I1 I2 : MI} {G G2 : MG} {r1 r2 a : Int32} (h : REL I G) (y1 : ENDX (I 0 15) (I1 0 15) r1 a) (y2 : ENDX (I1 1000 24) (I2 1000 24) r2 a) (e14 : I1 0 14 = I 0 14) (e3 : I1 3 = I 3) (o1 : I1 1000 = I 1000) (o34 : I1 1034 = I 1034) (f0 : I2 0 = I1 0) (f3 : I2 3 = I1 3) (f28 : I2 1000 28 = I1 1000 28) (f34 : I2 1034 = I1 1034) : r1 = r2 ∧ REL I2 G2 := by
  obtain ⟨h1, h2, h3⟩ := h
  rw [o1] at y2
  unfold REL
  rcases y1 with ⟨a1, a2, a3⟩ | ⟨a1, a2, a3⟩ <;> rcases y2 with ⟨b1, b2, b3⟩ | ⟨b1, b2, b3⟩
  · refine ⟨by rw [a2, b2], ?_, ?_, ?_⟩
    · rw [f0, e14, f28, o1]; exact h1
    · rw [f0, a3, b3]
    · intro j hj
      rw [f3, e3, f34, o34]
      rw [b3] at hj
      exact h3 j (by omega)
  · omega
  · omega
  · refine ⟨Int32.toInt_inj.mp (by omega), ?_, ?_, ?_⟩
    · rw [f0, e14, f28, o1]; exact h1
    · rw [f0, a3, b3]; exact h2
    · rw [f3, e3, b3, f34, o34]; exact h3
theorem REL.law {I I1 I2 : MI} {G G2 : MG} {r1 r2 : Int32} (h : REL I G) (hI : INV I) (y1 : LAWC I I1 r1) (y2 : LAWM I1 I2 r2) (o1 : I1 1000 = I 1000) (o34 : I1 1034 = I 1034) (e3 : I1 3 = I 3) (f0 : I2 0 = I1 0) (f3 : I2 3 = I1 3) (f34 : I2 1034 = I1 1034) : r1 = r2 ∧ REL I2 G2 := by
  obtain ⟨h1, h2, h3⟩ := h
  have g := hI.get 1000 24 (lo := 0) (hi := 400) rfl
  have g2 := hI.get 1000 28 (lo := 0) (hi := 6) rfl
  have hT : TM I1 = TXT (I 3) (I 0 15).toInt := by
    unfold TM
    rw [o1, o34, h2]
    exact (TXT_ext h3).symm
  unfold LAWM at y2
  rw [hT, o1] at y2
  unfold REL
  rcases y1 with ⟨a1, a2, a3⟩ | ⟨a1, a2, F, pt, c, a3, a4, a5⟩ <;> rcases y2 with ⟨b1, b2, b3⟩ | ⟨b1, b2, b3⟩
  · refine ⟨Int32.toInt_inj.mp (by omega), ?_, ?_, ?_⟩
    · rw [b3, a3]; exact h1
    · rw [b3, a3]; exact h2
    · rw [b3, a3]; exact h3
  · omega
  · omega
  · have hF : 0 ≤ F.1 := by
      obtain ⟨F2, e1, e2⟩ := crun_ends (T := TXT (I 3) (I 0 15).toInt) (TXT_ok (by omega)) 401 0 0 pt [] 0 [] 0 0 c (by decide) (by decide)
      rw [a4] at e1
      rw [Option.some.inj e1]
      exact e2
    have hz : ∀ j : Nat, (j : Int) < (I2 1000 24).toInt → I2 3 j = I2 1034 j := fun j hj => by omega
    rcases b3 F 401 pt c a3 hF a4 with ⟨c1, ⟨z, c2, c3⟩, c4⟩ | ⟨c1, c2, c3⟩
    · rcases a5 with ⟨d1, ⟨y, d2, d3⟩, d4⟩ | ⟨d1, d2, d3⟩
      · refine ⟨by rw [d2, c2, Int32.toInt_inj.mp (show y.toInt = z.toInt by omega)], by rw [f0]; omega, by rw [f0]; omega, hz⟩
      · exact absurd d1 c1
    · rcases a5 with ⟨d1, -, -⟩ | ⟨d1, d2, d3⟩
      · exact absurd c1 d1
      · exact ⟨Int32.toInt_inj.mp (by omega), by rw [f0]; omega, by rw [f0]; omega, hz⟩
theorem REL.bt {I I1 : MI} {G : MG} (h : REL I G) (hI : INV I) (o1 : I1 1000 = I 1000) (o34 : I1 1034 = I 1034) : BTM I1 := by
  intro j hj
  rw [o1] at hj
  rw [o34, ← h.2.2 j hj]
  exact hI.get 3 j (lo := -128) (hi := 127) rfl
