-- the class turns clause by clause: what that is
theorem LWF.eq {L L2 : LWt} (h : LWF L) (e : ∀ n, n < 6 → L2 n = L n) : LWF L2 := by
  unfold LWF segL
  rw [e 0 (by decide), e 1 (by decide), e 2 (by decide), e 3 (by decide), e 4 (by decide), e 5 (by decide)]
  exact h
theorem trV_L {V : VW} {h : Int32} {g : Nat → Int32} {L L2 : LWt} (e : ∀ n, n < 6 → L2 n = L n) : trV V h g L2 = trV V h g L := by
  have e0 := e 0 (by decide)
  have e1 := e 1 (by decide)
  have e2 := e 2 (by decide)
  have e3 := e 3 (by decide)
  have e4 := e 4 (by decide)
  have e5 := e 5 (by decide)
  have hs : ∀ a b, segL L2 a b = segL L a b := fun a b => by unfold segL; rw [e1]
  have ht : ∀ k i, vtV V h g L2 k i = vtV V h g L k i := fun k i => by unfold vtV; rw [hs, e4, e5]
  have hv : ∀ k i, vsV V h g L2 k i = vsV V h g L k i := fun k i => by unfold vsV; rw [hs, e3, e4]
  have hf : ∀ k, firV V h g L2 k = firV V h g L k := fun k => funext fun i => by unfold firV; rw [ht, e2, e4, e5]
  have hsl : ∀ k n, slA V h g L2 k n = slA V h g L k n := fun k n => by
    cases hq : fsf (firV V h g L k) n with
    | none => rw [slA_n hq, slA_n (by rw [hf]; exact hq)]
    | some i => rw [slA_s hq, slA_s (by rw [hf]; exact hq), hv]
  unfold trV
  rw [e0]
  funext m k
  unfold trA
  rw [hsl]
theorem TMX.he {V : VW} {h : Int32} {g : Nat → Int32} {L : LWt} {n b m : Nat} {J : MI} {t : Int32} (hT : TMX V h g L n b J t) (h0 : fsf (firV V h g L m) n = none) (hm : m < 24) (hp : 0 < (J b 0).toInt) (hh : 0 ≤ h.toInt ∧ h.toInt < 24) (h20 : J 20 3 = h) (h21 : J 21 = g) (h5 : 0 ≤ (V 1 5).toInt ∧ (V 1 5).toInt ≤ 11) : ∀ j, j < 13 → eC b J m j = envV V h g m j := by
  intro j hj
  have h5' : 0 ≤ (trA V h g L n 1 5).toInt ∧ (trA V h g L n 1 5).toInt ≤ 11 := by rw [trA_ne (by decide)]; exact h5
  rw [eC_env hp (by rw [h20]; exact hh), h20, h21]
  exact (env_eq hT.1 (fun _ _ => rfl) hm h5' hh j hj).trans (env_st (Or.inl h0) j)
-- which mirror a clause is for
theorem TMX.bit {V : VW} {h : Int32} {g : Nat → Int32} {L : LWt} {n b k : Nat} {J : MI} {t : Int32} (hT : TMX V h g L n b J t) (hk : k < 24) (h0 : ¬ bitA t k) (hm : k < (V 1 8).toNatClampNeg) : fsf (firV V h g L k) n = none := by
  cases e : fsf (firV V h g L k) n with
  | none => rfl
  | some j => exact absurd ((hT.2 k hk).mpr ⟨hm, by rw [e]; exact fun q => by cases q⟩) h0
theorem TMX.of {V : VW} {h : Int32} {g : Nat → Int32} {L : LWt} {n b : Nat} {J J2 : MI} {t : Int32} (hT : TMX V h g L n b J t) (e : cF b J2 = cF b J) : TMX V h g L n b J2 t := by
  unfold TMX
  rw [e]
  exact hT
-- light of the class's town
theorem SHE.sh {b : Nat} {I J : MI} {h : Int32} (hx : SHE b I J h) (hz : WZ I) (hy : YLY b I) (hok : TNok (twC b I)) (h2 : 0 ≤ (I b 2).toInt ∧ (I b 2).toInt ≤ 23) (h3 : 0 ≤ (I b 3).toInt ∧ (I b 3).toInt ≤ 23) : ∃ S2, LSC J S2 ∧ shV (cF b I) h = (nC J, S2) := by
  obtain ⟨S2, h4, h5⟩ := hx hz
  exact ⟨S2, h4, by rw [← shV_C hy hok h2 h3]; exact h5⟩
theorem SHV.sh {b : Nat} {I J : MI} {h : Int32} (hx : SHV b I J h) (hy : YLY b I) (hok : TNok (twC b I)) (h2 : 0 ≤ (I b 2).toInt ∧ (I b 2).toInt ≤ 23) (h3 : 0 ≤ (I b 3).toInt ∧ (I b 3).toInt ≤ 23) : ∃ S2, LSC J S2 ∧ (∀ c, c < 576 → J 12 c = S2.pas c) ∧ shV (cF b I) h = (nC J, S2) := by
  obtain ⟨S2, h4, h5, h6⟩ := hx
  exact ⟨S2, h4, h5, by rw [← shV_C hy hok h2 h3]; exact h6⟩
theorem YLY.of {b : Nat} {I J : MI} (h : YLY b I) (h4 : J (b + 4) = I (b + 4)) (h9 : J b 9 = I b 9) (hv : ∀ k, k < 8 → cF b J 17 k = cF b I 17 k ∧ cF b J 18 k = cF b I 18 k ∧ cF b J 19 k = cF b I 19 k ∧ cF b J 20 k = cF b I 20 k) (h8 : (I b 9).toNatClampNeg ≤ 8) : YLY b J := fun c hc => by
  rw [h4, h9, h c hc]
  exact (yo_congr (fun k hk => hv k (by omega))).symm
theorem wy_C {b : Nat} {I : MI} {h : Int32} : wyV (cF b I) h = I (b + 5) (I b 5 * 24 + h).toNatClampNeg := by
  unfold wyV sunI
  rw [cf4, sc5]
-- what a table that is kept keeps
theorem EqV.yds {V W : VW} (e : EqV V W) : ∀ k, k < 8 → W 17 k = V 17 k ∧ W 18 k = V 18 k ∧ W 19 k = V 19 k ∧ W 20 k = V 20 k := fun k hk => ⟨e 17 k (by decide) (by decide) hk, e 18 k (by decide) (by decide) hk, e 19 k (by decide) (by decide) hk, e 20 k (by decide) (by decide) hk⟩
