theorem tkn_b {T : Nat → Int} (hT : OKT T) {q : Nat} (h : tkv T q ≠ -45) : 1 ≤ tkn T q ∧ q + tkn T q ≤ 400 := by
  have hlt : T q ≠ -45 → q < 400 := fun e => by
    rcases Nat.lt_or_ge q 400 with hp | hp
    · exact hp
    · exact absurd ((hT q).1 hp) e
  rcases tk_c hT q with h1 | h1 | h1 | h1
  · exact absurd h1.2.1 h
  · have h2 := rnl_le (P := dg) (T := T) _ q rfl
    have h3 := hlt (by omega)
    omega
  · have h2 := rnl_le (P := ltr) (T := T) _ q rfl
    have h3 := hlt (by omega)
    omega
  · have h3 := hlt (by omega)
    rcases h1.2.2 with h4 | h4
    · have h5 : q + 1 < 400 := by
        rcases Nat.lt_or_ge (q + 1) 400 with hp | hp
        · exact hp
        · have := (hT (q + 1)).1 hp
          omega
      omega
    · omega
theorem ite_ex {c : Prop} [Decidable c] {a b : Option RES} {P : Option RES → Prop} (h1 : c → P a) (h2 : ¬ c → P b) : P (if c then a else b) := by
  by_cases h : c
  · rw [if_pos h]; exact h1 h
  · rw [if_neg h]; exact h2 h
def ENDS (x : Option RES) : Prop := ∃ F : RES, x = some F ∧ 0 ≤ F.1
theorem flt_ends {v : Int} (h : 0 ≤ v) : ENDS (flt v) := ⟨_, rfl, h⟩
theorem crun_ends {T : Nat → Int} (hT : OKT T) : ∀ (f pl : Nat) (aw pt : Int) (st : List Int) (dp : Int32) (co : List Int) (br : Int32) (vc : Int) (c : CLT), 401 ≤ f + pl → pl ≤ 400 → ENDS (crun T f pl aw pt st dp co br vc c) := by
  intro f
  induction f with
  | zero => intro pl aw pt st dp co br vc c h1 h2; omega
  | succ f ih =>
    intro pl aw pt st dp co br vc c h1 h2
    rw [crun_s]
    have hq := skp_le (T := T) h2
    obtain ⟨q, eq⟩ : ∃ q, q = skp T pl := ⟨_, rfl⟩
    rw [← eq] at hq ⊢
    have hK : tkv T q ≠ -45 → ∀ (aw pt : Int) (st : List Int) (dp : Int32) (co : List Int) (br : Int32) (vc : Int) (c : CLT), ENDS (crun T f (q + tkn T q) aw pt st dp co br vc c) := fun ht aw pt st dp co br vc c => by
      have := tkn_b hT ht
      exact ih _ _ _ _ _ _ _ _ _ (by omega) (by omega)
    have hV : ∀ (pt : Int), ENDS (cbV (crun T f) q (tkv T q) (q + tkn T q) pt st dp co br vc c) := fun pt => by
      unfold cbV
      exact ite_ex (fun _ => flt_ends (by omega)) (fun _ => ite_ex (fun _ => flt_ends (by omega)) (fun h => ite_ex (fun _ => flt_ends (by omega)) (fun _ => hK (by omega) _ _ _ _ _ _ _ _)))
    unfold cbo
    refine ite_ex (fun _ => ?_) (fun _ => ite_ex (fun _ => ?_) (fun _ => ite_ex (fun _ => ?_) (fun _ => ite_ex (fun _ => hV pt) (fun _ => ?_))))
    · unfold cbT
      exact ite_ex (fun _ => flt_ends (by omega)) (fun h => ite_ex (fun _ => flt_ends (by omega)) (fun _ => hK (by omega) _ _ _ _ _ _ _ _))
    · unfold cbM
      exact ite_ex (fun _ => flt_ends (by omega)) (fun _ => ite_ex (fun _ => flt_ends (by omega)) (fun h => hK (by omega) _ _ _ _ _ _ _ _))
    · unfold cbF
      exact ite_ex (fun h => ite_ex (fun _ => flt_ends (by omega)) (fun _ => hK (by omega) _ _ _ _ _ _ _ _)) (fun _ => hV 1)
    · unfold cbB
      refine ite_ex (fun h => hK (by omega) _ _ _ _ _ _ _ _) (fun _ => ite_ex (fun h => ite_ex (fun _ => flt_ends (by omega)) (fun _ => hK (by omega) _ _ _ _ _ _ _ _)) (fun _ => ite_ex (fun h => hK (by omega) _ _ _ _ _ _ _ _) (fun _ => ite_ex (fun h => hK (by omega) _ _ _ _ _ _ _ _) (fun _ => ite_ex (fun h => hK (by omega) _ _ _ _ _ _ _ _) (fun _ => ite_ex (fun h => ?_) (fun _ => flt_ends (by omega)))))))
      unfold cbE
      exact ite_ex (fun h => hK (by omega) _ _ _ _ _ _ _ _) (fun _ => ⟨_, rfl, Int.le_refl 0⟩)
theorem ars_g {K : KON} {w : Nat} {I : MI} {p : Nat} (h12 : (I 70 12).toInt = 0) (h7 : (I 70 7).toInt ≠ 5) : ARS K w I p = K p (I 70 7).toInt (I 70 8).toInt (STK I) (I 70 9) (COD I w) (I 70 10) (I 70 11).toInt (CLS I w) := by
  unfold ARS
  rw [if_neg (by omega), if_neg h7]
def SXO (w : Nat) (I I2 : MI) : Prop := ∀ (K : KON) (p : Nat), cbo K (I 70 4).toNatClampNeg (I 70 5).toInt p (I 70 7).toInt (I 70 8).toInt (STK I) (I 70 9) (COD I w) (I 70 10) (I 70 11).toInt (CLS I w) = ARS K w I2 p
theorem rd_step {T : Nat → Int} {w : Nat} {X : Option RES} {Ia Ib Ic Id : MI} {f : Nat} (h : X = ARS (crun T (f + 1)) w Ia (Ia 70 4).toNatClampNeg) (h12 : (Ia 70 12).toInt = 0) (h7 : (Ia 70 7).toInt ≠ 5) (hT : TC Ia = T) (hr : RTX Ia Ib) (hb : ∀ k, k ≠ 4 → k ≠ 5 → k ≠ 6 → Ib 70 k = Ia 70 k) (hb72 : Ib 72 = Ia 72) (hbl : LQ w Ia Ib) (hx : SXO w Ib Ic) (hd : ∀ k, k ≠ 4 → Id 70 k = Ic 70 k) (hd72 : Id 72 = Ic 72) (hdl : LQ w Ic Id) (h4 : (Id 70 4).toNatClampNeg = (Ib 70 4).toNatClampNeg + (Ib 70 6).toNatClampNeg) : X = ARS (crun T f) w Id (Id 70 4).toNatClampNeg := by
  obtain ⟨r4, r5, r6⟩ := hr
  rw [hT] at r4 r5 r6
  have h1 := hx (crun T f) ((Ib 70 4).toNatClampNeg + (Ib 70 6).toNatClampNeg)
  rw [r6, r4, r5, hb 7 (by decide) (by decide) (by decide), hb 8 (by decide) (by decide) (by decide), hb 9 (by decide) (by decide) (by decide), hb 10 (by decide) (by decide) (by decide), hb 11 (by decide) (by decide) (by decide), STK_of hb72 (hb 2 (by decide) (by decide) (by decide)), hbl.1, hbl.2] at h1
  rw [h, ars_g h12 h7, crun_s, h1, h4, r6, r4]
  exact (ars_of hd hd72 hdl).symm
theorem rd_end {T : Nat → Int} {w : Nat} {X : Option RES} {Ia : MI} {f p : Nat} (h : X = ARS (crun T f) w Ia p) (hs : ENDS X) (hc : f = 0 ∨ (Ia 70 7).toInt = 5 ∨ (Ia 70 12).toInt ≠ 0) : ((Ia 70 12).toInt ≠ 0 ∧ X = flt (Ia 70 12).toInt) ∨ ((Ia 70 12).toInt = 0 ∧ X = some (0, COD Ia w, CLS Ia w)) := by
  by_cases h1 : (Ia 70 12).toInt = 0
  · right
    refine ⟨h1, ?_⟩
    by_cases h2 : (Ia 70 7).toInt = 5
    · rw [h]
      unfold ARS
      rw [if_neg (by omega), if_pos h2]
    · rw [ars_g h1 h2] at h
      have h3 : f = 0 := by omega
      rw [h3] at h
      obtain ⟨F, hF, -⟩ := hs
      rw [h] at hF
      cases hF
  · left
    refine ⟨h1, ?_⟩
    rw [h]
    unfold ARS
    rw [if_pos h1]
theorem cpy_a {I : MI} {x y : Nat} {n : Int32} {N j : Nat} (hn : n.toNatClampNeg = N) (hj : j < N) : cpyI I x y 0 0 n y j = I x j := by
  subst hn
  show (if y = y then va_cpy (I x) (I y) (0 : Int32).toNatClampNeg (0 : Int32).toNatClampNeg n.toNatClampNeg else I y) j = I x j
  rw [if_pos rfl]
  show (if 0 ≤ j ∧ j < 0 + n.toNatClampNeg then I x (0 + (j - 0)) else I y j) = I x j
  rw [if_pos ⟨by omega, by omega⟩]
  congr 1
  omega
theorem TC_cp {I J I2 : MI} {n : Int32} (h3 : J 70 3 = n) (h71 : J 71 = I2 71) (hc : ∀ j, j < n.toNatClampNeg → I2 71 j = I 3 j) (h0 : 0 ≤ n.toInt) : TC J = TXT (I 3) n.toInt := by
  have t := tn h0
  unfold TC
  rw [h3, h71]
  exact TXT_ext (fun p hp => hc p (by omega))
theorem kp456 {I I2 : MI} (h : Kp [] [(70, 4), (70, 5), (70, 6)] I I2) : ∀ k, k ≠ 4 → k ≠ 5 → k ≠ 6 → I2 70 k = I 70 k := fun k h4 h5 h6 => h 70 k rfl (by simp [h4, h5, h6])
def RDX (w : Nat) (I I2 : MI) (n r : Int32) : Prop := ((r.toInt ≠ 0 ∧ crun (TXT (I 3) n.toInt) 401 0 0 (I 70 8).toInt [] 0 [] 0 0 (0, (CLS I w).2) = flt r.toInt) ∨ (r.toInt = 0 ∧ crun (TXT (I 3) n.toInt) 401 0 0 (I 70 8).toInt [] 0 [] 0 0 (0, (CLS I w).2) = some (0, COD I2 w, CLS I2 w)))
