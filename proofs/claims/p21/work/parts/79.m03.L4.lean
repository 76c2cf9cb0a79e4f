-- frames for towns; the class's light, told
def apb (b : Nat) (R P : List (Nat × Nat)) : Bool := R.all (fun r => decide (r.2 ≤ b) || decide (b + 9 ≤ r.1)) && P.all (fun q => decide (q.1 < b) || decide (b + 9 ≤ q.1))
theorem Kp.ap {R P : List (Nat × Nat)} {I I2 : MI} (h : Kp R P I I2) {b : Nat} (hc : apb b R P = true) (n : Nat) (h1 : b ≤ n) (h2 : n < b + 9) : I2 n = I n := by
  unfold apb at hc
  simp only [Bool.and_eq_true, List.all_eq_true, Bool.or_eq_true, decide_eq_true_eq] at hc
  funext k
  refine h n k ?_ ?_
  · cases hq : inR R n with
    | false => rfl
    | true =>
      exfalso
      obtain ⟨r, hr, hb⟩ := List.any_eq_true.mp hq
      have h3 := hc.1 r hr
      simp only [Bool.and_eq_true, decide_eq_true_eq] at hb
      omega
  · cases hq : P.contains (n, k) with
    | false => rfl
    | true =>
      exfalso
      have h3 : (n, k) ∈ P := by simpa using hq
      have h4 := hc.2 (n, k) h3
      simp only at h4
      omega
theorem twC_kp {R P : List (Nat × Nat)} {I I2 : MI} {b : Nat} (h : Kp R P I I2) (hc : apb b R P = true) : twC b I2 = twC b I := twC_of (fun n h1 h2 => h.ap hc n h1 h2)
def WZ (I : MI) : Prop := (I 10 8).toInt = 1 → ∀ c, c < 576 → I 12 c = 0
def CLRX (I2 : MI) : Prop := WZ I2 → LSC I2 SZ ∧ nC I2 = 2000
theorem CLRX.of {J : MI} (g : ∀ k, k < 8 → J 11 k = 0) (h2 : J 10 2 = 0) (h3 : J 10 3 = 0) (h4 : J 10 4 = 0) (h5 : J 10 5 = 1) (h6 : J 10 6 = 0) (h7 : J 10 7 = 0) (h12 : J 10 12 = 0) : CLRX J := fun hz => by
  refine ⟨⟨fun k hk => g k hk, fun hw c hc => hz hw c hc, ⟨h2, h3, h5, h6, h7⟩, by rw [h12]; rfl, fun i e hq => ?_⟩, by unfold nC; rw [h4]; rfl⟩
  simp [SZ, SN.q] at hq
def SHL (b : Nat) (I J : MI) (n : Nat) (h : Int32) : Prop := WZ I → SHX (twC b I) J n (I b 2) (I b 3) (I (b + 5) (I b 5 * 24 + h).toNatClampNeg) (I (b + 6) (I b 5 * 24 + h).toNatClampNeg)
def SHE (b : Nat) (I J : MI) (h : Int32) : Prop := WZ I → SHF (twC b I) J (I b 2) (I b 3) (I (b + 5) (I b 5 * 24 + h).toNatClampNeg) (I (b + 6) (I b 5 * 24 + h).toNatClampNeg)
def SHV (b : Nat) (I J : MI) (h : Int32) : Prop := ∃ S2, LSC J S2 ∧ (∀ c, c < 576 → J 12 c = S2.pas c) ∧ shineP (twC b I) (I b 2) (I b 3) (I (b + 5) (I b 5 * 24 + h).toNatClampNeg) (I (b + 6) (I b 5 * 24 + h).toNatClampNeg) = (nC J, S2)
theorem SHL.z {b : Nat} {I I1 J : MI} {h x y w s : Int32} (hc : CLRX I1) (h8 : I1 10 8 = I 10 8) (h12 : I1 12 = I 12) (hb : BMX (twC b I) I1 J x y w s) (ex : x = I b 2) (ey : y = I b 3) (ew : w = I (b + 5) (I b 5 * 24 + h).toNatClampNeg) (es : s = I (b + 6) (I b 5 * 24 + h).toNatClampNeg) : SHL b I J 2000 h := fun hz => by
  have h1 := hc (fun hw c hq => by rw [h12]; exact hz (by rw [← h8]; exact hw) c hq)
  rw [ex, ey, ew, es] at hb
  exact SHX.z h1.1 h1.2 hb
theorem SHL.fin {b : Nat} {I J : MI} {n : Nat} {h : Int32} (hl : SHL b I J n h) (hc : (J 10 12).toInt ≤ 0 ∨ n = 0) : SHE b I J h := fun hz => (hl hz).fin hc
theorem SHL.next {b : Nat} {I J J1 J2 : MI} {f : Nat} {h x2 y2 w2 s2 h1v c1v : Int32} (hl : SHL b I J (f + 1) h) (hc : 0 < (J 10 12).toInt) (hh : 0 ≤ (J 10 11).toInt ∧ (J 10 11).toInt < 60) (e1 : J1 = u2 (u2 J 10 11 h1v) 10 12 c1v) (eh : h1v.toInt = ((J 10 11).toInt + 1) % 60) (ec : c1v.toInt = (J 10 12).toInt - 1) (hs : s2 = J 14 (J 10 11).toNatClampNeg) (hw : w2.toInt = (J 13 (J 10 11).toNatClampNeg).toInt % 8) (hx : x2.toInt = (J 13 (J 10 11).toNatClampNeg).toInt / 8 % 24 + (sX w2).toInt) (hy : y2.toInt = (J 13 (J 10 11).toNatClampNeg).toInt / 8 / 24 + (sY w2).toInt) (hb : BMX (twC b I) J1 J2 x2 y2 w2 s2) : SHL b I J2 f h := fun hz => (hl hz).next hc hh e1 eh ec hs hw hx hy hb
theorem SHV.of {b : Nat} {I J J2 : MI} {h : Int32} (he : SHE b J J2 h) (hz : WZ J) (h8 : (J2 10 8).toInt = 1) (ht : twC b J = twC b I) (e : ∀ n, b ≤ n → n < b + 9 → J n = I n) : SHV b I (u2 J2 10 8 0) h := by
  obtain ⟨S2, h1, h2⟩ := he hz
  rw [ht, e b (by omega) (by omega), e (b + 5) (by omega) (by omega), e (b + 6) (by omega) (by omega)] at h2
  refine ⟨S2, ⟨fun k hk => ?_, fun hw => ?_, ?_, ?_, h1.2.2.2.2.of (u2_ne _ _ _ (by decide)) (u2_ne _ _ _ (by decide)) (by rw [u2_v, if_neg (by decide)])⟩, fun c hc => ?_, ?_⟩
  · rw [u2_ne _ _ _ (by decide)]; exact h1.1 k hk
  · rw [u2_self] at hw; exact absurd hw (by decide)
  · have := h1.2.2.1
    rw [u2_v, if_neg (by decide), u2_v, if_neg (by decide), u2_v, if_neg (by decide), u2_v, if_neg (by decide), u2_v, if_neg (by decide)]
    exact this
  · rw [u2_v, if_neg (by decide)]; exact h1.2.2.2.1
  · rw [u2_ne _ _ _ (by decide)]; exact h1.2.1 h8 c hc
  · rw [h2]
    unfold nC
    rw [u2_v, if_neg (by decide)]
theorem i_adz (x : Int32) : x + 0 = x := by simp
def sumN : Nat → (Nat → Int32) → Int32
  | 0, _ => 0
  | n + 1, f => sumN n f + f n
def bln (e p : Nat → Int32) (c : Nat) : Prop := (e c).toInt ≠ -1 ∧ (e c).toInt < (p c).toInt
noncomputable def blN : Nat → (Nat → Int32) → (Nat → Int32) → Int32
  | 0, _, _ => 0
  | n + 1, e, p => blN n e p + @ite Int32 (bln e p n) (Classical.propDecidable _) 1 0
theorem blN_y {n : Nat} {e p : Nat → Int32} (h : bln e p n) : blN (n + 1) e p = blN n e p + 1 := by
  show blN n e p + @ite Int32 (bln e p n) (Classical.propDecidable _) 1 0 = _
  rw [if_pos h]
theorem blN_n {n : Nat} {e p : Nat → Int32} (h : ¬ bln e p n) : blN (n + 1) e p = blN n e p := by
  show blN n e p + @ite Int32 (bln e p n) (Classical.propDecidable _) 1 0 = _
  rw [if_neg h]
  exact i_adz _
def fsB (e p : Nat → Int32) (r : Int32) : Prop := (r.toInt = -2 ∧ ∀ c, c < 576 → ¬ bln e p c) ∨ (0 ≤ r.toInt ∧ r.toInt < 576 ∧ bln e p r.toNatClampNeg ∧ ∀ c, c < r.toNatClampNeg → ¬ bln e p c)
theorem fsB.same {e p e2 p2 : Nat → Int32} {r q : Int32} (h : fsB e p r) (h2 : fsB e2 p2 q) (he : ∀ c, c < 576 → e2 c = e c) (hp : ∀ c, c < 576 → p2 c = p c) : r = q := by
  have hb : ∀ c, c < 576 → (bln e2 p2 c ↔ bln e p c) := fun c hc => by unfold bln; rw [he c hc, hp c hc]
  apply Int32.toInt_inj.mp
  rcases h with ⟨h1, h3⟩ | ⟨h1, h3, h4, h5⟩ <;> rcases h2 with ⟨g1, g3⟩ | ⟨g1, g3, g4, g5⟩
  · omega
  · have t := tn g1
    exact absurd ((hb _ (by omega)).mp g4) (h3 _ (by omega))
  · have t := tn h1
    exact absurd ((hb _ (by omega)).mpr h4) (g3 _ (by omega))
  · have t := tn h1
    have t2 := tn g1
    rcases Nat.lt_trichotomy r.toNatClampNeg q.toNatClampNeg with z | z | z
    · exact absurd ((hb _ (by omega)).mpr h4) (g5 _ z)
    · omega
    · exact absurd ((hb _ (by omega)).mp g4) (h5 _ z)
theorem blN.same {e p e2 p2 : Nat → Int32} : ∀ {n : Nat}, n ≤ 576 → (∀ c, c < 576 → e2 c = e c) → (∀ c, c < 576 → p2 c = p c) → blN n e2 p2 = blN n e p := by
  intro n
  induction n with
  | zero => intros; rfl
  | succ n ih =>
    intro hn he hp
    have hb : bln e2 p2 n ↔ bln e p n := by unfold bln; rw [he n (by omega), hp n (by omega)]
    by_cases h : bln e p n
    · rw [blN_y h, blN_y (hb.mpr h), ih (by omega) he hp]
    · rw [blN_n h, blN_n (fun z => h (hb.mp z)), ih (by omega) he hp]
