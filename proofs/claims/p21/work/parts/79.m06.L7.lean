-- the reference's town and its beams
noncomputable def twM (I : MI) : TN := fun n k => match n with
  | 0 => (match k with | 0 => I 1001 1 | 1 => I 1001 2 | _ => I 1001 4)
  | 1 => I 1002 k
  | 2 => Int32.ofInt (yo (live I) k (I 1001 9).toNatClampNeg)
  | 3 => I 1006 k
  | 4 => I 1021 k
  | 5 => I 1015 k
  | 6 => I 1010 k
  | 7 => I 1014 k
  | 8 => I 1011 k
  | _ => I 1009 k
theorem twM_of {I I2 : MI} (h : ∀ n, 1001 ≤ n → n ≤ 1023 → I2 n = I n) : twM I2 = twM I := by
  funext n k
  unfold twM
  split
  · split <;> rw [h 1001 (by decide) (by decide)]
  · rw [h 1002 (by decide) (by decide)]
  · have : live I2 17 = live I 17 ∧ live I2 18 = live I 18 ∧ live I2 19 = live I 19 ∧ live I2 20 = live I 20 := ⟨h 1017 (by decide) (by decide), h 1018 (by decide) (by decide), h 1019 (by decide) (by decide), h 1020 (by decide) (by decide)⟩
    rw [h 1001 (by decide) (by decide)]
    congr 1
    exact yo_congr (fun j _ => ⟨congrFun this.1 j, congrFun this.2.1 j, congrFun this.2.2.1 j, congrFun this.2.2.2 j⟩)
  all_goals rw [h _ (by decide) (by decide)]
-- shares
theorem shr_v {s t : Int32} (hs : 0 ≤ s.toInt ∧ s.toInt ≤ 99999) (ht : 0 ≤ t.toInt ∧ t.toInt ≤ 1000) : (shr s t).toInt = s.toInt * t.toInt / 1000 ∧ 0 ≤ s.toInt * t.toInt ∧ s.toInt * t.toInt ≤ s.toInt * 1000 := by
  have h1 : s.toInt * t.toInt ≤ s.toInt * 1000 := Int.mul_le_mul_of_nonneg_left ht.2 hs.1
  have h0 : 0 ≤ s.toInt * t.toInt := Int.mul_nonneg hs.1 ht.1
  have hm : (s * t).toInt = s.toInt * t.toInt := a_mul rfl (by omega) (by omega)
  refine ⟨?_, h0, h1⟩
  unfold shr
  rw [a_div (c := 1000) rfl (by decide) (by decide) (by rw [hm]; exact h0), hm]
theorem shr_b {s t : Int32} (hs : 0 ≤ s.toInt ∧ s.toInt ≤ 99999) (ht : 0 ≤ t.toInt ∧ t.toInt ≤ 1000) : 0 ≤ (shr s t).toInt ∧ (shr s t).toInt ≤ s.toInt := by
  obtain ⟨h1, h2, h3⟩ := shr_v hs ht
  rw [h1]
  omega
theorem shr_l {s t v : Int32} {a b c d : Int64} (ha : a = s.toInt64) (hb : b = t.toInt64) (hc : c = a * b) (hd : d = c / 1000) (hv : v = d.toInt32) (hs : 0 ≤ s.toInt ∧ s.toInt ≤ 99999) (ht : 0 ≤ t.toInt ∧ t.toInt ≤ 1000) : v = shr s t := by
  obtain ⟨h1, h2, h3⟩ := shr_v hs ht
  have ea : a.toInt = s.toInt := q_i2l ha
  have eb : b.toInt = t.toInt := q_i2l hb
  have ec : c.toInt = s.toInt * t.toInt := by
    rw [hc, Int64.toInt_mul, ea, eb]
    exact Int.bmod_eq_of_le (by omega) (by omega)
  have ed : d.toInt = s.toInt * t.toInt / 1000 := by
    rw [hd, Int64.toInt_div_of_ne_left _ _ (by intro e; rw [e] at ec; have : (Int64.minValue).toInt = -9223372036854775808 := by decide
                                               omega), ec]
    exact Int.tdiv_eq_ediv_of_nonneg h2
  apply Int32.toInt_inj.mp
  rw [h1, hv, Int64.toInt_toInt32, ed]
  exact Int.bmod_eq_of_le (by omega) (by omega)
def QM (I : MI) (q : List BQ) : Prop := ∀ (i : Nat) (e : BQ), q[i]? = some e → e = (I 1045 (((I 1000 51).toNatClampNeg + i) % 60), I 1046 (((I 1000 51).toNatClampNeg + i) % 60), I 1047 (((I 1000 51).toNatClampNeg + i) % 60), I 1048 (((I 1000 51).toNatClampNeg + i) % 60)) ∧ (0 ≤ e.2.2.1.toInt ∧ e.2.2.1.toInt ≤ 7) ∧ 0 ≤ e.2.2.2.toInt ∧ e.2.2.2.toInt ≤ 99999
theorem QM.of {I I2 : MI} {q : List BQ} (h : QM I q) (h1 : I2 1045 = I 1045) (h2 : I2 1046 = I 1046) (h3 : I2 1047 = I 1047) (h4 : I2 1048 = I 1048) (h5 : I2 1000 51 = I 1000 51) : QM I2 q := by
  unfold QM
  rw [h1, h2, h3, h4, h5]
  exact h
def LSM (I : MI) (S : SN) : Prop := (∀ k, k < 8 → I 1050 k = S.got k) ∧ (∀ c, c < 576 → I 1049 c = S.pas c) ∧ (I 1000 53 = S.nu 0 ∧ I 1000 54 = S.nu 1 ∧ I 1000 56 = S.nu 2) ∧ (I 1000 52).toInt = (S.q.length : Int) ∧ QM I S.q
theorem LSM.of {I I2 : MI} {S : SN} (h : LSM I S) (h1 : ∀ n, 1045 ≤ n → n ≤ 1050 → I2 n = I n) (h10 : ∀ k, (51 ≤ k ∧ k ≤ 54) ∨ k = 56 → I2 1000 k = I 1000 k) : LSM I2 S := by
  unfold LSM QM
  rw [h1 1045 (by decide) (by decide), h1 1046 (by decide) (by decide), h1 1047 (by decide) (by decide), h1 1048 (by decide) (by decide), h1 1049 (by decide) (by decide), h1 1050 (by decide) (by decide), h10 51 (by decide), h10 52 (by decide), h10 53 (by decide), h10 54 (by decide), h10 56 (by decide)]
  exact h
theorem LSM.cells {I : MI} {S : SN} (h : LSM I S) (v : Int32) : LSM (u2 I 1000 55 v) S := h.of (fun n a b => u2_ne _ _ _ (by omega)) (fun k hk => by rw [u2_v, if_neg (by omega)])
theorem LSM.nu3 {I : MI} {S : SN} (h : LSM I S) (k : Nat) (hk : k = 3 ∨ k = 4) (v : Int32) : LSM I (S.nU k v) := by
  obtain ⟨h1, h2, ⟨h3, h4, h5⟩, h8, h9⟩ := h
  refine ⟨h1, h2, ⟨?_, ?_, ?_⟩, h8, h9⟩
  · show _ = upN S.2.2.1 k v 0; rw [upN_n _ _ (by omega)]; exact h3
  · show _ = upN S.2.2.1 k v 1; rw [upN_n _ _ (by omega)]; exact h4
  · show _ = upN S.2.2.1 k v 2; rw [upN_n _ _ (by omega)]; exact h5
theorem LSM.lost {I : MI} {S : SN} (h : LSM I S) (g : Int32) : LSM (u2 I 1000 53 (I 1000 53 + g)) (S.nA 0 g) := by
  obtain ⟨h1, h2, ⟨h3, h4, h5⟩, h8, h9⟩ := h
  refine ⟨fun k hk => ?_, fun c hc => ?_, ⟨?_, ?_, ?_⟩, ?_, h9.of (u2_ne _ _ _ (by decide)) (u2_ne _ _ _ (by decide)) (u2_ne _ _ _ (by decide)) (u2_ne _ _ _ (by decide)) (by rw [u2_v, if_neg (by decide)])⟩
  · rw [u2_ne _ _ _ (by decide)]; exact h1 k hk
  · rw [u2_ne _ _ _ (by decide)]; exact h2 c hc
  · rw [u2_self, h3]; rfl
  · rw [u2_v, if_neg (by decide)]; exact h4
  · rw [u2_v, if_neg (by decide)]; exact h5
  · rw [u2_v, if_neg (by decide)]; exact h8
theorem LSM.spilt {I : MI} {S : SN} (h : LSM I S) (g : Int32) : LSM (u2 I 1000 54 (I 1000 54 + g)) (S.nA 1 g) := by
  obtain ⟨h1, h2, ⟨h3, h4, h5⟩, h8, h9⟩ := h
  refine ⟨fun k hk => ?_, fun c hc => ?_, ⟨?_, ?_, ?_⟩, ?_, h9.of (u2_ne _ _ _ (by decide)) (u2_ne _ _ _ (by decide)) (u2_ne _ _ _ (by decide)) (u2_ne _ _ _ (by decide)) (by rw [u2_v, if_neg (by decide)])⟩
  · rw [u2_ne _ _ _ (by decide)]; exact h1 k hk
  · rw [u2_ne _ _ _ (by decide)]; exact h2 c hc
  · rw [u2_v, if_neg (by decide)]; exact h3
  · rw [u2_self, h4]; rfl
  · rw [u2_v, if_neg (by decide)]; exact h5
  · rw [u2_v, if_neg (by decide)]; exact h8
theorem LSM.gets {I : MI} {S : SN} (h : LSM I S) {k : Nat} (hk : k < 8) (g : Int32) : LSM (u2 I 1050 k (I 1050 k + g)) (S.gU k (S.got k + g)) := by
  obtain ⟨h1, h2, h3, h8, h9⟩ := h
  refine ⟨fun j hj => ?_, fun c hc => ?_, ?_, ?_, h9.of (u2_ne _ _ _ (by decide)) (u2_ne _ _ _ (by decide)) (u2_ne _ _ _ (by decide)) (u2_ne _ _ _ (by decide)) (by rw [u2_ne _ _ _ (by decide)])⟩
  · rw [u2_v]
    show _ = upN S.1 k (S.got k + g) j
    by_cases hq : j = k
    · subst hq; rw [if_pos ⟨rfl, rfl⟩, upN_s, h1 j hj]
    · rw [if_neg (fun z => hq z.2), upN_n _ _ hq]; exact h1 j hj
  · rw [u2_ne _ _ _ (by decide)]; exact h2 c hc
  · rw [u2_ne _ _ _ (by decide)]; exact h3
  · rw [u2_ne _ _ _ (by decide)]; exact h8
theorem LSM.pass {I : MI} {S : SN} (h : LSM I S) (c : Nat) (v : Int32) : LSM (u2 I 1049 c v) (S.pU c v) := by
  obtain ⟨h1, h2, h3, h8, h9⟩ := h
  refine ⟨fun j hj => ?_, fun j hj => ?_, ?_, ?_, h9.of (u2_ne _ _ _ (by decide)) (u2_ne _ _ _ (by decide)) (u2_ne _ _ _ (by decide)) (u2_ne _ _ _ (by decide)) (by rw [u2_ne _ _ _ (by decide)])⟩
  · rw [u2_ne _ _ _ (by decide)]; exact h1 j hj
  · rw [u2_v]
    show _ = upN S.2.1 c v j
    by_cases hq : j = c
    · subst hq; rw [if_pos ⟨rfl, rfl⟩, upN_s]
    · rw [if_neg (fun z => hq z.2), upN_n _ _ hq]; exact h2 j hj
  · rw [u2_ne _ _ _ (by decide)]; exact h3
  · rw [u2_ne _ _ _ (by decide)]; exact h8
-- a cell: air and what passes
def AIM (T : TN) (c : Nat) (s : Int32) (I I2 : MI) : Prop := ∀ S, LSM I S → LSM I2 (airS T c s S)
theorem AIM.of {I : MI} {T : TN} {c : Nat} {s p : Int32} (v : Int32) (hc : c < 576) (hp : p = if (I 1049 c).toInt < (airL T s).toInt then airL T s else I 1049 c) : AIM T c s I (u2 (u2 (u2 I 1000 55 v) 1000 53 (I 1000 53 + shr s T.air)) 1049 c p) := fun S hS => by
  have h := ((hS.cells v).lost (shr s T.air)).pass c p
  rw [u2_v, if_neg (by decide)] at h
  unfold airS
  rw [← hS.2.1 c hc, ← hp]
  exact h
def CEm (T : TN) (x y s : Int32) (J J2 : MI) : Prop := ∀ S, LSM J S → LSM J2 (cellS T x y s S)
theorem CEm.n {T : TN} {x y s : Int32} {J J2 : MI} (h : AIM T (clN x y) s J J2) (hy : (T.yat (clN x y)).toInt = -1) : CEm T x y s J J2 := fun S hS => by
  unfold cellS yrdS
  rw [if_pos hy]
  exact h S hS
theorem CEm.y {T : TN} {x y s g : Int32} {k : Nat} {J J1 : MI} (h : AIM T (clN x y) s J J1) (hy : (T.yat (clN x y)).toInt ≠ -1) (hk : k = (T.yat (clN x y)).toNatClampNeg) (hk8 : k < 8) (hg : g = shr (airL T s) (T.tk k)) : CEm T x y s J (u2 J1 1050 k (J1 1050 k + g)) := fun S hS => by
  unfold cellS yrdS
  rw [if_neg hy, ← hk, ← hg]
  exact (h S hS).gets hk8 g
-- what waits
def WTM (e : BQ) (I I2 : MI) : Prop := ∀ S, LSM I S → LSM I2 (waitS e S)
theorem WTM.full {I : MI} {x y w s : Int32} (h : (I 1000 52).toInt = 60) : WTM (x, y, w, s) I (u2 I 1000 54 (I 1000 54 + s)) := fun S hS => by
  unfold waitS
  rw [if_neg (by have := hS.2.2.2.1; omega)]
  exact (hS.spilt s).nu3 3 (Or.inl rfl) 1
theorem WTM.add {I : MI} {x y w s v b t : Int32} (h : (I 1000 52).toInt < 60) (h0 : 0 ≤ (I 1000 52).toInt) (hh : 0 ≤ (I 1000 51).toInt) (ht : t.toInt = ((I 1000 51).toInt + (I 1000 52).toInt) % 60) (hv : v = I 1000 52 + 1) (hb : b = I 1000 56 + 1) (hw : 0 ≤ w.toInt ∧ w.toInt ≤ 7) (hs : 0 ≤ s.toInt ∧ s.toInt ≤ 99999) : WTM (x, y, w, s) I (u2 (u2 (u2 (u2 (u2 (u2 I 1045 t.toNatClampNeg x) 1046 t.toNatClampNeg y) 1047 t.toNatClampNeg w) 1048 t.toNatClampNeg s) 1000 52 v) 1000 56 b) := fun S hS => by
  unfold waitS
  have hl := hS.2.2.2.1
  have tt := tn (i := t) (by omega)
  have th := tn hh
  rw [if_pos (by omega)]
  obtain ⟨h1, h2, ⟨h3, h4, h5⟩, h8, h9⟩ := hS
  refine ⟨fun k hk => ?_, fun c hc => ?_, ⟨?_, ?_, ?_⟩, ?_, fun i e hq => ?_⟩
  · simp only [u2_v]; simp; exact h1 k hk
  · simp only [u2_v]; simp; exact h2 c hc
  · simp only [u2_v]; simp; exact h3
  · simp only [u2_v]; simp; exact h4
  · rw [u2_self, hb, h5]; rfl
  · rw [u2_v, if_neg (by decide), u2_self]
    have k1 : (1 : Int32).toInt = 1 := rfl
    rw [a_add hv (by omega) (by omega), k1, h8]
    show (S.q.length : Int) + 1 = (((S.q ++ [(x, y, w, s)]).length : Nat) : Int)
    simp
  · have hq : (S.q ++ [(x, y, w, s)])[i]? = some e := hq
    have e51 : (u2 (u2 (u2 (u2 (u2 (u2 I 1045 t.toNatClampNeg x) 1046 t.toNatClampNeg y) 1047 t.toNatClampNeg w) 1048 t.toNatClampNeg s) 1000 52 v) 1000 56 b) 1000 51 = I 1000 51 := by simp [u2_v]
    rw [e51]
    simp only [u2_v]
    by_cases hi : i < S.q.length
    · rw [List.getElem?_append_left hi] at hq
      have hn : ¬ ((I 1000 51).toNatClampNeg + i) % 60 = t.toNatClampNeg := by omega
      simp [hn]
      exact h9 i e hq
    · have hlen : i < (S.q ++ [(x, y, w, s)]).length := (List.getElem?_eq_some_iff.mp hq).1
      simp at hlen
      have hi2 : i = S.q.length := by omega
      subst hi2
      rw [List.getElem?_append_right (Nat.le_refl _)] at hq
      simp at hq
      subst hq
      have hn : ((I 1000 51).toNatClampNeg + S.q.length) % 60 = t.toNatClampNeg := by omega
      simp [hn]
      exact ⟨hw, hs⟩
-- a mirror
def MIM (T : TN) (m x y w s : Int32) (I I2 : MI) : Prop := ∀ S, LSM I S → LSM I2 (mirS T m x y w s S)
theorem LSM.mir {I : MI} {S : SN} (h : LSM I S) (m g : Int32) : LSM (u2 I 1000 53 (I 1000 53 + g)) ((S.nU 4 (S.nu 4 ||| (1 <<< (m &&& 31)))).nA 0 g) := (h.nu3 4 (Or.inr rfl) _).lost g
theorem MIM.n {I : MI} {T : TN} {m x y w s : Int32} (h : (mirT T m s).toInt ≤ 0) : MIM T m x y w s I (u2 I 1000 53 (I 1000 53 + mirG T m s)) := fun S hS => by
  unfold mirS
  rw [if_neg (by omega)]
  exact hS.mir m _
theorem MIM.y {I I2 : MI} {T : TN} {m x y w s : Int32} (h : 0 < (mirT T m s).toInt) (hw : WTM (x + sX w, y + sY w, w, mirT T m s) (u2 I 1000 53 (I 1000 53 + mirG T m s)) I2) : MIM T m x y w s I I2 := fun S hS => by
  unfold mirS
  rw [if_pos h]
  exact hw _ (hS.mir m _)
def nM (I : MI) : Nat := (2000 - (I 1000 55).toInt).toNat
def FXM (T : TN) (I J : MI) (x y w s a b c d : Int32) : Prop := ∀ S, LSM I S → ∃ S2, LSM J S2 ∧ beam T (nM J) x y w s S2 = beam T (nM I) a b c d S
def BMM (T : TN) (I J : MI) (a b c d : Int32) : Prop := ∀ S, LSM I S → ∃ S2, LSM J S2 ∧ beam T (nM I) a b c d S = (nM J, S2)
theorem FXM.z {T : TN} {I : MI} {a b c d : Int32} : FXM T I I a b c d a b c d := fun S hS => ⟨S, hS, rfl⟩
theorem FXM.fin {T : TN} {I J : MI} {x y w s a b c d : Int32} (h : FXM T I J x y w s a b c d) (hs : s.toInt ≤ 0) : BMM T I J a b c d := fun S hS => by
  obtain ⟨S2, h1, h2⟩ := h S hS
  exact ⟨S2, h1, by rw [← h2, beam_end hs]⟩
theorem FXM.full {T : TN} {I J : MI} {x y w s a b c d : Int32} (h : FXM T I J x y w s a b c d) (hs : 0 < s.toInt) (hn : (J 1000 55).toInt = 2000) : BMM T I (u2 J 1000 54 (J 1000 54 + s)) a b c d := fun S hS => by
  obtain ⟨S2, h1, h2⟩ := h S hS
  refine ⟨_, (h1.spilt s).nu3 3 (Or.inl rfl) 1, ?_⟩
  have e1 : nM J = 0 := by unfold nM; omega
  have e2 : nM (u2 J 1000 54 (J 1000 54 + s)) = 0 := by unfold nM; rw [u2_v, if_neg (by decide)]; omega
  rw [← h2, e1, e2, beam_full hs]
theorem FXM.shut {T : TN} {I J : MI} {v x y w s a b c d : Int32} (h : FXM T I J x y w s a b c d) (hs : 0 < s.toInt) (hn : (J 1000 55).toInt < 2000) (h0 : 0 ≤ (J 1000 55).toInt) (hv : v.toInt = (J 1000 55).toInt + 1) (ho : ¬ opn T x y) : BMM T I (u2 (u2 J 1000 55 v) 1000 54 (J 1000 54 + s)) a b c d := fun S hS => by
  obtain ⟨S2, h1, h2⟩ := h S hS
  have := (h1.cells v).spilt s
  rw [u2_v, if_neg (by decide)] at this
  refine ⟨_, this, ?_⟩
  have e1 : nM J = nM (u2 (u2 J 1000 55 v) 1000 54 (J 1000 54 + s)) + 1 := by unfold nM; rw [u2_v, if_neg (by decide), u2_self]; omega
  rw [← h2, e1, beam_shut hs ho]
def STM (T : TN) (x y w s : Int32) (J J2 : MI) : Prop := ∀ S, LSM J S → LSM J2 (stpS T x y w s S)
theorem FXM.step {T : TN} {I J J2 : MI} {x y w s x2 y2 w2 s2 a b c d : Int32} (h : FXM T I J x y w s a b c d) (hs : 0 < s.toInt) (hn : (J 1000 55).toInt < 2000) (h0 : 0 ≤ (J 1000 55).toInt) (hv : (J2 1000 55).toInt = (J 1000 55).toInt + 1) (ho : opn T x y) (hS2 : STM T x y w s J J2) (ew : w2 = stpW T x y w) (es : s2 = stpL T x y s) (ex : x2 = x + sX w2) (ey : y2 = y + sY w2) : FXM T I J2 x2 y2 w2 s2 a b c d := fun S hS => by
  obtain ⟨S2, h1, h2⟩ := h S hS
  refine ⟨_, hS2 S2 h1, ?_⟩
  have e1 : nM J = nM J2 + 1 := by unfold nM; omega
  rw [← h2, e1, beam_step hs ho, ex, ey, es, ew]
theorem STM.n {T : TN} {x y w s : Int32} {J J2 : MI} (h : CEm T x y s J J2) (hm : ¬ isM T (clN x y)) : STM T x y w s J J2 := fun S hS => by
  unfold stpS
  rw [if_neg hm]
  exact h S hS
theorem STM.y {T : TN} {x y w s m l : Int32} {J J1 J2 : MI} (h : CEm T x y s J J1) (hm : isM T (clN x y)) (em : m = T.mat (clN x y)) (el : l = cellL T x y s) (h2 : MIM T m x y w l J1 J2) : STM T x y w s J J2 := fun S hS => by
  unfold stpS
  rw [if_pos hm, ← em, ← el]
  exact h2 _ (h S hS)
-- what a town that light can go through has: numbers within their bounds
def TRk (T : TN) : Prop := (0 ≤ T.air.toInt ∧ T.air.toInt ≤ 1000) ∧ (∀ c, c < 576 → (T.rock c).toInt = 0 ∨ (T.rock c).toInt = 1) ∧ (∀ k, k < 8 → 0 ≤ (T.tk k).toInt ∧ (T.tk k).toInt ≤ 1000) ∧ ∀ k, k < 24 → (0 ≤ (T.los k).toInt ∧ (T.los k).toInt ≤ 1000) ∧ (0 ≤ (T.dus k).toInt ∧ (T.dus k).toInt ≤ 1000) ∧ (0 ≤ (T.thr k).toInt ∧ (T.thr k).toInt ≤ 1000) ∧ 0 ≤ (T.sla k).toInt ∧ (T.sla k).toInt ≤ 7
-- all beams
def SHM (T : TN) (J : MI) (x y w s : Int32) : Prop := ∃ f S2, LSM J S2 ∧ drain T f (nM J, S2) = shineP T x y w s ∧ S2.q.length + nM J ≤ f
def SHG (T : TN) (J : MI) (x y w s : Int32) : Prop := ∃ S2, LSM J S2 ∧ shineP T x y w s = (nM J, S2)
theorem SHM.z {T : TN} {I0 J : MI} {x y w s : Int32} (h0 : LSM I0 SZ) (hn : nM I0 = 2000) (h : BMM T I0 J x y w s) : SHM T J x y w s := by
  obtain ⟨S2, h1, h2⟩ := h SZ h0
  rw [hn] at h2
  refine ⟨2000, S2, h1, by unfold shineP; rw [h2], ?_⟩
  have := (beam_q T 2000 x y w s SZ).2.1
  rw [h2] at this
  exact this
theorem SHM.fin {T : TN} {J : MI} {x y w s : Int32} (h : SHM T J x y w s) (hc : (J 1000 52).toInt ≤ 0) : SHG T J x y w s := by
  obtain ⟨f, S2, h1, h2, h3⟩ := h
  have hl := h1.2.2.2.1
  have hq : S2.q = [] := List.length_eq_zero_iff.mp (by omega)
  exact ⟨S2, h1, by rw [← h2, drain_nil (p := (nM J, S2)) hq]⟩
theorem SHM.keep {T : TN} {J J2 : MI} {x y w s : Int32} (h : SHM T J x y w s) (h1 : ∀ n, 1045 ≤ n → n ≤ 1050 → J2 n = J n) (h10 : ∀ k, 51 ≤ k ∧ k ≤ 56 → J2 1000 k = J 1000 k) : SHM T J2 x y w s := by
  obtain ⟨f, S2, g1, g2, g3⟩ := h
  have e : nM J2 = nM J := by unfold nM; rw [h10 55 (by decide)]
  exact ⟨f, S2, g1.of h1 (fun k hk => h10 k (by omega)), by rw [e]; exact g2, by rw [e]; exact g3⟩
-- the first of those that wait
theorem SHM.first {T : TN} {J : MI} {x y w s : Int32} (h : SHM T J x y w s) (hc : 0 < (J 1000 52).toInt) (hh : 0 ≤ (J 1000 51).toInt ∧ (J 1000 51).toInt < 60) : (0 ≤ (J 1047 (J 1000 51).toNatClampNeg).toInt ∧ (J 1047 (J 1000 51).toNatClampNeg).toInt ≤ 7) ∧ 0 ≤ (J 1048 (J 1000 51).toNatClampNeg).toInt ∧ (J 1048 (J 1000 51).toNatClampNeg).toInt ≤ 99999 := by
  obtain ⟨f, S, g1, g2, g3⟩ := h
  have hl := g1.2.2.2.1
  cases hq : S.q with
  | nil => rw [hq] at hl; simp at hl; omega
  | cons e q =>
    have th := tn hh.1
    have he := g1.2.2.2.2 0 e (by rw [hq]; rfl)
    rw [show ((J 1000 51).toNatClampNeg + 0) % 60 = (J 1000 51).toNatClampNeg from by omega] at he
    rw [he.1] at he
    exact he.2
theorem SHM.next {T : TN} {J J1 J2 : MI} {x y w s h1v c1v : Int32} (h : SHM T J x y w s) (hc : 0 < (J 1000 52).toInt) (hh : 0 ≤ (J 1000 51).toInt ∧ (J 1000 51).toInt < 60) (e1 : J1 = u2 (u2 J 1000 51 h1v) 1000 52 c1v) (eh : h1v.toInt = ((J 1000 51).toInt + 1) % 60) (ec : c1v.toInt = (J 1000 52).toInt - 1) (hb : BMM T J1 J2 (J 1045 (J 1000 51).toNatClampNeg) (J 1046 (J 1000 51).toNatClampNeg) (J 1047 (J 1000 51).toNatClampNeg) (J 1048 (J 1000 51).toNatClampNeg)) : SHM T J2 x y w s := by
  obtain ⟨f, S, g1, g2, g3⟩ := h
  have hl := g1.2.2.2.1
  cases hq : S.q with
  | nil => rw [hq] at hl; simp at hl; omega
  | cons e q =>
    have th := tn hh.1
    have t1 := tn (i := h1v) (by omega)
    have he := g1.2.2.2.2 0 e (by rw [hq]; rfl)
    rw [show ((J 1000 51).toNatClampNeg + 0) % 60 = (J 1000 51).toNatClampNeg from by omega] at he
    have hS1 : LSM J1 (S.qU q) := by
      obtain ⟨a1, a2, ⟨a3, a4, a5⟩, a8, a9⟩ := g1
      rw [e1]
      refine ⟨fun k hk => ?_, fun c hc => ?_, ⟨?_, ?_, ?_⟩, ?_, fun i e' hq' => ?_⟩
      · rw [u2_ne _ _ _ (by decide), u2_ne _ _ _ (by decide)]; exact a1 k hk
      · rw [u2_ne _ _ _ (by decide), u2_ne _ _ _ (by decide)]; exact a2 c hc
      · rw [u2_v, if_neg (by decide), u2_v, if_neg (by decide)]; exact a3
      · rw [u2_v, if_neg (by decide), u2_v, if_neg (by decide)]; exact a4
      · rw [u2_v, if_neg (by decide), u2_v, if_neg (by decide)]; exact a5
      · rw [u2_self, ec, hl, hq]
        show _ = (q.length : Int)
        simp
      · have e51 : u2 (u2 J 1000 51 h1v) 1000 52 c1v 1000 51 = h1v := by simp [u2_v]
        have en : ∀ n, n ≠ 1000 → u2 (u2 J 1000 51 h1v) 1000 52 c1v n = J n := fun n hn => by rw [u2_ne _ _ _ hn, u2_ne _ _ _ hn]
        rw [e51, en 1045 (by decide), en 1046 (by decide), en 1047 (by decide), en 1048 (by decide)]
        have := a9 (i + 1) e' (by rw [hq]; exact hq')
        rw [show (h1v.toNatClampNeg + i) % 60 = ((J 1000 51).toNatClampNeg + (i + 1)) % 60 from by omega]
        exact this
    obtain ⟨S2, b1, b2⟩ := hb _ hS1
    have hn : nM J1 = nM J := by unfold nM; rw [e1, u2_v, if_neg (by decide), u2_v, if_neg (by decide)]
    have hf : ∃ f', f = f' + 1 := by
      rw [hq] at g3
      simp only [List.length_cons] at g3
      exact ⟨f - 1, by omega⟩
    obtain ⟨f', rfl⟩ := hf
    refine ⟨f', S2, b1, ?_, ?_⟩
    · rw [← g2, drain_cons (p := (nM J, S)) hq, ← b2, hn, he.1]
    · have hq2 := (beam_q T (nM J1) (J 1045 (J 1000 51).toNatClampNeg) (J 1046 (J 1000 51).toNatClampNeg) (J 1047 (J 1000 51).toNatClampNeg) (J 1048 (J 1000 51).toNatClampNeg) (S.qU q)).2.1
      rw [b2, hn] at hq2
      have hq3 : S2.q.length + nM J2 ≤ q.length + nM J := hq2
      rw [hq] at g3
      simp only [List.length_cons] at g3
      omega
