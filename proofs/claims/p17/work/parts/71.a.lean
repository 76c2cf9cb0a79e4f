-- what calls answer and change, where answers are compared
def okS (a b c d : Int32) : Prop := (0 ≤ a.toInt ∧ a.toInt ≤ 11) ∧ (0 ≤ b.toInt ∧ b.toInt ≤ 23) ∧ ((c.toInt = -1 ∧ d.toInt = 0) ∨ ((0 ≤ c.toInt ∧ c.toInt ≤ 7) ∧ 0 ≤ d.toInt ∧ d.toInt ≤ 99999))
def ASK (ok : Prop) (r v v2 a : Int32) : Prop := (ok ∧ r = v ∧ v2 = a) ∨ (¬ ok ∧ r = -1 ∧ v2 = v)
def T10 (I : MI) (a b : Int32) : Prop := I 1001 0 = 1 ∧ I 1001 1 = a ∧ I 1001 2 = b ∧ I 1001 5 = 0 ∧ I 1001 6 = 0 ∧ I 1001 7 = 0 ∧ I 1001 8 = 0 ∧ I 1001 9 = 0
def CPF (b c : Nat) (I I2 : MI) : Prop := (∀ j, j < 10 → I2 b j = I c j) ∧ (∀ j, j < 576 → I2 (b + 1) j = I (c + 1) j) ∧ (∀ j, j < 576 → I2 (b + 2) j = I (c + 2) j) ∧ (∀ j, j < 576 → I2 (b + 3) j = I (c + 3) j) ∧ (∀ j, j < 576 → I2 (b + 4) j = I (c + 4) j) ∧ (∀ j, j < 288 → I2 (b + 5) j = I (c + 5) j) ∧ (∀ j, j < 288 → I2 (b + 6) j = I (c + 6) j) ∧ (∀ j, j < 240 → I2 (b + 7) j = I (c + 7) j) ∧ (∀ j, j < 56 → I2 (b + 8) j = I (c + 8) j)
theorem cpy_at {I : MI} {x y : Nat} {n : Int32} {N j : Nat} (hn : n.toNatClampNeg = N) (hj : j < N) : cpyI I x y 0 0 n y j = I x j := by
  subst hn
  show (if y = y then va_cpy (I x) (I y) (0 : Int32).toNatClampNeg (0 : Int32).toNatClampNeg n.toNatClampNeg else I y) j = I x j
  rw [if_pos rfl]
  show (if 0 ≤ j ∧ j < 0 + n.toNatClampNeg then I x (0 + (j - 0)) else I y j) = I x j
  rw [if_pos ⟨by omega, by omega⟩]
  congr 1
  omega
theorem Kp.apart {R P : List (Nat × Nat)} {I I2 : MI} (h : Kp R P I I2) (lo hi : Nat) (hR : (R.all (fun r => decide (lo ≤ r.1) && decide (r.2 ≤ hi)) && P.all (fun q => decide (lo ≤ q.1) && decide (q.1 < hi))) = true) (n : Nat) (hn : ¬ (lo ≤ n ∧ n < hi)) : I2 n = I n := by
  simp only [Bool.and_eq_true, List.all_eq_true, decide_eq_true_eq] at hR
  funext k
  refine h n k ?_ ?_
  · cases hq : inR R n with
    | false => rfl
    | true =>
      exfalso
      obtain ⟨r, hr, hb⟩ := List.any_eq_true.mp hq
      have h1 := hR.1 r hr
      simp at hb
      omega
  · cases hq : P.contains (n, k) with
    | false => rfl
    | true =>
      exfalso
      have h3 : (n, k) ∈ P := by simpa using hq
      have h1 := hR.2 (n, k) h3
      simp at h1
      omega
def IMGX (G G2 : MG) (I I2 : MI) (r a : Int32) : Prop := ((0 ≤ a.toInt ∧ a.toInt ≤ 3 ∧ 0 < (I 100 0).toInt) ∧ r = I 100 6 ∧ ∃ k : Nat, a.toInt = k ∧ G2 1 k = 120 + 10 * k ∧ CPF (120 + 10 * k) 100 I I2 ∧ (∀ n, ¬ (120 + 10 * k ≤ n ∧ n < 129 + 10 * k) → I2 n = I n) ∧ ∀ j, j ≠ k → G2 1 j = G 1 j) ∨ (¬ (0 ≤ a.toInt ∧ a.toInt ≤ 3 ∧ 0 < (I 100 0).toInt) ∧ r = -1 ∧ I2 = I ∧ G2 = G)
def BCKX (G : MG) (I I2 : MI) (r a : Int32) : Prop := (∃ k : Nat, k < 4 ∧ a.toInt = k ∧ G 1 k = 120 + 10 * k ∧ r = I2 100 6 ∧ CPF 100 (120 + 10 * k) I I2) ∨ ((∀ k : Nat, k < 4 → a.toInt = k → G 1 k = 0) ∧ r = -1 ∧ I2 = I)
set_option maxHeartbeats 4000000 in
set_option maxRecDepth 20000 in
theorem V_X9_sun_f (l : Launch) (D : va_G) (A : Nat → Prop) (ad : Nat → Nat) (ns : List Nat) (I : MI) (L : ML) (G : MG) (a0 : Int32) (a1 : Int32) (a2 : Int32) (a3 : Int32) (hG : SGC ns G) (hI : INV I) : Met l yX9_sun (wd yX9_sun cX9_sun 6 (some .boolean)) ({ frames := 1, cells := 0, slots := 0, locals := 22 }) (va_Pc [.ref (ad (0)), .int a0, .int a1, .int a2, .int a3] (PM D A ad ns I L G)) (va_Qi (fun r u => ∃ I2 L2, u = (ad, ns, I2, L2, G) ∧ INV I2 ∧ Kp [(105, 107)] [] I I2 ∧ (Bo r (0 < (I 100 0).toInt ∧ okS a0 a1 a2 a3))) (BM D A) A) 0 0 A := by
  refine m_ofW (by decide) (Nat.le_of_ble_eq_true rfl) ?_
  intro p e s m below meth c ls args hC hE hM hA hS hl
  obtain ⟨hx, hb, hml, hown, hts, hr, hlocks, hin⟩ := hC
  have km1 : (-1 : Int32).toInt = -1 := by decide
  have k0 : (0 : Int32).toInt = 0 := by decide
  have k1 : (1 : Int32).toInt = 1 := by decide
  have k7 : (7 : Int32).toInt = 7 := by decide
  have k11 : (11 : Int32).toInt = 11 := by decide
  have k23 : (23 : Int32).toInt = 23 := by decide
  have k24 : (24 : Int32).toInt = 24 := by decide
  have k99999 : (99999 : Int32).toInt = 99999 := by decide
  have hK : Kp [(105, 107)] [] I I := Kp.rf
  have hl : lv_has ls 6 [(0, .ref (ad (0))), (1, .int (a0)), (2, .int (a1)), (3, .int (a2)), (4, .int (a3))] := hl
  refine lv_aload_n hx hb dX9_sun_0 rfl (lv_at hl 0 rfl) ?_
  refine m_getr (0) 0 (100) hx hb hts hown hE oc9 hM (hG.1 0 (by decide)) rfl (by decide) rfl (hG.2 (0, 0, 100) (by decide)) (by decide) tb_398 dX9_sun_1 ?_
  refine m_calli (m_runV (100) (As := []) (rest := []) hx hb hml hown hts hE hM hS hA ce_X8_isBegun tb_484 (V_X8_isBegun_100 l D A ad ns I L G hG hI) rfl rfl ⟨Nat.le_of_ble_eq_true rfl, Nat.le_of_ble_eq_true rfl⟩ (hG.1 100 (by decide)) rfl rfl (by decide) rfl hl.1 rfl (Nat.le_of_ble_eq_true rfl) dX9_sun_4 ⟨Nat.le_of_ble_eq_true rfl, Nat.le_of_ble_eq_true rfl⟩) hS (fun r1 u H locs hw hM hS => ?_)
  obtain ⟨rfl, xr1⟩ := hw
  have hM : Mem D A ad ns I L G H := hM
  have yr1 := bo01 xr1
  refine lv_if_eq (tgt := 30) hx hb dX9_sun_7 (by decide) (fun c2 => ?_) (fun c2 => ?_)
  · have hc2 := c2
    have q2 := xr1.f hc2
    refine lv_iconst (v := (0)) hx hb dX9_sun_30 (by decide) ?_
    exact m_zret hx hb hr rfl hlocks hM hS (Nat.le_of_ble_eq_true rfl) (Nat.le_of_ble_eq_true rfl) ⟨_, _, rfl, hI, hK, (Bo.n (by unfold okS; omega))⟩ dX9_sun_31
  · have hc2 := c2
    have q2 := xr1.t hc2
    refine lv_iload_n hx hb dX9_sun_10 rfl (lv_at hl 1 rfl) ?_
    refine lv_iconst (v := (0)) hx hb dX9_sun_11 (by decide) ?_
    refine lv_bipush (v := (11)) hx hb dX9_sun_12 (by decide) ?_
    refine m_calli (m_runS (As := [.int (a0), .int (0), .int (11)]) (rest := []) hx hb hml hown hts hE hM hS hA ce_X9_isWithin tb_451 (V_X9_isWithin l D A ad ns I L G (a0) (0) (11) hI) rfl rfl ⟨Nat.le_of_ble_eq_true rfl, Nat.le_of_ble_eq_true rfl⟩  rfl hl.1 rfl (Nat.le_of_ble_eq_true rfl) dX9_sun_14 ⟨Nat.le_of_ble_eq_true rfl, Nat.le_of_ble_eq_true rfl⟩) hS (fun r3 u H locs hw hM hS => ?_)
    obtain ⟨rfl, xr3⟩ := hw
    have hM : Mem D A ad ns I L G H := hM
    have yr3 := bo01 xr3
    refine lv_if_eq (tgt := 30) hx hb dX9_sun_17 (by decide) (fun c4 => ?_) (fun c4 => ?_)
    · have hc4 := c4
      have q4 := xr3.f hc4
      refine lv_iconst (v := (0)) hx hb dX9_sun_30 (by decide) ?_
      exact m_zret hx hb hr rfl hlocks hM hS (Nat.le_of_ble_eq_true rfl) (Nat.le_of_ble_eq_true rfl) ⟨_, _, rfl, hI, hK, (Bo.n (by unfold okS; omega))⟩ dX9_sun_31
    · have hc4 := c4
      have q4 := xr3.t hc4
      refine lv_iload_n hx hb dX9_sun_20 rfl (lv_at hl 2 rfl) ?_
      refine lv_iconst (v := (0)) hx hb dX9_sun_21 (by decide) ?_
      refine lv_bipush (v := (23)) hx hb dX9_sun_22 (by decide) ?_
      refine m_calli (m_runS (As := [.int (a1), .int (0), .int (23)]) (rest := []) hx hb hml hown hts hE hM hS hA ce_X9_isWithin tb_451 (V_X9_isWithin l D A ad ns I L G (a1) (0) (23) hI) rfl rfl ⟨Nat.le_of_ble_eq_true rfl, Nat.le_of_ble_eq_true rfl⟩  rfl hl.1 rfl (Nat.le_of_ble_eq_true rfl) dX9_sun_24 ⟨Nat.le_of_ble_eq_true rfl, Nat.le_of_ble_eq_true rfl⟩) hS (fun r5 u H locs hw hM hS => ?_)
      obtain ⟨rfl, xr5⟩ := hw
      have hM : Mem D A ad ns I L G H := hM
      have yr5 := bo01 xr5
      refine lv_if_ne (tgt := 32) hx hb dX9_sun_27 (by decide) (fun c6 => ?_) (fun c6 => ?_)
      · have hc6 := c6
        have q6 := xr5.t hc6
        refine lv_iload_n hx hb dX9_sun_32 rfl (lv_at hl 3 rfl) ?_
        refine lv_iconst (v := (-1)) hx hb dX9_sun_33 (by decide) ?_
        refine lv_icmp_ne (tgt := 46) hx hb dX9_sun_34 (by decide) (fun c7 => ?_) (fun c7 => ?_)
        · have hc7 := c7
          have q7 := q_ne hc7
          refine lv_iconst (v := (0)) hx hb dX9_sun_46 (by decide) ?_
          refine lv_istore (lv' := [(5, .int (0)), (0, .ref (ad (0))), (1, .int (a0)), (2, .int (a1)), (3, .int (a2)), (4, .int (a3))]) hx hb dX9_sun_47 hl (by decide) rfl (fun ls hl => ?_)
          refine lv_iload hx hb dX9_sun_49 (lv_at hl 0 rfl) ?_
          refine lv_if_ne (tgt := 77) hx hb dX9_sun_51 (by decide) (fun c8 => ?_) (fun c8 => ?_)
          · exact absurd c8 (by decide)
          · have hc8 := c8
            have q8 := q_eq hc8
            refine lv_iload_n hx hb dX9_sun_54 rfl (lv_at hl 4 rfl) ?_
            refine lv_iconst (v := (0)) hx hb dX9_sun_55 (by decide) ?_
            refine lv_bipush (v := (7)) hx hb dX9_sun_56 (by decide) ?_
            refine m_calli (m_runS (As := [.int (a2), .int (0), .int (7)]) (rest := []) hx hb hml hown hts hE hM hS hA ce_X9_isWithin tb_451 (V_X9_isWithin l D A ad ns I L G (a2) (0) (7) hI) rfl rfl ⟨Nat.le_of_ble_eq_true rfl, Nat.le_of_ble_eq_true rfl⟩  rfl hl.1 rfl (Nat.le_of_ble_eq_true rfl) dX9_sun_58 ⟨Nat.le_of_ble_eq_true rfl, Nat.le_of_ble_eq_true rfl⟩) hS (fun r9 u H locs hw hM hS => ?_)
            obtain ⟨rfl, xr9⟩ := hw
            have hM : Mem D A ad ns I L G H := hM
            have yr9 := bo01 xr9
            refine lv_if_eq (tgt := 75) hx hb dX9_sun_61 (by decide) (fun c10 => ?_) (fun c10 => ?_)
            · have hc10 := c10
              have q10 := xr9.f hc10
              refine lv_iconst (v := (0)) hx hb dX9_sun_75 (by decide) ?_
              exact m_zret hx hb hr rfl hlocks hM hS (Nat.le_of_ble_eq_true rfl) (Nat.le_of_ble_eq_true rfl) ⟨_, _, rfl, hI, hK, (Bo.n (by unfold okS; omega))⟩ dX9_sun_76
            · have hc10 := c10
              have q10 := xr9.t hc10
              refine lv_iload hx hb dX9_sun_64 (lv_at hl 5 rfl) ?_
              refine lv_iconst (v := (0)) hx hb dX9_sun_66 (by decide) ?_
              refine lv_ldc (v := (99999)) hx hb hown (hts _ tb_488) dX9_sun_67 ?_
              refine m_calli (m_runS (As := [.int (a3), .int (0), .int (99999)]) (rest := []) hx hb hml hown hts hE hM hS hA ce_X9_isWithin tb_451 (V_X9_isWithin l D A ad ns I L G (a3) (0) (99999) hI) rfl rfl ⟨Nat.le_of_ble_eq_true rfl, Nat.le_of_ble_eq_true rfl⟩  rfl hl.1 rfl (Nat.le_of_ble_eq_true rfl) dX9_sun_69 ⟨Nat.le_of_ble_eq_true rfl, Nat.le_of_ble_eq_true rfl⟩) hS (fun r11 u H locs hw hM hS => ?_)
              obtain ⟨rfl, xr11⟩ := hw
              have hM : Mem D A ad ns I L G H := hM
              have yr11 := bo01 xr11
              refine lv_if_ne (tgt := 77) hx hb dX9_sun_72 (by decide) (fun c12 => ?_) (fun c12 => ?_)
              · have hc12 := c12
                have q12 := xr11.t hc12
                refine lv_aload_n hx hb dX9_sun_77 rfl (lv_at hl 1 rfl) ?_
                refine m_getr (0) 0 (100) hx hb hts hown hE oc9 hM (hG.1 0 (by decide)) rfl (by decide) rfl (hG.2 (0, 0, 100) (by decide)) (by decide) tb_398 dX9_sun_78 ?_
                refine m_getr (100) 14 (105) hx hb hts hown hE oc8 hM (hG.1 100 (by decide)) rfl (by decide) rfl (hG.2 (100, 14, 105) (by decide)) (by decide) tb_79 dX9_sun_81 ?_
                refine lv_iload_n hx hb dX9_sun_84 rfl (lv_at hl 2 rfl) ?_
                refine lv_bipush (v := (24)) hx hb dX9_sun_85 (by decide) ?_
                refine lv_imul hx hb dX9_sun_87 ?_
                refine lv_topi (fun v13 ev13 => ?_)
                have tv13 := a_mulR (c := 24) ev13 (by decide) (by omega) (by omega)
                refine lv_iload_n hx hb dX9_sun_88 rfl (lv_at hl 3 rfl) ?_
                refine lv_iadd hx hb dX9_sun_89 ?_
                refine lv_topi (fun v14 ev14 => ?_)
                have tv14 := a_add ev14 (by omega) (by omega)
                refine lv_iload_n hx hb dX9_sun_90 rfl (lv_at hl 4 rfl) ?_
                refine m_iast (105) hx hb hE hM hS (hG.1 105 (by decide)) rfl (vp_in_iff.mpr (by omega)) dX9_sun_91 (fun H locs I15 eI15 hM hS => ?_)
                subst eI15
                have hI := hI.put (n := 105) (k := ((v14).toNatClampNeg)) (v := a2) (lo := -1) (hi := 7) rfl (by first | omega | decide)
                have hK := hK.put (n := 105) (k := ((v14).toNatClampNeg)) (v := a2) (by first | rfl | simp [inR])
                refine lv_aload_n hx hb dX9_sun_92 rfl (lv_at hl 1 rfl) ?_
                refine m_getr (0) 0 (100) hx hb hts hown hE oc9 hM (hG.1 0 (by decide)) rfl (by decide) rfl (hG.2 (0, 0, 100) (by decide)) (by decide) tb_398 dX9_sun_93 ?_
                refine m_getr (100) 15 (106) hx hb hts hown hE oc8 hM (hG.1 100 (by decide)) rfl (by decide) rfl (hG.2 (100, 15, 106) (by decide)) (by decide) tb_81 dX9_sun_96 ?_
                refine lv_iload_n hx hb dX9_sun_99 rfl (lv_at hl 2 rfl) ?_
                refine lv_bipush (v := (24)) hx hb dX9_sun_100 (by decide) ?_
                refine lv_imul hx hb dX9_sun_102 ?_
                refine lv_topi (fun v16 ev16 => ?_)
                have tv16 := a_mulR (c := 24) ev16 (by decide) (by omega) (by omega)
                refine lv_iload_n hx hb dX9_sun_103 rfl (lv_at hl 3 rfl) ?_
                refine lv_iadd hx hb dX9_sun_104 ?_
                refine lv_topi (fun v17 ev17 => ?_)
                have tv17 := a_add ev17 (by omega) (by omega)
                refine lv_iload hx hb dX9_sun_105 (lv_at hl 5 rfl) ?_
                refine m_iast (106) hx hb hE hM hS (hG.1 106 (by decide)) rfl (vp_in_iff.mpr (by omega)) dX9_sun_107 (fun H locs I18 eI18 hM hS => ?_)
                subst eI18
                have hI := hI.putF (n := 106) (k := ((v17).toNatClampNeg)) (v := a3) rfl
                have hK := hK.put (n := 106) (k := ((v17).toNatClampNeg)) (v := a3) (by first | rfl | simp [inR])
                refine lv_iconst (v := (1)) hx hb dX9_sun_108 (by decide) ?_
                exact m_zret hx hb hr rfl hlocks hM hS (Nat.le_of_ble_eq_true rfl) (Nat.le_of_ble_eq_true rfl) ⟨_, _, rfl, hI, hK, (Bo.y (by unfold okS; omega))⟩ dX9_sun_109
              · have hc12 := c12
                have q12 := xr11.f hc12
                refine lv_iconst (v := (0)) hx hb dX9_sun_75 (by decide) ?_
                exact m_zret hx hb hr rfl hlocks hM hS (Nat.le_of_ble_eq_true rfl) (Nat.le_of_ble_eq_true rfl) ⟨_, _, rfl, hI, hK, (Bo.n (by unfold okS; omega))⟩ dX9_sun_76
        · have hc7 := c7
          have q7 := q_eq hc7
          refine lv_iload hx hb dX9_sun_37 (lv_at hl 4 rfl) ?_
          refine lv_if_ne (tgt := 46) hx hb dX9_sun_39 (by decide) (fun c19 => ?_) (fun c19 => ?_)
          · have hc19 := c19
            have q19 := q_ne hc19
            refine lv_iconst (v := (0)) hx hb dX9_sun_46 (by decide) ?_
            refine lv_istore (lv' := [(5, .int (0)), (0, .ref (ad (0))), (1, .int (a0)), (2, .int (a1)), (3, .int (a2)), (4, .int (a3))]) hx hb dX9_sun_47 hl (by decide) rfl (fun ls hl => ?_)
            refine lv_iload hx hb dX9_sun_49 (lv_at hl 0 rfl) ?_
            refine lv_if_ne (tgt := 77) hx hb dX9_sun_51 (by decide) (fun c20 => ?_) (fun c20 => ?_)
            · exact absurd c20 (by decide)
            · have hc20 := c20
              have q20 := q_eq hc20
              refine lv_iload_n hx hb dX9_sun_54 rfl (lv_at hl 4 rfl) ?_
              refine lv_iconst (v := (0)) hx hb dX9_sun_55 (by decide) ?_
              refine lv_bipush (v := (7)) hx hb dX9_sun_56 (by decide) ?_
              refine m_calli (m_runS (As := [.int (a2), .int (0), .int (7)]) (rest := []) hx hb hml hown hts hE hM hS hA ce_X9_isWithin tb_451 (V_X9_isWithin l D A ad ns I L G (a2) (0) (7) hI) rfl rfl ⟨Nat.le_of_ble_eq_true rfl, Nat.le_of_ble_eq_true rfl⟩  rfl hl.1 rfl (Nat.le_of_ble_eq_true rfl) dX9_sun_58 ⟨Nat.le_of_ble_eq_true rfl, Nat.le_of_ble_eq_true rfl⟩) hS (fun r21 u H locs hw hM hS => ?_)
              obtain ⟨rfl, xr21⟩ := hw
              have hM : Mem D A ad ns I L G H := hM
              have yr21 := bo01 xr21
              refine lv_if_eq (tgt := 75) hx hb dX9_sun_61 (by decide) (fun c22 => ?_) (fun c22 => ?_)
              · have hc22 := c22
                have q22 := xr21.f hc22
                refine lv_iconst (v := (0)) hx hb dX9_sun_75 (by decide) ?_
                exact m_zret hx hb hr rfl hlocks hM hS (Nat.le_of_ble_eq_true rfl) (Nat.le_of_ble_eq_true rfl) ⟨_, _, rfl, hI, hK, (Bo.n (by unfold okS; omega))⟩ dX9_sun_76
              · have hc22 := c22
                have q22 := xr21.t hc22
                refine lv_iload hx hb dX9_sun_64 (lv_at hl 5 rfl) ?_
                refine lv_iconst (v := (0)) hx hb dX9_sun_66 (by decide) ?_
                refine lv_ldc (v := (99999)) hx hb hown (hts _ tb_488) dX9_sun_67 ?_
                refine m_calli (m_runS (As := [.int (a3), .int (0), .int (99999)]) (rest := []) hx hb hml hown hts hE hM hS hA ce_X9_isWithin tb_451 (V_X9_isWithin l D A ad ns I L G (a3) (0) (99999) hI) rfl rfl ⟨Nat.le_of_ble_eq_true rfl, Nat.le_of_ble_eq_true rfl⟩  rfl hl.1 rfl (Nat.le_of_ble_eq_true rfl) dX9_sun_69 ⟨Nat.le_of_ble_eq_true rfl, Nat.le_of_ble_eq_true rfl⟩) hS (fun r23 u H locs hw hM hS => ?_)
                obtain ⟨rfl, xr23⟩ := hw
                have hM : Mem D A ad ns I L G H := hM
                have yr23 := bo01 xr23
                refine lv_if_ne (tgt := 77) hx hb dX9_sun_72 (by decide) (fun c24 => ?_) (fun c24 => ?_)
                · have hc24 := c24
                  have q24 := xr23.t hc24
                  refine lv_aload_n hx hb dX9_sun_77 rfl (lv_at hl 1 rfl) ?_
                  refine m_getr (0) 0 (100) hx hb hts hown hE oc9 hM (hG.1 0 (by decide)) rfl (by decide) rfl (hG.2 (0, 0, 100) (by decide)) (by decide) tb_398 dX9_sun_78 ?_
                  refine m_getr (100) 14 (105) hx hb hts hown hE oc8 hM (hG.1 100 (by decide)) rfl (by decide) rfl (hG.2 (100, 14, 105) (by decide)) (by decide) tb_79 dX9_sun_81 ?_
                  refine lv_iload_n hx hb dX9_sun_84 rfl (lv_at hl 2 rfl) ?_
                  refine lv_bipush (v := (24)) hx hb dX9_sun_85 (by decide) ?_
                  refine lv_imul hx hb dX9_sun_87 ?_
                  refine lv_topi (fun v25 ev25 => ?_)
                  have tv25 := a_mulR (c := 24) ev25 (by decide) (by omega) (by omega)
                  refine lv_iload_n hx hb dX9_sun_88 rfl (lv_at hl 3 rfl) ?_
                  refine lv_iadd hx hb dX9_sun_89 ?_
                  refine lv_topi (fun v26 ev26 => ?_)
                  have tv26 := a_add ev26 (by omega) (by omega)
                  refine lv_iload_n hx hb dX9_sun_90 rfl (lv_at hl 4 rfl) ?_
                  refine m_iast (105) hx hb hE hM hS (hG.1 105 (by decide)) rfl (vp_in_iff.mpr (by omega)) dX9_sun_91 (fun H locs I27 eI27 hM hS => ?_)
                  subst eI27
                  have hI := hI.put (n := 105) (k := ((v26).toNatClampNeg)) (v := a2) (lo := -1) (hi := 7) rfl (by first | omega | decide)
                  have hK := hK.put (n := 105) (k := ((v26).toNatClampNeg)) (v := a2) (by first | rfl | simp [inR])
                  refine lv_aload_n hx hb dX9_sun_92 rfl (lv_at hl 1 rfl) ?_
                  refine m_getr (0) 0 (100) hx hb hts hown hE oc9 hM (hG.1 0 (by decide)) rfl (by decide) rfl (hG.2 (0, 0, 100) (by decide)) (by decide) tb_398 dX9_sun_93 ?_
                  refine m_getr (100) 15 (106) hx hb hts hown hE oc8 hM (hG.1 100 (by decide)) rfl (by decide) rfl (hG.2 (100, 15, 106) (by decide)) (by decide) tb_81 dX9_sun_96 ?_
                  refine lv_iload_n hx hb dX9_sun_99 rfl (lv_at hl 2 rfl) ?_
                  refine lv_bipush (v := (24)) hx hb dX9_sun_100 (by decide) ?_
                  refine lv_imul hx hb dX9_sun_102 ?_
                  refine lv_topi (fun v28 ev28 => ?_)
                  have tv28 := a_mulR (c := 24) ev28 (by decide) (by omega) (by omega)
                  refine lv_iload_n hx hb dX9_sun_103 rfl (lv_at hl 3 rfl) ?_
                  refine lv_iadd hx hb dX9_sun_104 ?_
                  refine lv_topi (fun v29 ev29 => ?_)
                  have tv29 := a_add ev29 (by omega) (by omega)
                  refine lv_iload hx hb dX9_sun_105 (lv_at hl 5 rfl) ?_
                  refine m_iast (106) hx hb hE hM hS (hG.1 106 (by decide)) rfl (vp_in_iff.mpr (by omega)) dX9_sun_107 (fun H locs I30 eI30 hM hS => ?_)
                  subst eI30
                  have hI := hI.putF (n := 106) (k := ((v29).toNatClampNeg)) (v := a3) rfl
                  have hK := hK.put (n := 106) (k := ((v29).toNatClampNeg)) (v := a3) (by first | rfl | simp [inR])
                  refine lv_iconst (v := (1)) hx hb dX9_sun_108 (by decide) ?_
                  exact m_zret hx hb hr rfl hlocks hM hS (Nat.le_of_ble_eq_true rfl) (Nat.le_of_ble_eq_true rfl) ⟨_, _, rfl, hI, hK, (Bo.y (by unfold okS; omega))⟩ dX9_sun_109
                · have hc24 := c24
                  have q24 := xr23.f hc24
                  refine lv_iconst (v := (0)) hx hb dX9_sun_75 (by decide) ?_
                  exact m_zret hx hb hr rfl hlocks hM hS (Nat.le_of_ble_eq_true rfl) (Nat.le_of_ble_eq_true rfl) ⟨_, _, rfl, hI, hK, (Bo.n (by unfold okS; omega))⟩ dX9_sun_76
          · have hc19 := c19
            have q19 := q_eq hc19
            refine lv_iconst (v := (1)) hx hb dX9_sun_42 (by decide) ?_
            refine lv_goto (tgt := 47) hx hb dX9_sun_43 (by decide) ?_
            refine lv_istore (lv' := [(5, .int (1)), (0, .ref (ad (0))), (1, .int (a0)), (2, .int (a1)), (3, .int (a2)), (4, .int (a3))]) hx hb dX9_sun_47 hl (by decide) rfl (fun ls hl => ?_)
            refine lv_iload hx hb dX9_sun_49 (lv_at hl 0 rfl) ?_
            refine lv_if_ne (tgt := 77) hx hb dX9_sun_51 (by decide) (fun c31 => ?_) (fun c31 => ?_)
            · have hc31 := c31
              have q31 := q_ne hc31
              refine lv_aload_n hx hb dX9_sun_77 rfl (lv_at hl 1 rfl) ?_
              refine m_getr (0) 0 (100) hx hb hts hown hE oc9 hM (hG.1 0 (by decide)) rfl (by decide) rfl (hG.2 (0, 0, 100) (by decide)) (by decide) tb_398 dX9_sun_78 ?_
              refine m_getr (100) 14 (105) hx hb hts hown hE oc8 hM (hG.1 100 (by decide)) rfl (by decide) rfl (hG.2 (100, 14, 105) (by decide)) (by decide) tb_79 dX9_sun_81 ?_
              refine lv_iload_n hx hb dX9_sun_84 rfl (lv_at hl 2 rfl) ?_
              refine lv_bipush (v := (24)) hx hb dX9_sun_85 (by decide) ?_
              refine lv_imul hx hb dX9_sun_87 ?_
              refine lv_topi (fun v32 ev32 => ?_)
              have tv32 := a_mulR (c := 24) ev32 (by decide) (by omega) (by omega)
              refine lv_iload_n hx hb dX9_sun_88 rfl (lv_at hl 3 rfl) ?_
              refine lv_iadd hx hb dX9_sun_89 ?_
              refine lv_topi (fun v33 ev33 => ?_)
              have tv33 := a_add ev33 (by omega) (by omega)
              refine lv_iload_n hx hb dX9_sun_90 rfl (lv_at hl 4 rfl) ?_
              refine m_iast (105) hx hb hE hM hS (hG.1 105 (by decide)) rfl (vp_in_iff.mpr (by omega)) dX9_sun_91 (fun H locs I34 eI34 hM hS => ?_)
              subst eI34
              have hI := hI.put (n := 105) (k := ((v33).toNatClampNeg)) (v := a2) (lo := -1) (hi := 7) rfl (by first | omega | decide)
              have hK := hK.put (n := 105) (k := ((v33).toNatClampNeg)) (v := a2) (by first | rfl | simp [inR])
              refine lv_aload_n hx hb dX9_sun_92 rfl (lv_at hl 1 rfl) ?_
              refine m_getr (0) 0 (100) hx hb hts hown hE oc9 hM (hG.1 0 (by decide)) rfl (by decide) rfl (hG.2 (0, 0, 100) (by decide)) (by decide) tb_398 dX9_sun_93 ?_
              refine m_getr (100) 15 (106) hx hb hts hown hE oc8 hM (hG.1 100 (by decide)) rfl (by decide) rfl (hG.2 (100, 15, 106) (by decide)) (by decide) tb_81 dX9_sun_96 ?_
              refine lv_iload_n hx hb dX9_sun_99 rfl (lv_at hl 2 rfl) ?_
              refine lv_bipush (v := (24)) hx hb dX9_sun_100 (by decide) ?_
              refine lv_imul hx hb dX9_sun_102 ?_
              refine lv_topi (fun v35 ev35 => ?_)
              have tv35 := a_mulR (c := 24) ev35 (by decide) (by omega) (by omega)
              refine lv_iload_n hx hb dX9_sun_103 rfl (lv_at hl 3 rfl) ?_
              refine lv_iadd hx hb dX9_sun_104 ?_
              refine lv_topi (fun v36 ev36 => ?_)
              have tv36 := a_add ev36 (by omega) (by omega)
              refine lv_iload hx hb dX9_sun_105 (lv_at hl 5 rfl) ?_
              refine m_iast (106) hx hb hE hM hS (hG.1 106 (by decide)) rfl (vp_in_iff.mpr (by omega)) dX9_sun_107 (fun H locs I37 eI37 hM hS => ?_)
              subst eI37
              have hI := hI.putF (n := 106) (k := ((v36).toNatClampNeg)) (v := a3) rfl
              have hK := hK.put (n := 106) (k := ((v36).toNatClampNeg)) (v := a3) (by first | rfl | simp [inR])
              refine lv_iconst (v := (1)) hx hb dX9_sun_108 (by decide) ?_
              exact m_zret hx hb hr rfl hlocks hM hS (Nat.le_of_ble_eq_true rfl) (Nat.le_of_ble_eq_true rfl) ⟨_, _, rfl, hI, hK, (Bo.y (by unfold okS; omega))⟩ dX9_sun_109
            · exact absurd c31 (by decide)
      · have hc6 := c6
        have q6 := xr5.f hc6
        refine lv_iconst (v := (0)) hx hb dX9_sun_30 (by decide) ?_
        exact m_zret hx hb hr rfl hlocks hM hS (Nat.le_of_ble_eq_true rfl) (Nat.le_of_ble_eq_true rfl) ⟨_, _, rfl, hI, hK, (Bo.n (by unfold okS; omega))⟩ dX9_sun_31
set_option maxHeartbeats 4000000 in
set_option maxRecDepth 20000 in
theorem V_X10_sun_f (l : Launch) (D : va_G) (A : Nat → Prop) (ad : Nat → Nat) (ns : List Nat) (I : MI) (L : ML) (G : MG) (a0 : Int32) (a1 : Int32) (a2 : Int32) (a3 : Int32) (hJ : SGM ns G) (hI : INV I) : Met l yX10_sun (wd yX10_sun cX10_sun 6 (some .boolean)) ({ frames := 1, cells := 0, slots := 0, locals := 25 }) (va_Pc [.ref (ad (1000)), .int a0, .int a1, .int a2, .int a3] (PM D A ad ns I L G)) (va_Qi (fun r u => ∃ I2 L2, u = (ad, ns, I2, L2, G) ∧ INV I2 ∧ Kp [(1004, 1006)] [] I I2 ∧ (Bo r ((I 1001 0).toInt = 1 ∧ okS a0 a1 a2 a3))) (BM D A) A) 0 0 A := by
  refine m_ofW (by decide) (Nat.le_of_ble_eq_true rfl) ?_
  intro p e s m below meth c ls args hC hE hM hA hS hl
  obtain ⟨hx, hb, hml, hown, hts, hr, hlocks, hin⟩ := hC
  have km1 : (-1 : Int32).toInt = -1 := by decide
  have k0 : (0 : Int32).toInt = 0 := by decide
  have k1 : (1 : Int32).toInt = 1 := by decide
  have k24 : (24 : Int32).toInt = 24 := by decide
  have kl0 : (0 : Int64).toInt = 0 := by decide
  have kl7 : (7 : Int64).toInt = 7 := by decide
  have kl11 : (11 : Int64).toInt = 11 := by decide
  have kl23 : (23 : Int64).toInt = 23 := by decide
  have kl99999 : (99999 : Int64).toInt = 99999 := by decide
  have hK : Kp [(1004, 1006)] [] I I := Kp.rf
  have hl : lv_has ls 6 [(0, .ref (ad (1000))), (1, .int (a0)), (2, .int (a1)), (3, .int (a2)), (4, .int (a3))] := hl
  refine lv_iload_n hx hb dX10_sun_0 rfl (lv_at hl 3 rfl) ?_
  refine lv_iconst (v := (-1)) hx hb dX10_sun_1 (by decide) ?_
  refine lv_icmp_ne (tgt := 14) hx hb dX10_sun_2 (by decide) (fun c1 => ?_) (fun c1 => ?_)
  · have hc1 := c1
    have q1 := q_ne hc1
    refine lv_iconst (v := (0)) hx hb dX10_sun_14 (by decide) ?_
    refine lv_istore (lv' := [(5, .int (0)), (0, .ref (ad (1000))), (1, .int (a0)), (2, .int (a1)), (3, .int (a2)), (4, .int (a3))]) hx hb dX10_sun_15 hl (by decide) rfl (fun ls hl => ?_)
    refine lv_aload_n hx hb dX10_sun_17 rfl (lv_at hl 1 rfl) ?_
    refine m_calli (m_runV (1000) (As := []) (rest := []) hx hb hml hown hts hE hM hS hA ce_X10_isTown tb_1441 (V_X10_isTown l D A ad ns I L G hJ hI) rfl rfl ⟨Nat.le_of_ble_eq_true rfl, Nat.le_of_ble_eq_true rfl⟩ hJ.1 rfl rfl (by decide) rfl hl.1 rfl (Nat.le_of_ble_eq_true rfl) dX10_sun_18 ⟨Nat.le_of_ble_eq_true rfl, Nat.le_of_ble_eq_true rfl⟩) hS (fun r2 u H locs hw hM hS => ?_)
    obtain ⟨rfl, xr2⟩ := hw
    have hM : Mem D A ad ns I L G H := hM
    have yr2 := bo01 xr2
    refine lv_if_eq (tgt := 78) hx hb dX10_sun_21 (by decide) (fun c3 => ?_) (fun c3 => ?_)
    · have hc3 := c3
      have q3 := xr2.f hc3
      refine lv_iconst (v := (0)) hx hb dX10_sun_78 (by decide) ?_
      exact m_zret hx hb hr rfl hlocks hM hS (Nat.le_of_ble_eq_true rfl) (Nat.le_of_ble_eq_true rfl) ⟨_, _, rfl, hI, hK, (Bo.n (by unfold okS; omega))⟩ dX10_sun_79
    · have hc3 := c3
      have q3 := xr2.t hc3
      refine lv_iload_n hx hb dX10_sun_24 rfl (lv_at hl 2 rfl) ?_
      refine lv_i2l hx hb dX10_sun_25 rfl ?_
      refine lv_topl (fun v4 ev4 => ?_)
      have tv4 := q_i2l ev4
      refine lv_lconst (v := 0) hx hb dX10_sun_26 (by decide) ?_
      refine lv_ldc2 (v := (11)) hx hb hown (hts _ tb_1449) dX10_sun_27 ?_
      refine m_calli (m_runS (As := [.long (v4), .long (0), .long ((11 : Int64))]) (rest := []) hx hb hml hown hts hE hM hS hA ce_X10_in tb_1425 (V_X10_in l D A ad ns I L G (v4) (0) ((11 : Int64)) hI) rfl rfl ⟨Nat.le_of_ble_eq_true rfl, Nat.le_of_ble_eq_true rfl⟩  rfl hl.1 rfl (Nat.le_of_ble_eq_true rfl) dX10_sun_30 ⟨Nat.le_of_ble_eq_true rfl, Nat.le_of_ble_eq_true rfl⟩) hS (fun r5 u H locs hw hM hS => ?_)
      obtain ⟨rfl, xr5⟩ := hw
      have hM : Mem D A ad ns I L G H := hM
      have yr5 := bo01 xr5
      refine lv_if_eq (tgt := 78) hx hb dX10_sun_33 (by decide) (fun c6 => ?_) (fun c6 => ?_)
      · have hc6 := c6
        have q6 := xr5.f hc6
        refine lv_iconst (v := (0)) hx hb dX10_sun_78 (by decide) ?_
        exact m_zret hx hb hr rfl hlocks hM hS (Nat.le_of_ble_eq_true rfl) (Nat.le_of_ble_eq_true rfl) ⟨_, _, rfl, hI, hK, (Bo.n (by unfold okS; omega))⟩ dX10_sun_79
      · have hc6 := c6
        have q6 := xr5.t hc6
        refine lv_iload_n hx hb dX10_sun_36 rfl (lv_at hl 3 rfl) ?_
        refine lv_i2l hx hb dX10_sun_37 rfl ?_
        refine lv_topl (fun v7 ev7 => ?_)
        have tv7 := q_i2l ev7
        refine lv_lconst (v := 0) hx hb dX10_sun_38 (by decide) ?_
        refine lv_ldc2 (v := (23)) hx hb hown (hts _ tb_1450) dX10_sun_39 ?_
        refine m_calli (m_runS (As := [.long (v7), .long (0), .long ((23 : Int64))]) (rest := []) hx hb hml hown hts hE hM hS hA ce_X10_in tb_1425 (V_X10_in l D A ad ns I L G (v7) (0) ((23 : Int64)) hI) rfl rfl ⟨Nat.le_of_ble_eq_true rfl, Nat.le_of_ble_eq_true rfl⟩  rfl hl.1 rfl (Nat.le_of_ble_eq_true rfl) dX10_sun_42 ⟨Nat.le_of_ble_eq_true rfl, Nat.le_of_ble_eq_true rfl⟩) hS (fun r8 u H locs hw hM hS => ?_)
        obtain ⟨rfl, xr8⟩ := hw
        have hM : Mem D A ad ns I L G H := hM
        have yr8 := bo01 xr8
        refine lv_if_eq (tgt := 78) hx hb dX10_sun_45 (by decide) (fun c9 => ?_) (fun c9 => ?_)
        · have hc9 := c9
          have q9 := xr8.f hc9
          refine lv_iconst (v := (0)) hx hb dX10_sun_78 (by decide) ?_
          exact m_zret hx hb hr rfl hlocks hM hS (Nat.le_of_ble_eq_true rfl) (Nat.le_of_ble_eq_true rfl) ⟨_, _, rfl, hI, hK, (Bo.n (by unfold okS; omega))⟩ dX10_sun_79
        · have hc9 := c9
          have q9 := xr8.t hc9
          refine lv_iload hx hb dX10_sun_48 (lv_at hl 0 rfl) ?_
          refine lv_if_ne (tgt := 80) hx hb dX10_sun_50 (by decide) (fun c10 => ?_) (fun c10 => ?_)
          · exact absurd c10 (by decide)
          · have hc10 := c10
            have q10 := q_eq hc10
            refine lv_iload_n hx hb dX10_sun_53 rfl (lv_at hl 4 rfl) ?_
            refine lv_i2l hx hb dX10_sun_54 rfl ?_
            refine lv_topl (fun v11 ev11 => ?_)
            have tv11 := q_i2l ev11
            refine lv_lconst (v := 0) hx hb dX10_sun_55 (by decide) ?_
            refine lv_ldc2 (v := (7)) hx hb hown (hts _ tb_1451) dX10_sun_56 ?_
            refine m_calli (m_runS (As := [.long (v11), .long (0), .long ((7 : Int64))]) (rest := []) hx hb hml hown hts hE hM hS hA ce_X10_in tb_1425 (V_X10_in l D A ad ns I L G (v11) (0) ((7 : Int64)) hI) rfl rfl ⟨Nat.le_of_ble_eq_true rfl, Nat.le_of_ble_eq_true rfl⟩  rfl hl.1 rfl (Nat.le_of_ble_eq_true rfl) dX10_sun_59 ⟨Nat.le_of_ble_eq_true rfl, Nat.le_of_ble_eq_true rfl⟩) hS (fun r12 u H locs hw hM hS => ?_)
            obtain ⟨rfl, xr12⟩ := hw
            have hM : Mem D A ad ns I L G H := hM
            have yr12 := bo01 xr12
            refine lv_if_eq (tgt := 78) hx hb dX10_sun_62 (by decide) (fun c13 => ?_) (fun c13 => ?_)
            · have hc13 := c13
              have q13 := xr12.f hc13
              refine lv_iconst (v := (0)) hx hb dX10_sun_78 (by decide) ?_
              exact m_zret hx hb hr rfl hlocks hM hS (Nat.le_of_ble_eq_true rfl) (Nat.le_of_ble_eq_true rfl) ⟨_, _, rfl, hI, hK, (Bo.n (by unfold okS; omega))⟩ dX10_sun_79
            · have hc13 := c13
              have q13 := xr12.t hc13
              refine lv_iload hx hb dX10_sun_65 (lv_at hl 5 rfl) ?_
              refine lv_i2l hx hb dX10_sun_67 rfl ?_
              refine lv_topl (fun v14 ev14 => ?_)
              have tv14 := q_i2l ev14
              refine lv_lconst (v := 0) hx hb dX10_sun_68 (by decide) ?_
              refine lv_ldc2 (v := (99999)) hx hb hown (hts _ tb_1452) dX10_sun_69 ?_
              refine m_calli (m_runS (As := [.long (v14), .long (0), .long ((99999 : Int64))]) (rest := []) hx hb hml hown hts hE hM hS hA ce_X10_in tb_1425 (V_X10_in l D A ad ns I L G (v14) (0) ((99999 : Int64)) hI) rfl rfl ⟨Nat.le_of_ble_eq_true rfl, Nat.le_of_ble_eq_true rfl⟩  rfl hl.1 rfl (Nat.le_of_ble_eq_true rfl) dX10_sun_72 ⟨Nat.le_of_ble_eq_true rfl, Nat.le_of_ble_eq_true rfl⟩) hS (fun r15 u H locs hw hM hS => ?_)
              obtain ⟨rfl, xr15⟩ := hw
              have hM : Mem D A ad ns I L G H := hM
              have yr15 := bo01 xr15
              refine lv_if_ne (tgt := 80) hx hb dX10_sun_75 (by decide) (fun c16 => ?_) (fun c16 => ?_)
              · have hc16 := c16
                have q16 := xr15.t hc16
                refine lv_aload_n hx hb dX10_sun_80 rfl (lv_at hl 1 rfl) ?_
                refine m_getr (1000) 4 (1004) hx hb hts hown hE oc10 hM hJ.1 rfl (by decide) rfl (hJ.2 4 (by decide)).2 (by decide) tb_1181 dX10_sun_81 ?_
                refine lv_bipush (v := (24)) hx hb dX10_sun_84 (by decide) ?_
                refine lv_iload_n hx hb dX10_sun_86 rfl (lv_at hl 2 rfl) ?_
                refine lv_imul hx hb dX10_sun_87 ?_
                refine lv_topi (fun v17 ev17 => ?_)
                have tv17 := a_mulL (c := 24) ev17 (by decide) (by omega) (by omega)
                refine lv_iload_n hx hb dX10_sun_88 rfl (lv_at hl 3 rfl) ?_
                refine lv_iadd hx hb dX10_sun_89 ?_
                refine lv_topi (fun v18 ev18 => ?_)
                have tv18 := a_add ev18 (by omega) (by omega)
                refine lv_iload_n hx hb dX10_sun_90 rfl (lv_at hl 4 rfl) ?_
                refine m_iast (1004) hx hb hE hM hS (hJ.2 4 (by decide)).1 rfl (vp_in_iff.mpr (by omega)) dX10_sun_91 (fun H locs I19 eI19 hM hS => ?_)
                subst eI19
                have hI := hI.putF (n := 1004) (k := ((v18).toNatClampNeg)) (v := a2) rfl
                have hK := hK.put (n := 1004) (k := ((v18).toNatClampNeg)) (v := a2) (by first | rfl | simp [inR])
                refine lv_aload_n hx hb dX10_sun_92 rfl (lv_at hl 1 rfl) ?_
                refine m_getr (1000) 5 (1005) hx hb hts hown hE oc10 hM hJ.1 rfl (by decide) rfl (hJ.2 5 (by decide)).2 (by decide) tb_1182 dX10_sun_93 ?_
                refine lv_bipush (v := (24)) hx hb dX10_sun_96 (by decide) ?_
                refine lv_iload_n hx hb dX10_sun_98 rfl (lv_at hl 2 rfl) ?_
                refine lv_imul hx hb dX10_sun_99 ?_
                refine lv_topi (fun v20 ev20 => ?_)
                have tv20 := a_mulL (c := 24) ev20 (by decide) (by omega) (by omega)
                refine lv_iload_n hx hb dX10_sun_100 rfl (lv_at hl 3 rfl) ?_
                refine lv_iadd hx hb dX10_sun_101 ?_
                refine lv_topi (fun v21 ev21 => ?_)
                have tv21 := a_add ev21 (by omega) (by omega)
                refine lv_iload hx hb dX10_sun_102 (lv_at hl 5 rfl) ?_
                refine m_iast (1005) hx hb hE hM hS (hJ.2 5 (by decide)).1 rfl (vp_in_iff.mpr (by omega)) dX10_sun_104 (fun H locs I22 eI22 hM hS => ?_)
                subst eI22
                have hI := hI.putF (n := 1005) (k := ((v21).toNatClampNeg)) (v := a3) rfl
                have hK := hK.put (n := 1005) (k := ((v21).toNatClampNeg)) (v := a3) (by first | rfl | simp [inR])
                refine lv_iconst (v := (1)) hx hb dX10_sun_105 (by decide) ?_
                exact m_zret hx hb hr rfl hlocks hM hS (Nat.le_of_ble_eq_true rfl) (Nat.le_of_ble_eq_true rfl) ⟨_, _, rfl, hI, hK, (Bo.y (by unfold okS; omega))⟩ dX10_sun_106
              · have hc16 := c16
                have q16 := xr15.f hc16
                refine lv_iconst (v := (0)) hx hb dX10_sun_78 (by decide) ?_
                exact m_zret hx hb hr rfl hlocks hM hS (Nat.le_of_ble_eq_true rfl) (Nat.le_of_ble_eq_true rfl) ⟨_, _, rfl, hI, hK, (Bo.n (by unfold okS; omega))⟩ dX10_sun_79
  · have hc1 := c1
    have q1 := q_eq hc1
    refine lv_iload hx hb dX10_sun_5 (lv_at hl 4 rfl) ?_
    refine lv_if_ne (tgt := 14) hx hb dX10_sun_7 (by decide) (fun c23 => ?_) (fun c23 => ?_)
    · have hc23 := c23
      have q23 := q_ne hc23
      refine lv_iconst (v := (0)) hx hb dX10_sun_14 (by decide) ?_
      refine lv_istore (lv' := [(5, .int (0)), (0, .ref (ad (1000))), (1, .int (a0)), (2, .int (a1)), (3, .int (a2)), (4, .int (a3))]) hx hb dX10_sun_15 hl (by decide) rfl (fun ls hl => ?_)
      refine lv_aload_n hx hb dX10_sun_17 rfl (lv_at hl 1 rfl) ?_
      refine m_calli (m_runV (1000) (As := []) (rest := []) hx hb hml hown hts hE hM hS hA ce_X10_isTown tb_1441 (V_X10_isTown l D A ad ns I L G hJ hI) rfl rfl ⟨Nat.le_of_ble_eq_true rfl, Nat.le_of_ble_eq_true rfl⟩ hJ.1 rfl rfl (by decide) rfl hl.1 rfl (Nat.le_of_ble_eq_true rfl) dX10_sun_18 ⟨Nat.le_of_ble_eq_true rfl, Nat.le_of_ble_eq_true rfl⟩) hS (fun r24 u H locs hw hM hS => ?_)
      obtain ⟨rfl, xr24⟩ := hw
      have hM : Mem D A ad ns I L G H := hM
      have yr24 := bo01 xr24
      refine lv_if_eq (tgt := 78) hx hb dX10_sun_21 (by decide) (fun c25 => ?_) (fun c25 => ?_)
      · have hc25 := c25
        have q25 := xr24.f hc25
        refine lv_iconst (v := (0)) hx hb dX10_sun_78 (by decide) ?_
        exact m_zret hx hb hr rfl hlocks hM hS (Nat.le_of_ble_eq_true rfl) (Nat.le_of_ble_eq_true rfl) ⟨_, _, rfl, hI, hK, (Bo.n (by unfold okS; omega))⟩ dX10_sun_79
      · have hc25 := c25
        have q25 := xr24.t hc25
        refine lv_iload_n hx hb dX10_sun_24 rfl (lv_at hl 2 rfl) ?_
        refine lv_i2l hx hb dX10_sun_25 rfl ?_
        refine lv_topl (fun v26 ev26 => ?_)
        have tv26 := q_i2l ev26
        refine lv_lconst (v := 0) hx hb dX10_sun_26 (by decide) ?_
        refine lv_ldc2 (v := (11)) hx hb hown (hts _ tb_1449) dX10_sun_27 ?_
        refine m_calli (m_runS (As := [.long (v26), .long (0), .long ((11 : Int64))]) (rest := []) hx hb hml hown hts hE hM hS hA ce_X10_in tb_1425 (V_X10_in l D A ad ns I L G (v26) (0) ((11 : Int64)) hI) rfl rfl ⟨Nat.le_of_ble_eq_true rfl, Nat.le_of_ble_eq_true rfl⟩  rfl hl.1 rfl (Nat.le_of_ble_eq_true rfl) dX10_sun_30 ⟨Nat.le_of_ble_eq_true rfl, Nat.le_of_ble_eq_true rfl⟩) hS (fun r27 u H locs hw hM hS => ?_)
        obtain ⟨rfl, xr27⟩ := hw
        have hM : Mem D A ad ns I L G H := hM
        have yr27 := bo01 xr27
        refine lv_if_eq (tgt := 78) hx hb dX10_sun_33 (by decide) (fun c28 => ?_) (fun c28 => ?_)
        · have hc28 := c28
          have q28 := xr27.f hc28
          refine lv_iconst (v := (0)) hx hb dX10_sun_78 (by decide) ?_
          exact m_zret hx hb hr rfl hlocks hM hS (Nat.le_of_ble_eq_true rfl) (Nat.le_of_ble_eq_true rfl) ⟨_, _, rfl, hI, hK, (Bo.n (by unfold okS; omega))⟩ dX10_sun_79
        · have hc28 := c28
          have q28 := xr27.t hc28
          refine lv_iload_n hx hb dX10_sun_36 rfl (lv_at hl 3 rfl) ?_
          refine lv_i2l hx hb dX10_sun_37 rfl ?_
          refine lv_topl (fun v29 ev29 => ?_)
          have tv29 := q_i2l ev29
          refine lv_lconst (v := 0) hx hb dX10_sun_38 (by decide) ?_
          refine lv_ldc2 (v := (23)) hx hb hown (hts _ tb_1450) dX10_sun_39 ?_
          refine m_calli (m_runS (As := [.long (v29), .long (0), .long ((23 : Int64))]) (rest := []) hx hb hml hown hts hE hM hS hA ce_X10_in tb_1425 (V_X10_in l D A ad ns I L G (v29) (0) ((23 : Int64)) hI) rfl rfl ⟨Nat.le_of_ble_eq_true rfl, Nat.le_of_ble_eq_true rfl⟩  rfl hl.1 rfl (Nat.le_of_ble_eq_true rfl) dX10_sun_42 ⟨Nat.le_of_ble_eq_true rfl, Nat.le_of_ble_eq_true rfl⟩) hS (fun r30 u H locs hw hM hS => ?_)
          obtain ⟨rfl, xr30⟩ := hw
          have hM : Mem D A ad ns I L G H := hM
          have yr30 := bo01 xr30
          refine lv_if_eq (tgt := 78) hx hb dX10_sun_45 (by decide) (fun c31 => ?_) (fun c31 => ?_)
          · have hc31 := c31
            have q31 := xr30.f hc31
            refine lv_iconst (v := (0)) hx hb dX10_sun_78 (by decide) ?_
            exact m_zret hx hb hr rfl hlocks hM hS (Nat.le_of_ble_eq_true rfl) (Nat.le_of_ble_eq_true rfl) ⟨_, _, rfl, hI, hK, (Bo.n (by unfold okS; omega))⟩ dX10_sun_79
          · have hc31 := c31
            have q31 := xr30.t hc31
            refine lv_iload hx hb dX10_sun_48 (lv_at hl 0 rfl) ?_
            refine lv_if_ne (tgt := 80) hx hb dX10_sun_50 (by decide) (fun c32 => ?_) (fun c32 => ?_)
            · exact absurd c32 (by decide)
            · have hc32 := c32
              have q32 := q_eq hc32
              refine lv_iload_n hx hb dX10_sun_53 rfl (lv_at hl 4 rfl) ?_
              refine lv_i2l hx hb dX10_sun_54 rfl ?_
              refine lv_topl (fun v33 ev33 => ?_)
              have tv33 := q_i2l ev33
              refine lv_lconst (v := 0) hx hb dX10_sun_55 (by decide) ?_
              refine lv_ldc2 (v := (7)) hx hb hown (hts _ tb_1451) dX10_sun_56 ?_
              refine m_calli (m_runS (As := [.long (v33), .long (0), .long ((7 : Int64))]) (rest := []) hx hb hml hown hts hE hM hS hA ce_X10_in tb_1425 (V_X10_in l D A ad ns I L G (v33) (0) ((7 : Int64)) hI) rfl rfl ⟨Nat.le_of_ble_eq_true rfl, Nat.le_of_ble_eq_true rfl⟩  rfl hl.1 rfl (Nat.le_of_ble_eq_true rfl) dX10_sun_59 ⟨Nat.le_of_ble_eq_true rfl, Nat.le_of_ble_eq_true rfl⟩) hS (fun r34 u H locs hw hM hS => ?_)
              obtain ⟨rfl, xr34⟩ := hw
              have hM : Mem D A ad ns I L G H := hM
              have yr34 := bo01 xr34
              refine lv_if_eq (tgt := 78) hx hb dX10_sun_62 (by decide) (fun c35 => ?_) (fun c35 => ?_)
              · have hc35 := c35
                have q35 := xr34.f hc35
                refine lv_iconst (v := (0)) hx hb dX10_sun_78 (by decide) ?_
                exact m_zret hx hb hr rfl hlocks hM hS (Nat.le_of_ble_eq_true rfl) (Nat.le_of_ble_eq_true rfl) ⟨_, _, rfl, hI, hK, (Bo.n (by unfold okS; omega))⟩ dX10_sun_79
              · have hc35 := c35
                have q35 := xr34.t hc35
                refine lv_iload hx hb dX10_sun_65 (lv_at hl 5 rfl) ?_
                refine lv_i2l hx hb dX10_sun_67 rfl ?_
                refine lv_topl (fun v36 ev36 => ?_)
                have tv36 := q_i2l ev36
                refine lv_lconst (v := 0) hx hb dX10_sun_68 (by decide) ?_
                refine lv_ldc2 (v := (99999)) hx hb hown (hts _ tb_1452) dX10_sun_69 ?_
                refine m_calli (m_runS (As := [.long (v36), .long (0), .long ((99999 : Int64))]) (rest := []) hx hb hml hown hts hE hM hS hA ce_X10_in tb_1425 (V_X10_in l D A ad ns I L G (v36) (0) ((99999 : Int64)) hI) rfl rfl ⟨Nat.le_of_ble_eq_true rfl, Nat.le_of_ble_eq_true rfl⟩  rfl hl.1 rfl (Nat.le_of_ble_eq_true rfl) dX10_sun_72 ⟨Nat.le_of_ble_eq_true rfl, Nat.le_of_ble_eq_true rfl⟩) hS (fun r37 u H locs hw hM hS => ?_)
                obtain ⟨rfl, xr37⟩ := hw
                have hM : Mem D A ad ns I L G H := hM
                have yr37 := bo01 xr37
                refine lv_if_ne (tgt := 80) hx hb dX10_sun_75 (by decide) (fun c38 => ?_) (fun c38 => ?_)
                · have hc38 := c38
                  have q38 := xr37.t hc38
                  refine lv_aload_n hx hb dX10_sun_80 rfl (lv_at hl 1 rfl) ?_
                  refine m_getr (1000) 4 (1004) hx hb hts hown hE oc10 hM hJ.1 rfl (by decide) rfl (hJ.2 4 (by decide)).2 (by decide) tb_1181 dX10_sun_81 ?_
                  refine lv_bipush (v := (24)) hx hb dX10_sun_84 (by decide) ?_
                  refine lv_iload_n hx hb dX10_sun_86 rfl (lv_at hl 2 rfl) ?_
                  refine lv_imul hx hb dX10_sun_87 ?_
                  refine lv_topi (fun v39 ev39 => ?_)
                  have tv39 := a_mulL (c := 24) ev39 (by decide) (by omega) (by omega)
                  refine lv_iload_n hx hb dX10_sun_88 rfl (lv_at hl 3 rfl) ?_
                  refine lv_iadd hx hb dX10_sun_89 ?_
                  refine lv_topi (fun v40 ev40 => ?_)
                  have tv40 := a_add ev40 (by omega) (by omega)
                  refine lv_iload_n hx hb dX10_sun_90 rfl (lv_at hl 4 rfl) ?_
                  refine m_iast (1004) hx hb hE hM hS (hJ.2 4 (by decide)).1 rfl (vp_in_iff.mpr (by omega)) dX10_sun_91 (fun H locs I41 eI41 hM hS => ?_)
                  subst eI41
                  have hI := hI.putF (n := 1004) (k := ((v40).toNatClampNeg)) (v := a2) rfl
                  have hK := hK.put (n := 1004) (k := ((v40).toNatClampNeg)) (v := a2) (by first | rfl | simp [inR])
                  refine lv_aload_n hx hb dX10_sun_92 rfl (lv_at hl 1 rfl) ?_
                  refine m_getr (1000) 5 (1005) hx hb hts hown hE oc10 hM hJ.1 rfl (by decide) rfl (hJ.2 5 (by decide)).2 (by decide) tb_1182 dX10_sun_93 ?_
                  refine lv_bipush (v := (24)) hx hb dX10_sun_96 (by decide) ?_
                  refine lv_iload_n hx hb dX10_sun_98 rfl (lv_at hl 2 rfl) ?_
                  refine lv_imul hx hb dX10_sun_99 ?_
                  refine lv_topi (fun v42 ev42 => ?_)
                  have tv42 := a_mulL (c := 24) ev42 (by decide) (by omega) (by omega)
                  refine lv_iload_n hx hb dX10_sun_100 rfl (lv_at hl 3 rfl) ?_
                  refine lv_iadd hx hb dX10_sun_101 ?_
                  refine lv_topi (fun v43 ev43 => ?_)
                  have tv43 := a_add ev43 (by omega) (by omega)
                  refine lv_iload hx hb dX10_sun_102 (lv_at hl 5 rfl) ?_
                  refine m_iast (1005) hx hb hE hM hS (hJ.2 5 (by decide)).1 rfl (vp_in_iff.mpr (by omega)) dX10_sun_104 (fun H locs I44 eI44 hM hS => ?_)
                  subst eI44
                  have hI := hI.putF (n := 1005) (k := ((v43).toNatClampNeg)) (v := a3) rfl
                  have hK := hK.put (n := 1005) (k := ((v43).toNatClampNeg)) (v := a3) (by first | rfl | simp [inR])
                  refine lv_iconst (v := (1)) hx hb dX10_sun_105 (by decide) ?_
                  exact m_zret hx hb hr rfl hlocks hM hS (Nat.le_of_ble_eq_true rfl) (Nat.le_of_ble_eq_true rfl) ⟨_, _, rfl, hI, hK, (Bo.y (by unfold okS; omega))⟩ dX10_sun_106
                · have hc38 := c38
                  have q38 := xr37.f hc38
                  refine lv_iconst (v := (0)) hx hb dX10_sun_78 (by decide) ?_
                  exact m_zret hx hb hr rfl hlocks hM hS (Nat.le_of_ble_eq_true rfl) (Nat.le_of_ble_eq_true rfl) ⟨_, _, rfl, hI, hK, (Bo.n (by unfold okS; omega))⟩ dX10_sun_79
    · have hc23 := c23
      have q23 := q_eq hc23
      refine lv_iconst (v := (1)) hx hb dX10_sun_10 (by decide) ?_
      refine lv_goto (tgt := 15) hx hb dX10_sun_11 (by decide) ?_
      refine lv_istore (lv' := [(5, .int (1)), (0, .ref (ad (1000))), (1, .int (a0)), (2, .int (a1)), (3, .int (a2)), (4, .int (a3))]) hx hb dX10_sun_15 hl (by decide) rfl (fun ls hl => ?_)
      refine lv_aload_n hx hb dX10_sun_17 rfl (lv_at hl 1 rfl) ?_
      refine m_calli (m_runV (1000) (As := []) (rest := []) hx hb hml hown hts hE hM hS hA ce_X10_isTown tb_1441 (V_X10_isTown l D A ad ns I L G hJ hI) rfl rfl ⟨Nat.le_of_ble_eq_true rfl, Nat.le_of_ble_eq_true rfl⟩ hJ.1 rfl rfl (by decide) rfl hl.1 rfl (Nat.le_of_ble_eq_true rfl) dX10_sun_18 ⟨Nat.le_of_ble_eq_true rfl, Nat.le_of_ble_eq_true rfl⟩) hS (fun r45 u H locs hw hM hS => ?_)
      obtain ⟨rfl, xr45⟩ := hw
      have hM : Mem D A ad ns I L G H := hM
      have yr45 := bo01 xr45
      refine lv_if_eq (tgt := 78) hx hb dX10_sun_21 (by decide) (fun c46 => ?_) (fun c46 => ?_)
      · have hc46 := c46
        have q46 := xr45.f hc46
        refine lv_iconst (v := (0)) hx hb dX10_sun_78 (by decide) ?_
        exact m_zret hx hb hr rfl hlocks hM hS (Nat.le_of_ble_eq_true rfl) (Nat.le_of_ble_eq_true rfl) ⟨_, _, rfl, hI, hK, (Bo.n (by unfold okS; omega))⟩ dX10_sun_79
      · have hc46 := c46
        have q46 := xr45.t hc46
        refine lv_iload_n hx hb dX10_sun_24 rfl (lv_at hl 2 rfl) ?_
        refine lv_i2l hx hb dX10_sun_25 rfl ?_
        refine lv_topl (fun v47 ev47 => ?_)
        have tv47 := q_i2l ev47
        refine lv_lconst (v := 0) hx hb dX10_sun_26 (by decide) ?_
        refine lv_ldc2 (v := (11)) hx hb hown (hts _ tb_1449) dX10_sun_27 ?_
        refine m_calli (m_runS (As := [.long (v47), .long (0), .long ((11 : Int64))]) (rest := []) hx hb hml hown hts hE hM hS hA ce_X10_in tb_1425 (V_X10_in l D A ad ns I L G (v47) (0) ((11 : Int64)) hI) rfl rfl ⟨Nat.le_of_ble_eq_true rfl, Nat.le_of_ble_eq_true rfl⟩  rfl hl.1 rfl (Nat.le_of_ble_eq_true rfl) dX10_sun_30 ⟨Nat.le_of_ble_eq_true rfl, Nat.le_of_ble_eq_true rfl⟩) hS (fun r48 u H locs hw hM hS => ?_)
        obtain ⟨rfl, xr48⟩ := hw
        have hM : Mem D A ad ns I L G H := hM
        have yr48 := bo01 xr48
        refine lv_if_eq (tgt := 78) hx hb dX10_sun_33 (by decide) (fun c49 => ?_) (fun c49 => ?_)
        · have hc49 := c49
          have q49 := xr48.f hc49
          refine lv_iconst (v := (0)) hx hb dX10_sun_78 (by decide) ?_
          exact m_zret hx hb hr rfl hlocks hM hS (Nat.le_of_ble_eq_true rfl) (Nat.le_of_ble_eq_true rfl) ⟨_, _, rfl, hI, hK, (Bo.n (by unfold okS; omega))⟩ dX10_sun_79
        · have hc49 := c49
          have q49 := xr48.t hc49
          refine lv_iload_n hx hb dX10_sun_36 rfl (lv_at hl 3 rfl) ?_
          refine lv_i2l hx hb dX10_sun_37 rfl ?_
          refine lv_topl (fun v50 ev50 => ?_)
          have tv50 := q_i2l ev50
          refine lv_lconst (v := 0) hx hb dX10_sun_38 (by decide) ?_
          refine lv_ldc2 (v := (23)) hx hb hown (hts _ tb_1450) dX10_sun_39 ?_
          refine m_calli (m_runS (As := [.long (v50), .long (0), .long ((23 : Int64))]) (rest := []) hx hb hml hown hts hE hM hS hA ce_X10_in tb_1425 (V_X10_in l D A ad ns I L G (v50) (0) ((23 : Int64)) hI) rfl rfl ⟨Nat.le_of_ble_eq_true rfl, Nat.le_of_ble_eq_true rfl⟩  rfl hl.1 rfl (Nat.le_of_ble_eq_true rfl) dX10_sun_42 ⟨Nat.le_of_ble_eq_true rfl, Nat.le_of_ble_eq_true rfl⟩) hS (fun r51 u H locs hw hM hS => ?_)
          obtain ⟨rfl, xr51⟩ := hw
          have hM : Mem D A ad ns I L G H := hM
          have yr51 := bo01 xr51
          refine lv_if_eq (tgt := 78) hx hb dX10_sun_45 (by decide) (fun c52 => ?_) (fun c52 => ?_)
          · have hc52 := c52
            have q52 := xr51.f hc52
            refine lv_iconst (v := (0)) hx hb dX10_sun_78 (by decide) ?_
            exact m_zret hx hb hr rfl hlocks hM hS (Nat.le_of_ble_eq_true rfl) (Nat.le_of_ble_eq_true rfl) ⟨_, _, rfl, hI, hK, (Bo.n (by unfold okS; omega))⟩ dX10_sun_79
          · have hc52 := c52
            have q52 := xr51.t hc52
            refine lv_iload hx hb dX10_sun_48 (lv_at hl 0 rfl) ?_
            refine lv_if_ne (tgt := 80) hx hb dX10_sun_50 (by decide) (fun c53 => ?_) (fun c53 => ?_)
            · have hc53 := c53
              have q53 := q_ne hc53
              refine lv_aload_n hx hb dX10_sun_80 rfl (lv_at hl 1 rfl) ?_
              refine m_getr (1000) 4 (1004) hx hb hts hown hE oc10 hM hJ.1 rfl (by decide) rfl (hJ.2 4 (by decide)).2 (by decide) tb_1181 dX10_sun_81 ?_
              refine lv_bipush (v := (24)) hx hb dX10_sun_84 (by decide) ?_
              refine lv_iload_n hx hb dX10_sun_86 rfl (lv_at hl 2 rfl) ?_
              refine lv_imul hx hb dX10_sun_87 ?_
              refine lv_topi (fun v54 ev54 => ?_)
              have tv54 := a_mulL (c := 24) ev54 (by decide) (by omega) (by omega)
              refine lv_iload_n hx hb dX10_sun_88 rfl (lv_at hl 3 rfl) ?_
              refine lv_iadd hx hb dX10_sun_89 ?_
              refine lv_topi (fun v55 ev55 => ?_)
              have tv55 := a_add ev55 (by omega) (by omega)
              refine lv_iload_n hx hb dX10_sun_90 rfl (lv_at hl 4 rfl) ?_
              refine m_iast (1004) hx hb hE hM hS (hJ.2 4 (by decide)).1 rfl (vp_in_iff.mpr (by omega)) dX10_sun_91 (fun H locs I56 eI56 hM hS => ?_)
              subst eI56
              have hI := hI.putF (n := 1004) (k := ((v55).toNatClampNeg)) (v := a2) rfl
              have hK := hK.put (n := 1004) (k := ((v55).toNatClampNeg)) (v := a2) (by first | rfl | simp [inR])
              refine lv_aload_n hx hb dX10_sun_92 rfl (lv_at hl 1 rfl) ?_
              refine m_getr (1000) 5 (1005) hx hb hts hown hE oc10 hM hJ.1 rfl (by decide) rfl (hJ.2 5 (by decide)).2 (by decide) tb_1182 dX10_sun_93 ?_
              refine lv_bipush (v := (24)) hx hb dX10_sun_96 (by decide) ?_
              refine lv_iload_n hx hb dX10_sun_98 rfl (lv_at hl 2 rfl) ?_
              refine lv_imul hx hb dX10_sun_99 ?_
              refine lv_topi (fun v57 ev57 => ?_)
              have tv57 := a_mulL (c := 24) ev57 (by decide) (by omega) (by omega)
              refine lv_iload_n hx hb dX10_sun_100 rfl (lv_at hl 3 rfl) ?_
              refine lv_iadd hx hb dX10_sun_101 ?_
              refine lv_topi (fun v58 ev58 => ?_)
              have tv58 := a_add ev58 (by omega) (by omega)
              refine lv_iload hx hb dX10_sun_102 (lv_at hl 5 rfl) ?_
              refine m_iast (1005) hx hb hE hM hS (hJ.2 5 (by decide)).1 rfl (vp_in_iff.mpr (by omega)) dX10_sun_104 (fun H locs I59 eI59 hM hS => ?_)
              subst eI59
              have hI := hI.putF (n := 1005) (k := ((v58).toNatClampNeg)) (v := a3) rfl
              have hK := hK.put (n := 1005) (k := ((v58).toNatClampNeg)) (v := a3) (by first | rfl | simp [inR])
              refine lv_iconst (v := (1)) hx hb dX10_sun_105 (by decide) ?_
              exact m_zret hx hb hr rfl hlocks hM hS (Nat.le_of_ble_eq_true rfl) (Nat.le_of_ble_eq_true rfl) ⟨_, _, rfl, hI, hK, (Bo.y (by unfold okS; omega))⟩ dX10_sun_106
            · exact absurd c53 (by decide)
set_option maxHeartbeats 4000000 in
set_option maxRecDepth 20000 in
theorem V_X9_month_f (l : Launch) (D : va_G) (A : Nat → Prop) (ad : Nat → Nat) (ns : List Nat) (I : MI) (L : ML) (G : MG) (a0 : Int32) (hG : SGC ns G) (hI : INV I) : Met l yX9_month (wd yX9_month cX9_month 3 (some .int)) ({ frames := 1, cells := 0, slots := 0, locals := 22 }) (va_Pc [.ref (ad (0)), .int a0] (PM D A ad ns I L G)) (va_Qi (fun r u => ∃ I2 L2, u = (ad, ns, I2, L2, G) ∧ INV I2 ∧ Kp [] [(100, 5)] I I2 ∧ (ASK (0 < (I 100 0).toInt ∧ 0 ≤ a0.toInt ∧ a0.toInt ≤ 11) r (I 100 5) (I2 100 5) a0)) (BM D A) A) 0 0 A := by
  refine m_ofW (by decide) (Nat.le_of_ble_eq_true rfl) ?_
  intro p e s m below meth c ls args hC hE hM hA hS hl
  obtain ⟨hx, hb, hml, hown, hts, hr, hlocks, hin⟩ := hC
  have km1 : (-1 : Int32).toInt = -1 := by decide
  have k0 : (0 : Int32).toInt = 0 := by decide
  have k11 : (11 : Int32).toInt = 11 := by decide
  have hK : Kp [] [(100, 5)] I I := Kp.rf
  have hl : lv_has ls 3 [(0, .ref (ad (0))), (1, .int (a0))] := hl
  refine lv_aload_n hx hb dX9_month_0 rfl (lv_at hl 0 rfl) ?_
  refine m_getr (0) 0 (100) hx hb hts hown hE oc9 hM (hG.1 0 (by decide)) rfl (by decide) rfl (hG.2 (0, 0, 100) (by decide)) (by decide) tb_398 dX9_month_1 ?_
  refine m_calli (m_runV (100) (As := []) (rest := []) hx hb hml hown hts hE hM hS hA ce_X8_isBegun tb_484 (V_X8_isBegun_100 l D A ad ns I L G hG hI) rfl rfl ⟨Nat.le_of_ble_eq_true rfl, Nat.le_of_ble_eq_true rfl⟩ (hG.1 100 (by decide)) rfl rfl (by decide) rfl hl.1 rfl (Nat.le_of_ble_eq_true rfl) dX9_month_4 ⟨Nat.le_of_ble_eq_true rfl, Nat.le_of_ble_eq_true rfl⟩) hS (fun r1 u H locs hw hM hS => ?_)
  obtain ⟨rfl, xr1⟩ := hw
  have hM : Mem D A ad ns I L G H := hM
  have yr1 := bo01 xr1
  refine lv_if_eq (tgt := 20) hx hb dX9_month_7 (by decide) (fun c2 => ?_) (fun c2 => ?_)
  · have hc2 := c2
    have q2 := xr1.f hc2
    refine lv_iconst (v := (-1)) hx hb dX9_month_20 (by decide) ?_
    exact m_iret hx hb hr hlocks hM hS (Nat.le_of_ble_eq_true rfl) (Nat.le_of_ble_eq_true rfl) ⟨_, _, rfl, hI, hK, (Or.inr ⟨by omega, rfl, rfl⟩)⟩ dX9_month_21
  · have hc2 := c2
    have q2 := xr1.t hc2
    refine lv_iload_n hx hb dX9_month_10 rfl (lv_at hl 1 rfl) ?_
    refine lv_iconst (v := (0)) hx hb dX9_month_11 (by decide) ?_
    refine lv_bipush (v := (11)) hx hb dX9_month_12 (by decide) ?_
    refine m_calli (m_runS (As := [.int (a0), .int (0), .int (11)]) (rest := []) hx hb hml hown hts hE hM hS hA ce_X9_isWithin tb_451 (V_X9_isWithin l D A ad ns I L G (a0) (0) (11) hI) rfl rfl ⟨Nat.le_of_ble_eq_true rfl, Nat.le_of_ble_eq_true rfl⟩  rfl hl.1 rfl (Nat.le_of_ble_eq_true rfl) dX9_month_14 ⟨Nat.le_of_ble_eq_true rfl, Nat.le_of_ble_eq_true rfl⟩) hS (fun r3 u H locs hw hM hS => ?_)
    obtain ⟨rfl, xr3⟩ := hw
    have hM : Mem D A ad ns I L G H := hM
    have yr3 := bo01 xr3
    refine lv_if_ne (tgt := 22) hx hb dX9_month_17 (by decide) (fun c4 => ?_) (fun c4 => ?_)
    · have hc4 := c4
      have q4 := xr3.t hc4
      refine lv_aload_n hx hb dX9_month_22 rfl (lv_at hl 0 rfl) ?_
      refine m_getr (0) 0 (100) hx hb hts hown hE oc9 hM (hG.1 0 (by decide)) rfl (by decide) rfl (hG.2 (0, 0, 100) (by decide)) (by decide) tb_398 dX9_month_23 ?_
      refine m_geti (100) 5 hx hb hts hown hE oc8 hM (hG.1 100 (by decide)) rfl (by decide) rfl tb_53 dX9_month_26 ?_
      have g5 := hI.get (100) 5 (lo := 0) (hi := 11) rfl
      refine lv_istore_n (lv' := [(2, .int (I (100) 5)), (0, .ref (ad (0))), (1, .int (a0))]) hx hb dX9_month_29 rfl hl (by decide) rfl (fun ls hl => ?_)
      refine lv_aload_n hx hb dX9_month_30 rfl (lv_at hl 1 rfl) ?_
      refine m_getr (0) 0 (100) hx hb hts hown hE oc9 hM (hG.1 0 (by decide)) rfl (by decide) rfl (hG.2 (0, 0, 100) (by decide)) (by decide) tb_398 dX9_month_31 ?_
      refine lv_iload_n hx hb dX9_month_34 rfl (lv_at hl 2 rfl) ?_
      refine m_puti (100) 5 hx hb hts hown hE oc8 hM hS (hG.1 100 (by decide)) rfl (by decide) rfl rfl rfl rfl tb_53 dX9_month_35 (fun H locs I6 eI6 hM hS => ?_)
      subst eI6
      have hI := hI.put (n := 100) (k := 5) (v := a0) (lo := 0) (hi := 11) rfl (by first | omega | decide)
      have hK := hK.put (n := 100) (k := 5) (v := a0) (by first | rfl | simp [inR])
      refine lv_iload_n hx hb dX9_month_38 rfl (lv_at hl 0 rfl) ?_
      exact m_iret hx hb hr hlocks hM hS (Nat.le_of_ble_eq_true rfl) (Nat.le_of_ble_eq_true rfl) ⟨_, _, rfl, hI, hK, (Or.inl ⟨by omega, rfl, (show (u2 I (100) 5 (a0)) (100) 5 = a0 from by simp [u2_v])⟩)⟩ dX9_month_39
    · have hc4 := c4
      have q4 := xr3.f hc4
      refine lv_iconst (v := (-1)) hx hb dX9_month_20 (by decide) ?_
      exact m_iret hx hb hr hlocks hM hS (Nat.le_of_ble_eq_true rfl) (Nat.le_of_ble_eq_true rfl) ⟨_, _, rfl, hI, hK, (Or.inr ⟨by omega, rfl, rfl⟩)⟩ dX9_month_21
set_option maxHeartbeats 4000000 in
set_option maxRecDepth 20000 in
theorem V_X10_month_f (l : Launch) (D : va_G) (A : Nat → Prop) (ad : Nat → Nat) (ns : List Nat) (I : MI) (L : ML) (G : MG) (a0 : Int32) (hJ : SGM ns G) (hI : INV I) : Met l yX10_month (wd yX10_month cX10_month 3 (some .int)) ({ frames := 1, cells := 0, slots := 0, locals := 25 }) (va_Pc [.ref (ad (1000)), .int a0] (PM D A ad ns I L G)) (va_Qi (fun r u => ∃ I2 L2, u = (ad, ns, I2, L2, G) ∧ INV I2 ∧ Kp [] [(1001, 5)] I I2 ∧ (ASK ((I 1001 0).toInt = 1 ∧ 0 ≤ a0.toInt ∧ a0.toInt ≤ 11) r (I 1001 5) (I2 1001 5) a0)) (BM D A) A) 0 0 A := by
  refine m_ofW (by decide) (Nat.le_of_ble_eq_true rfl) ?_
  intro p e s m below meth c ls args hC hE hM hA hS hl
  obtain ⟨hx, hb, hml, hown, hts, hr, hlocks, hin⟩ := hC
  have km1 : (-1 : Int32).toInt = -1 := by decide
  have k0 : (0 : Int32).toInt = 0 := by decide
  have k5 : (5 : Int32).toInt = 5 := by decide
  have kl0 : (0 : Int64).toInt = 0 := by decide
  have kl11 : (11 : Int64).toInt = 11 := by decide
  have hK : Kp [] [(1001, 5)] I I := Kp.rf
  have hl : lv_has ls 3 [(0, .ref (ad (1000))), (1, .int (a0))] := hl
  refine lv_aload_n hx hb dX10_month_0 rfl (lv_at hl 0 rfl) ?_
  refine m_calli (m_runV (1000) (As := []) (rest := []) hx hb hml hown hts hE hM hS hA ce_X10_isTown tb_1441 (V_X10_isTown l D A ad ns I L G hJ hI) rfl rfl ⟨Nat.le_of_ble_eq_true rfl, Nat.le_of_ble_eq_true rfl⟩ hJ.1 rfl rfl (by decide) rfl hl.1 rfl (Nat.le_of_ble_eq_true rfl) dX10_month_1 ⟨Nat.le_of_ble_eq_true rfl, Nat.le_of_ble_eq_true rfl⟩) hS (fun r1 u H locs hw hM hS => ?_)
  obtain ⟨rfl, xr1⟩ := hw
  have hM : Mem D A ad ns I L G H := hM
  have yr1 := bo01 xr1
  refine lv_if_eq (tgt := 19) hx hb dX10_month_4 (by decide) (fun c2 => ?_) (fun c2 => ?_)
  · have hc2 := c2
    have q2 := xr1.f hc2
    refine lv_iconst (v := (-1)) hx hb dX10_month_19 (by decide) ?_
    exact m_iret hx hb hr hlocks hM hS (Nat.le_of_ble_eq_true rfl) (Nat.le_of_ble_eq_true rfl) ⟨_, _, rfl, hI, hK, (Or.inr ⟨by omega, rfl, rfl⟩)⟩ dX10_month_20
  · have hc2 := c2
    have q2 := xr1.t hc2
    refine lv_iload_n hx hb dX10_month_7 rfl (lv_at hl 1 rfl) ?_
    refine lv_i2l hx hb dX10_month_8 rfl ?_
    refine lv_topl (fun v3 ev3 => ?_)
    have tv3 := q_i2l ev3
    refine lv_lconst (v := 0) hx hb dX10_month_9 (by decide) ?_
    refine lv_ldc2 (v := (11)) hx hb hown (hts _ tb_1449) dX10_month_10 ?_
    refine m_calli (m_runS (As := [.long (v3), .long (0), .long ((11 : Int64))]) (rest := []) hx hb hml hown hts hE hM hS hA ce_X10_in tb_1425 (V_X10_in l D A ad ns I L G (v3) (0) ((11 : Int64)) hI) rfl rfl ⟨Nat.le_of_ble_eq_true rfl, Nat.le_of_ble_eq_true rfl⟩  rfl hl.1 rfl (Nat.le_of_ble_eq_true rfl) dX10_month_13 ⟨Nat.le_of_ble_eq_true rfl, Nat.le_of_ble_eq_true rfl⟩) hS (fun r4 u H locs hw hM hS => ?_)
    obtain ⟨rfl, xr4⟩ := hw
    have hM : Mem D A ad ns I L G H := hM
    have yr4 := bo01 xr4
    refine lv_if_ne (tgt := 21) hx hb dX10_month_16 (by decide) (fun c5 => ?_) (fun c5 => ?_)
    · have hc5 := c5
      have q5 := xr4.t hc5
      refine lv_aload_n hx hb dX10_month_21 rfl (lv_at hl 0 rfl) ?_
      refine m_getr (1000) 1 (1001) hx hb hts hown hE oc10 hM hJ.1 rfl (by decide) rfl (hJ.2 1 (by decide)).2 (by decide) tb_1178 dX10_month_22 ?_
      refine lv_iconst (v := (5)) hx hb dX10_month_25 (by decide) ?_
      refine m_iald (1001) hx hb hE hM (hJ.2 1 (by decide)).1 rfl (vp_in_iff.mpr (by decide)) dX10_month_26 ?_
      rw [show (5 : Int32).toNatClampNeg = 5 from rfl]
      have g6 := hI.get (1001) 5 (lo := 0) (hi := 11) rfl
      refine lv_istore_n (lv' := [(2, .int (I (1001) 5)), (0, .ref (ad (1000))), (1, .int (a0))]) hx hb dX10_month_27 rfl hl (by decide) rfl (fun ls hl => ?_)
      refine lv_aload_n hx hb dX10_month_28 rfl (lv_at hl 1 rfl) ?_
      refine m_getr (1000) 1 (1001) hx hb hts hown hE oc10 hM hJ.1 rfl (by decide) rfl (hJ.2 1 (by decide)).2 (by decide) tb_1178 dX10_month_29 ?_
      refine lv_iconst (v := (5)) hx hb dX10_month_32 (by decide) ?_
      refine lv_iload_n hx hb dX10_month_33 rfl (lv_at hl 2 rfl) ?_
      refine m_iast (1001) hx hb hE hM hS (hJ.2 1 (by decide)).1 rfl (vp_in_iff.mpr (by decide)) dX10_month_34 (fun H locs I7 eI7 hM hS => ?_)
      rw [show (5 : Int32).toNatClampNeg = 5 from rfl] at eI7
      subst eI7
      have hI := hI.put (n := 1001) (k := 5) (v := a0) (lo := 0) (hi := 11) rfl (by first | omega | decide)
      have hK := hK.put (n := 1001) (k := 5) (v := a0) (by first | rfl | simp [inR])
      refine lv_iload_n hx hb dX10_month_35 rfl (lv_at hl 0 rfl) ?_
      exact m_iret hx hb hr hlocks hM hS (Nat.le_of_ble_eq_true rfl) (Nat.le_of_ble_eq_true rfl) ⟨_, _, rfl, hI, hK, (Or.inl ⟨by omega, rfl, (show (u2 I (1001) 5 (a0)) (1001) 5 = a0 from by simp [u2_v])⟩)⟩ dX10_month_36
    · have hc5 := c5
      have q5 := xr4.f hc5
      refine lv_iconst (v := (-1)) hx hb dX10_month_19 (by decide) ?_
      exact m_iret hx hb hr hlocks hM hS (Nat.le_of_ble_eq_true rfl) (Nat.le_of_ble_eq_true rfl) ⟨_, _, rfl, hI, hK, (Or.inr ⟨by omega, rfl, rfl⟩)⟩ dX10_month_20
set_option maxHeartbeats 4000000 in
set_option maxRecDepth 20000 in
theorem V_X9_falls_f (l : Launch) (D : va_G) (A : Nat → Prop) (ad : Nat → Nat) (ns : List Nat) (I : MI) (L : ML) (G : MG) (a0 : Int32) (hG : SGC ns G) (hI : INV I) : Met l yX9_falls (wd yX9_falls cX9_falls 3 (some .int)) ({ frames := 1, cells := 0, slots := 0, locals := 22 }) (va_Pc [.ref (ad (0)), .int a0] (PM D A ad ns I L G)) (va_Qi (fun r u => ∃ I2 L2, u = (ad, ns, I2, L2, G) ∧ INV I2 ∧ Kp [] [(100, 7)] I I2 ∧ (ASK (0 < (I 100 0).toInt ∧ 0 ≤ a0.toInt ∧ a0.toInt ≤ 99) r (I 100 7) (I2 100 7) a0)) (BM D A) A) 0 0 A := by
  refine m_ofW (by decide) (Nat.le_of_ble_eq_true rfl) ?_
  intro p e s m below meth c ls args hC hE hM hA hS hl
  obtain ⟨hx, hb, hml, hown, hts, hr, hlocks, hin⟩ := hC
  have km1 : (-1 : Int32).toInt = -1 := by decide
  have k0 : (0 : Int32).toInt = 0 := by decide
  have k99 : (99 : Int32).toInt = 99 := by decide
  have hK : Kp [] [(100, 7)] I I := Kp.rf
  have hl : lv_has ls 3 [(0, .ref (ad (0))), (1, .int (a0))] := hl
  refine lv_aload_n hx hb dX9_falls_0 rfl (lv_at hl 0 rfl) ?_
  refine m_getr (0) 0 (100) hx hb hts hown hE oc9 hM (hG.1 0 (by decide)) rfl (by decide) rfl (hG.2 (0, 0, 100) (by decide)) (by decide) tb_398 dX9_falls_1 ?_
  refine m_calli (m_runV (100) (As := []) (rest := []) hx hb hml hown hts hE hM hS hA ce_X8_isBegun tb_484 (V_X8_isBegun_100 l D A ad ns I L G hG hI) rfl rfl ⟨Nat.le_of_ble_eq_true rfl, Nat.le_of_ble_eq_true rfl⟩ (hG.1 100 (by decide)) rfl rfl (by decide) rfl hl.1 rfl (Nat.le_of_ble_eq_true rfl) dX9_falls_4 ⟨Nat.le_of_ble_eq_true rfl, Nat.le_of_ble_eq_true rfl⟩) hS (fun r1 u H locs hw hM hS => ?_)
  obtain ⟨rfl, xr1⟩ := hw
  have hM : Mem D A ad ns I L G H := hM
  have yr1 := bo01 xr1
  refine lv_if_eq (tgt := 20) hx hb dX9_falls_7 (by decide) (fun c2 => ?_) (fun c2 => ?_)
  · have hc2 := c2
    have q2 := xr1.f hc2
    refine lv_iconst (v := (-1)) hx hb dX9_falls_20 (by decide) ?_
    exact m_iret hx hb hr hlocks hM hS (Nat.le_of_ble_eq_true rfl) (Nat.le_of_ble_eq_true rfl) ⟨_, _, rfl, hI, hK, (Or.inr ⟨by omega, rfl, rfl⟩)⟩ dX9_falls_21
  · have hc2 := c2
    have q2 := xr1.t hc2
    refine lv_iload_n hx hb dX9_falls_10 rfl (lv_at hl 1 rfl) ?_
    refine lv_iconst (v := (0)) hx hb dX9_falls_11 (by decide) ?_
    refine lv_bipush (v := (99)) hx hb dX9_falls_12 (by decide) ?_
    refine m_calli (m_runS (As := [.int (a0), .int (0), .int (99)]) (rest := []) hx hb hml hown hts hE hM hS hA ce_X9_isWithin tb_451 (V_X9_isWithin l D A ad ns I L G (a0) (0) (99) hI) rfl rfl ⟨Nat.le_of_ble_eq_true rfl, Nat.le_of_ble_eq_true rfl⟩  rfl hl.1 rfl (Nat.le_of_ble_eq_true rfl) dX9_falls_14 ⟨Nat.le_of_ble_eq_true rfl, Nat.le_of_ble_eq_true rfl⟩) hS (fun r3 u H locs hw hM hS => ?_)
    obtain ⟨rfl, xr3⟩ := hw
    have hM : Mem D A ad ns I L G H := hM
    have yr3 := bo01 xr3
    refine lv_if_ne (tgt := 22) hx hb dX9_falls_17 (by decide) (fun c4 => ?_) (fun c4 => ?_)
    · have hc4 := c4
      have q4 := xr3.t hc4
      refine lv_aload_n hx hb dX9_falls_22 rfl (lv_at hl 0 rfl) ?_
      refine m_getr (0) 0 (100) hx hb hts hown hE oc9 hM (hG.1 0 (by decide)) rfl (by decide) rfl (hG.2 (0, 0, 100) (by decide)) (by decide) tb_398 dX9_falls_23 ?_
      refine m_geti (100) 7 hx hb hts hown hE oc8 hM (hG.1 100 (by decide)) rfl (by decide) rfl tb_58 dX9_falls_26 ?_
      refine lv_istore_n (lv' := [(2, .int (I (100) 7)), (0, .ref (ad (0))), (1, .int (a0))]) hx hb dX9_falls_29 rfl hl (by decide) rfl (fun ls hl => ?_)
      refine lv_aload_n hx hb dX9_falls_30 rfl (lv_at hl 1 rfl) ?_
      refine m_getr (0) 0 (100) hx hb hts hown hE oc9 hM (hG.1 0 (by decide)) rfl (by decide) rfl (hG.2 (0, 0, 100) (by decide)) (by decide) tb_398 dX9_falls_31 ?_
      refine lv_iload_n hx hb dX9_falls_34 rfl (lv_at hl 2 rfl) ?_
      refine m_puti (100) 7 hx hb hts hown hE oc8 hM hS (hG.1 100 (by decide)) rfl (by decide) rfl rfl rfl rfl tb_58 dX9_falls_35 (fun H locs I5 eI5 hM hS => ?_)
      subst eI5
      have hI := hI.putF (n := 100) (k := 7) (v := a0) rfl
      have hK := hK.put (n := 100) (k := 7) (v := a0) (by first | rfl | simp [inR])
      refine lv_iload_n hx hb dX9_falls_38 rfl (lv_at hl 0 rfl) ?_
      exact m_iret hx hb hr hlocks hM hS (Nat.le_of_ble_eq_true rfl) (Nat.le_of_ble_eq_true rfl) ⟨_, _, rfl, hI, hK, (Or.inl ⟨by omega, rfl, (show (u2 I (100) 7 (a0)) (100) 7 = a0 from by simp [u2_v])⟩)⟩ dX9_falls_39
    · have hc4 := c4
      have q4 := xr3.f hc4
      refine lv_iconst (v := (-1)) hx hb dX9_falls_20 (by decide) ?_
      exact m_iret hx hb hr hlocks hM hS (Nat.le_of_ble_eq_true rfl) (Nat.le_of_ble_eq_true rfl) ⟨_, _, rfl, hI, hK, (Or.inr ⟨by omega, rfl, rfl⟩)⟩ dX9_falls_21
set_option maxHeartbeats 4000000 in
set_option maxRecDepth 20000 in
theorem V_X10_falls_f (l : Launch) (D : va_G) (A : Nat → Prop) (ad : Nat → Nat) (ns : List Nat) (I : MI) (L : ML) (G : MG) (a0 : Int32) (hJ : SGM ns G) (hI : INV I) : Met l yX10_falls (wd yX10_falls cX10_falls 3 (some .int)) ({ frames := 1, cells := 0, slots := 0, locals := 25 }) (va_Pc [.ref (ad (1000)), .int a0] (PM D A ad ns I L G)) (va_Qi (fun r u => ∃ I2 L2, u = (ad, ns, I2, L2, G) ∧ INV I2 ∧ Kp [] [(1001, 7)] I I2 ∧ (ASK ((I 1001 0).toInt = 1 ∧ 0 ≤ a0.toInt ∧ a0.toInt ≤ 99) r (I 1001 7) (I2 1001 7) a0)) (BM D A) A) 0 0 A := by
  refine m_ofW (by decide) (Nat.le_of_ble_eq_true rfl) ?_
  intro p e s m below meth c ls args hC hE hM hA hS hl
  obtain ⟨hx, hb, hml, hown, hts, hr, hlocks, hin⟩ := hC
  have km1 : (-1 : Int32).toInt = -1 := by decide
  have k0 : (0 : Int32).toInt = 0 := by decide
  have k7 : (7 : Int32).toInt = 7 := by decide
  have kl0 : (0 : Int64).toInt = 0 := by decide
  have kl99 : (99 : Int64).toInt = 99 := by decide
  have hK : Kp [] [(1001, 7)] I I := Kp.rf
  have hl : lv_has ls 3 [(0, .ref (ad (1000))), (1, .int (a0))] := hl
  refine lv_aload_n hx hb dX10_falls_0 rfl (lv_at hl 0 rfl) ?_
  refine m_calli (m_runV (1000) (As := []) (rest := []) hx hb hml hown hts hE hM hS hA ce_X10_isTown tb_1441 (V_X10_isTown l D A ad ns I L G hJ hI) rfl rfl ⟨Nat.le_of_ble_eq_true rfl, Nat.le_of_ble_eq_true rfl⟩ hJ.1 rfl rfl (by decide) rfl hl.1 rfl (Nat.le_of_ble_eq_true rfl) dX10_falls_1 ⟨Nat.le_of_ble_eq_true rfl, Nat.le_of_ble_eq_true rfl⟩) hS (fun r1 u H locs hw hM hS => ?_)
  obtain ⟨rfl, xr1⟩ := hw
  have hM : Mem D A ad ns I L G H := hM
  have yr1 := bo01 xr1
  refine lv_if_eq (tgt := 19) hx hb dX10_falls_4 (by decide) (fun c2 => ?_) (fun c2 => ?_)
  · have hc2 := c2
    have q2 := xr1.f hc2
    refine lv_iconst (v := (-1)) hx hb dX10_falls_19 (by decide) ?_
    exact m_iret hx hb hr hlocks hM hS (Nat.le_of_ble_eq_true rfl) (Nat.le_of_ble_eq_true rfl) ⟨_, _, rfl, hI, hK, (Or.inr ⟨by omega, rfl, rfl⟩)⟩ dX10_falls_20
  · have hc2 := c2
    have q2 := xr1.t hc2
    refine lv_iload_n hx hb dX10_falls_7 rfl (lv_at hl 1 rfl) ?_
    refine lv_i2l hx hb dX10_falls_8 rfl ?_
    refine lv_topl (fun v3 ev3 => ?_)
    have tv3 := q_i2l ev3
    refine lv_lconst (v := 0) hx hb dX10_falls_9 (by decide) ?_
    refine lv_ldc2 (v := (99)) hx hb hown (hts _ tb_1485) dX10_falls_10 ?_
    refine m_calli (m_runS (As := [.long (v3), .long (0), .long ((99 : Int64))]) (rest := []) hx hb hml hown hts hE hM hS hA ce_X10_in tb_1425 (V_X10_in l D A ad ns I L G (v3) (0) ((99 : Int64)) hI) rfl rfl ⟨Nat.le_of_ble_eq_true rfl, Nat.le_of_ble_eq_true rfl⟩  rfl hl.1 rfl (Nat.le_of_ble_eq_true rfl) dX10_falls_13 ⟨Nat.le_of_ble_eq_true rfl, Nat.le_of_ble_eq_true rfl⟩) hS (fun r4 u H locs hw hM hS => ?_)
    obtain ⟨rfl, xr4⟩ := hw
    have hM : Mem D A ad ns I L G H := hM
    have yr4 := bo01 xr4
    refine lv_if_ne (tgt := 21) hx hb dX10_falls_16 (by decide) (fun c5 => ?_) (fun c5 => ?_)
    · have hc5 := c5
      have q5 := xr4.t hc5
      refine lv_aload_n hx hb dX10_falls_21 rfl (lv_at hl 0 rfl) ?_
      refine m_getr (1000) 1 (1001) hx hb hts hown hE oc10 hM hJ.1 rfl (by decide) rfl (hJ.2 1 (by decide)).2 (by decide) tb_1178 dX10_falls_22 ?_
      refine lv_bipush (v := (7)) hx hb dX10_falls_25 (by decide) ?_
      refine m_iald (1001) hx hb hE hM (hJ.2 1 (by decide)).1 rfl (vp_in_iff.mpr (by decide)) dX10_falls_27 ?_
      rw [show (7 : Int32).toNatClampNeg = 7 from rfl]
      refine lv_istore_n (lv' := [(2, .int (I (1001) 7)), (0, .ref (ad (1000))), (1, .int (a0))]) hx hb dX10_falls_28 rfl hl (by decide) rfl (fun ls hl => ?_)
      refine lv_aload_n hx hb dX10_falls_29 rfl (lv_at hl 1 rfl) ?_
      refine m_getr (1000) 1 (1001) hx hb hts hown hE oc10 hM hJ.1 rfl (by decide) rfl (hJ.2 1 (by decide)).2 (by decide) tb_1178 dX10_falls_30 ?_
      refine lv_bipush (v := (7)) hx hb dX10_falls_33 (by decide) ?_
      refine lv_iload_n hx hb dX10_falls_35 rfl (lv_at hl 2 rfl) ?_
      refine m_iast (1001) hx hb hE hM hS (hJ.2 1 (by decide)).1 rfl (vp_in_iff.mpr (by decide)) dX10_falls_36 (fun H locs I6 eI6 hM hS => ?_)
      rw [show (7 : Int32).toNatClampNeg = 7 from rfl] at eI6
      subst eI6
      have hI := hI.putF (n := 1001) (k := 7) (v := a0) rfl
      have hK := hK.put (n := 1001) (k := 7) (v := a0) (by first | rfl | simp [inR])
      refine lv_iload_n hx hb dX10_falls_37 rfl (lv_at hl 0 rfl) ?_
      exact m_iret hx hb hr hlocks hM hS (Nat.le_of_ble_eq_true rfl) (Nat.le_of_ble_eq_true rfl) ⟨_, _, rfl, hI, hK, (Or.inl ⟨by omega, rfl, (show (u2 I (1001) 7 (a0)) (1001) 7 = a0 from by simp [u2_v])⟩)⟩ dX10_falls_38
    · have hc5 := c5
      have q5 := xr4.f hc5
      refine lv_iconst (v := (-1)) hx hb dX10_falls_19 (by decide) ?_
      exact m_iret hx hb hr hlocks hM hS (Nat.le_of_ble_eq_true rfl) (Nat.le_of_ble_eq_true rfl) ⟨_, _, rfl, hI, hK, (Or.inr ⟨by omega, rfl, rfl⟩)⟩ dX10_falls_20
set_option maxHeartbeats 4000000 in
set_option maxRecDepth 20000 in
theorem V_X9_town_f (l : Launch) (D : va_G) (A : Nat → Prop) (ad : Nat → Nat) (ns : List Nat) (I : MI) (L : ML) (G : MG) (a0 : Int32) (a1 : Int32) (a2 : Int32) (a3 : Int32) (a4 : Int32) (hG : SGC ns G) (hI : INV I) : Met l yX9_town (wd yX9_town cX9_town 6 (some .boolean)) ({ frames := 2, cells := 0, slots := 0, locals := 48 }) (va_Pc [.ref (ad (0)), .int a0, .int a1, .int a2, .int a3, .int a4] (PM D A ad ns I L G)) (va_Qi (fun r u => ∃ I2 L2, u = (ad, ns, I2, L2, G) ∧ INV I2 ∧ Kp [(100, 107)] [] I I2 ∧ ((okT a0 a1 a2 a3 a4 ∧ r = 1 ∧ I2 = beginI I 100 a0 a1 a2 a3 a4) ∨ (¬ okT a0 a1 a2 a3 a4 ∧ r = 0 ∧ I2 = I))) (BM D A) A) 0 0 A := by
  refine m_ofW (by decide) (Nat.le_of_ble_eq_true rfl) ?_
  intro p e s m below meth c ls args hC hE hM hA hS hl
  obtain ⟨hx, hb, hml, hown, hts, hr, hlocks, hin⟩ := hC
  have k0 : (0 : Int32).toInt = 0 := by decide
  have k1 : (1 : Int32).toInt = 1 := by decide
  have k4 : (4 : Int32).toInt = 4 := by decide
  have k24 : (24 : Int32).toInt = 24 := by decide
  have k1000 : (1000 : Int32).toInt = 1000 := by decide
  have hK : Kp [(100, 107)] [] I I := Kp.rf
  have hl : lv_has ls 6 [(0, .ref (ad (0))), (1, .int (a0)), (2, .int (a1)), (3, .int (a2)), (4, .int (a3)), (5, .int (a4))] := hl
  refine lv_iload_n hx hb dX9_town_0 rfl (lv_at hl 1 rfl) ?_
  refine lv_iconst (v := (4)) hx hb dX9_town_1 (by decide) ?_
  refine lv_bipush (v := (24)) hx hb dX9_town_2 (by decide) ?_
  refine m_calli (m_runS (As := [.int (a0), .int (4), .int (24)]) (rest := []) hx hb hml hown hts hE hM hS hA ce_X9_isWithin tb_451 (V_X9_isWithin l D A ad ns I L G (a0) (4) (24) hI) rfl rfl ⟨Nat.le_of_ble_eq_true rfl, Nat.le_of_ble_eq_true rfl⟩  rfl hl.1 rfl (Nat.le_of_ble_eq_true rfl) dX9_town_4 ⟨Nat.le_of_ble_eq_true rfl, Nat.le_of_ble_eq_true rfl⟩) hS (fun r1 u H locs hw hM hS => ?_)
  obtain ⟨rfl, xr1⟩ := hw
  have hM : Mem D A ad ns I L G H := hM
  have yr1 := bo01 xr1
  refine lv_if_eq (tgt := 20) hx hb dX9_town_7 (by decide) (fun c2 => ?_) (fun c2 => ?_)
  · have hc2 := c2
    have q2 := xr1.f hc2
    refine lv_iconst (v := (0)) hx hb dX9_town_20 (by decide) ?_
    exact m_zret hx hb hr rfl hlocks hM hS (Nat.le_of_ble_eq_true rfl) (Nat.le_of_ble_eq_true rfl) ⟨_, _, rfl, hI, hK, (Or.inr ⟨by unfold okT; omega, rfl, rfl⟩)⟩ dX9_town_21
  · have hc2 := c2
    have q2 := xr1.t hc2
    refine lv_iload_n hx hb dX9_town_10 rfl (lv_at hl 2 rfl) ?_
    refine lv_iconst (v := (4)) hx hb dX9_town_11 (by decide) ?_
    refine lv_bipush (v := (24)) hx hb dX9_town_12 (by decide) ?_
    refine m_calli (m_runS (As := [.int (a1), .int (4), .int (24)]) (rest := []) hx hb hml hown hts hE hM hS hA ce_X9_isWithin tb_451 (V_X9_isWithin l D A ad ns I L G (a1) (4) (24) hI) rfl rfl ⟨Nat.le_of_ble_eq_true rfl, Nat.le_of_ble_eq_true rfl⟩  rfl hl.1 rfl (Nat.le_of_ble_eq_true rfl) dX9_town_14 ⟨Nat.le_of_ble_eq_true rfl, Nat.le_of_ble_eq_true rfl⟩) hS (fun r3 u H locs hw hM hS => ?_)
    obtain ⟨rfl, xr3⟩ := hw
    have hM : Mem D A ad ns I L G H := hM
    have yr3 := bo01 xr3
    refine lv_if_ne (tgt := 22) hx hb dX9_town_17 (by decide) (fun c4 => ?_) (fun c4 => ?_)
    · have hc4 := c4
      have q4 := xr3.t hc4
      refine lv_iload_n hx hb dX9_town_22 rfl (lv_at hl 3 rfl) ?_
      refine lv_iconst (v := (0)) hx hb dX9_town_23 (by decide) ?_
      refine lv_iload_n hx hb dX9_town_24 rfl (lv_at hl 1 rfl) ?_
      refine lv_iconst (v := (1)) hx hb dX9_town_25 (by decide) ?_
      refine lv_isub hx hb dX9_town_26 ?_
      refine lv_topi (fun v5 ev5 => ?_)
      have tv5 := a_sub ev5 (by omega) (by omega)
      refine m_calli (m_runS (As := [.int (a2), .int (0), .int (v5)]) (rest := []) hx hb hml hown hts hE hM hS hA ce_X9_isWithin tb_451 (V_X9_isWithin l D A ad ns I L G (a2) (0) (v5) hI) rfl rfl ⟨Nat.le_of_ble_eq_true rfl, Nat.le_of_ble_eq_true rfl⟩  rfl hl.1 rfl (Nat.le_of_ble_eq_true rfl) dX9_town_27 ⟨Nat.le_of_ble_eq_true rfl, Nat.le_of_ble_eq_true rfl⟩) hS (fun r6 u H locs hw hM hS => ?_)
      obtain ⟨rfl, xr6⟩ := hw
      have hM : Mem D A ad ns I L G H := hM
      have yr6 := bo01 xr6
      refine lv_if_eq (tgt := 57) hx hb dX9_town_30 (by decide) (fun c7 => ?_) (fun c7 => ?_)
      · have hc7 := c7
        have q7 := xr6.f hc7
        refine lv_iconst (v := (0)) hx hb dX9_town_57 (by decide) ?_
        exact m_zret hx hb hr rfl hlocks hM hS (Nat.le_of_ble_eq_true rfl) (Nat.le_of_ble_eq_true rfl) ⟨_, _, rfl, hI, hK, (Or.inr ⟨by unfold okT; omega, rfl, rfl⟩)⟩ dX9_town_58
      · have hc7 := c7
        have q7 := xr6.t hc7
        refine lv_iload hx hb dX9_town_33 (lv_at hl 4 rfl) ?_
        refine lv_iconst (v := (0)) hx hb dX9_town_35 (by decide) ?_
        refine lv_iload_n hx hb dX9_town_36 rfl (lv_at hl 2 rfl) ?_
        refine lv_iconst (v := (1)) hx hb dX9_town_37 (by decide) ?_
        refine lv_isub hx hb dX9_town_38 ?_
        refine lv_topi (fun v8 ev8 => ?_)
        have tv8 := a_sub ev8 (by omega) (by omega)
        refine m_calli (m_runS (As := [.int (a3), .int (0), .int (v8)]) (rest := []) hx hb hml hown hts hE hM hS hA ce_X9_isWithin tb_451 (V_X9_isWithin l D A ad ns I L G (a3) (0) (v8) hI) rfl rfl ⟨Nat.le_of_ble_eq_true rfl, Nat.le_of_ble_eq_true rfl⟩  rfl hl.1 rfl (Nat.le_of_ble_eq_true rfl) dX9_town_39 ⟨Nat.le_of_ble_eq_true rfl, Nat.le_of_ble_eq_true rfl⟩) hS (fun r9 u H locs hw hM hS => ?_)
        obtain ⟨rfl, xr9⟩ := hw
        have hM : Mem D A ad ns I L G H := hM
        have yr9 := bo01 xr9
        refine lv_if_eq (tgt := 57) hx hb dX9_town_42 (by decide) (fun c10 => ?_) (fun c10 => ?_)
        · have hc10 := c10
          have q10 := xr9.f hc10
          refine lv_iconst (v := (0)) hx hb dX9_town_57 (by decide) ?_
          exact m_zret hx hb hr rfl hlocks hM hS (Nat.le_of_ble_eq_true rfl) (Nat.le_of_ble_eq_true rfl) ⟨_, _, rfl, hI, hK, (Or.inr ⟨by unfold okT; omega, rfl, rfl⟩)⟩ dX9_town_58
        · have hc10 := c10
          have q10 := xr9.t hc10
          refine lv_iload hx hb dX9_town_45 (lv_at hl 5 rfl) ?_
          refine lv_iconst (v := (0)) hx hb dX9_town_47 (by decide) ?_
          refine lv_sipush (v := (1000)) hx hb dX9_town_48 (by decide) ?_
          refine m_calli (m_runS (As := [.int (a4), .int (0), .int (1000)]) (rest := []) hx hb hml hown hts hE hM hS hA ce_X9_isWithin tb_451 (V_X9_isWithin l D A ad ns I L G (a4) (0) (1000) hI) rfl rfl ⟨Nat.le_of_ble_eq_true rfl, Nat.le_of_ble_eq_true rfl⟩  rfl hl.1 rfl (Nat.le_of_ble_eq_true rfl) dX9_town_51 ⟨Nat.le_of_ble_eq_true rfl, Nat.le_of_ble_eq_true rfl⟩) hS (fun r11 u H locs hw hM hS => ?_)
          obtain ⟨rfl, xr11⟩ := hw
          have hM : Mem D A ad ns I L G H := hM
          have yr11 := bo01 xr11
          refine lv_if_ne (tgt := 59) hx hb dX9_town_54 (by decide) (fun c12 => ?_) (fun c12 => ?_)
          · have hc12 := c12
            have q12 := xr11.t hc12
            refine lv_aload_n hx hb dX9_town_59 rfl (lv_at hl 0 rfl) ?_
            refine m_getr (0) 0 (100) hx hb hts hown hE oc9 hM (hG.1 0 (by decide)) rfl (by decide) rfl (hG.2 (0, 0, 100) (by decide)) (by decide) tb_398 dX9_town_60 ?_
            refine lv_iload_n hx hb dX9_town_63 rfl (lv_at hl 1 rfl) ?_
            refine lv_iload_n hx hb dX9_town_64 rfl (lv_at hl 2 rfl) ?_
            refine lv_iload_n hx hb dX9_town_65 rfl (lv_at hl 3 rfl) ?_
            refine lv_iload hx hb dX9_town_66 (lv_at hl 4 rfl) ?_
            refine lv_iload hx hb dX9_town_68 (lv_at hl 5 rfl) ?_
            refine m_callv (m_runV (100) (As := [.int (a0), .int (a1), .int (a2), .int (a3), .int (a4)]) (rest := []) hx hb hml hown hts hE hM hS hA ce_X8_begin tb_454 (C_X8_begin l D A ad ns I L G 100 (a0) (a1) (a2) (a3) (a4) hG.t0) rfl rfl ⟨Nat.le_of_ble_eq_true rfl, Nat.le_of_ble_eq_true rfl⟩ (hG.1 100 (by decide)) rfl rfl (by decide) rfl hl.1 rfl (Nat.le_of_ble_eq_true rfl) dX9_town_70 ⟨Nat.le_of_ble_eq_true rfl, Nat.le_of_ble_eq_true rfl⟩) hS (fun u H locs hw hM hS => ?_)
            subst hw
            obtain ⟨I13, eI13⟩ : ∃ z : MI, z = beginI I 100 (a0) (a1) (a2) (a3) (a4) := ⟨_, rfl⟩
            have hM : Mem D A ad ns I13 L G H := by rw [eI13]; exact hM
            have hkI13 : Kp [(100, 107)] [] I I13 := by rw [eI13]; exact begin_kp
            have hI : INV I13 := by rw [eI13]; exact begin_inv hI (by unfold okT; omega)
            have hK := hK.trans hkI13 rfl
            refine lv_iconst (v := (1)) hx hb dX9_town_73 (by decide) ?_
            exact m_zret hx hb hr rfl hlocks hM hS (Nat.le_of_ble_eq_true rfl) (Nat.le_of_ble_eq_true rfl) ⟨_, _, rfl, hI, hK, (Or.inl ⟨by unfold okT; omega, rfl, eI13⟩)⟩ dX9_town_74
          · have hc12 := c12
            have q12 := xr11.f hc12
            refine lv_iconst (v := (0)) hx hb dX9_town_57 (by decide) ?_
            exact m_zret hx hb hr rfl hlocks hM hS (Nat.le_of_ble_eq_true rfl) (Nat.le_of_ble_eq_true rfl) ⟨_, _, rfl, hI, hK, (Or.inr ⟨by unfold okT; omega, rfl, rfl⟩)⟩ dX9_town_58
    · have hc4 := c4
      have q4 := xr3.f hc4
      refine lv_iconst (v := (0)) hx hb dX9_town_20 (by decide) ?_
      exact m_zret hx hb hr rfl hlocks hM hS (Nat.le_of_ble_eq_true rfl) (Nat.le_of_ble_eq_true rfl) ⟨_, _, rfl, hI, hK, (Or.inr ⟨by unfold okT; omega, rfl, rfl⟩)⟩ dX9_town_21
theorem zf_step {f : Nat → Int32} {k k2 : Int32} (h : ∀ j, j < k.toNatClampNeg → f j = 0) (h0 : 0 ≤ k.toInt) (e : k2.toInt = k.toInt + 1) (I : MI) (hf : I 1001 = f) : ∀ j, j < k2.toNatClampNeg → u2 I 1001 k.toNatClampNeg 0 1001 j = 0 := by
  have t1 := tn h0
  have t2 := tn (i := k2) (by omega)
  intro j hj
  rw [u2_v]
  by_cases hq : j = k.toNatClampNeg
  · rw [if_pos ⟨rfl, hq⟩]
  · rw [if_neg (by simp [hq]), hf]
    exact h j (by omega)
theorem af_step {I : MI} {k k2 : Int32} (h : ∀ j, j < k.toNatClampNeg → I 1002 j = 0 ∧ I 1003 j = -1 ∧ I 1006 j = -1) (h0 : 0 ≤ k.toInt) (e : k2.toInt = k.toInt + 1) : ∀ j, j < k2.toNatClampNeg → u2 (u2 (u2 I 1002 k.toNatClampNeg 0) 1003 k.toNatClampNeg (-1)) 1006 k.toNatClampNeg (-1) 1002 j = 0 ∧ u2 (u2 (u2 I 1002 k.toNatClampNeg 0) 1003 k.toNatClampNeg (-1)) 1006 k.toNatClampNeg (-1) 1003 j = -1 ∧ u2 (u2 (u2 I 1002 k.toNatClampNeg 0) 1003 k.toNatClampNeg (-1)) 1006 k.toNatClampNeg (-1) 1006 j = -1 := by
  have t1 := tn h0
  have t2 := tn (i := k2) (by omega)
  intro j hj
  simp only [u2_v]
  by_cases hq : j = k.toNatClampNeg
  · simp [hq]
  · have := h j (by omega)
    simp [hq, this]
set_option maxHeartbeats 4000000 in
set_option maxRecDepth 20000 in
theorem V_X10_town_f (l : Launch) (D : va_G) (A : Nat → Prop) (ad : Nat → Nat) (ns : List Nat) (I : MI) (L : ML) (G : MG) (a0 : Int32) (a1 : Int32) (a2 : Int32) (a3 : Int32) (a4 : Int32) (hJ : SGM ns G) (hI : INV I) : Met l yX10_town (wd yX10_town cX10_town 7 (some .boolean)) ({ frames := 1, cells := 0, slots := 0, locals := 25 }) (va_Pc [.ref (ad (1000)), .int a0, .int a1, .int a2, .int a3, .int a4] (PM D A ad ns I L G)) (va_Qi (fun r u => ∃ I2 L2, u = (ad, ns, I2, L2, G) ∧ INV I2 ∧ Kp [(1001, 1007)] [] I I2 ∧ ((okT a0 a1 a2 a3 a4 ∧ r = 1 ∧ T10 I2 a0 a1 ∧ ∀ j, j < 576 → I2 1002 j = 0 ∧ I2 1003 j = -1 ∧ I2 1006 j = -1) ∨ (¬ okT a0 a1 a2 a3 a4 ∧ r = 0 ∧ I2 = I))) (BM D A) A) 0 0 A := by
  refine m_ofW (by decide) (Nat.le_of_ble_eq_true rfl) ?_
  intro p e s m below meth c ls args hC hE hM hA hS hl
  obtain ⟨hx, hb, hml, hown, hts, hr, hlocks, hin⟩ := hC
  have km1 : (-1 : Int32).toInt = -1 := by decide
  have k0 : (0 : Int32).toInt = 0 := by decide
  have k1 : (1 : Int32).toInt = 1 := by decide
  have k2 : (2 : Int32).toInt = 2 := by decide
  have k3 : (3 : Int32).toInt = 3 := by decide
  have k4 : (4 : Int32).toInt = 4 := by decide
  have k10 : (10 : Int32).toInt = 10 := by decide
  have k24 : (24 : Int32).toInt = 24 := by decide
  have k288 : (288 : Int32).toInt = 288 := by decide
  have k576 : (576 : Int32).toInt = 576 := by decide
  have kl0 : (0 : Int64).toInt = 0 := by decide
  have kl4 : (4 : Int64).toInt = 4 := by decide
  have kl24 : (24 : Int64).toInt = 24 := by decide
  have kl1000 : (1000 : Int64).toInt = 1000 := by decide
  have hK : Kp [(1001, 1007)] [] I I := Kp.rf
  have hl : lv_has ls 7 [(0, .ref (ad (1000))), (1, .int (a0)), (2, .int (a1)), (3, .int (a2)), (4, .int (a3)), (5, .int (a4))] := hl
  refine lv_iload_n hx hb dX10_town_0 rfl (lv_at hl 1 rfl) ?_
  refine lv_i2l hx hb dX10_town_1 rfl ?_
  refine lv_topl (fun v1 ev1 => ?_)
  have tv1 := q_i2l ev1
  refine lv_ldc2 (v := (4)) hx hb hown (hts _ tb_1423) dX10_town_2 ?_
  refine lv_ldc2 (v := (24)) hx hb hown (hts _ tb_1424) dX10_town_5 ?_
  refine m_calli (m_runS (As := [.long (v1), .long ((4 : Int64)), .long ((24 : Int64))]) (rest := []) hx hb hml hown hts hE hM hS hA ce_X10_in tb_1425 (V_X10_in l D A ad ns I L G (v1) ((4 : Int64)) ((24 : Int64)) hI) rfl rfl ⟨Nat.le_of_ble_eq_true rfl, Nat.le_of_ble_eq_true rfl⟩  rfl hl.1 rfl (Nat.le_of_ble_eq_true rfl) dX10_town_8 ⟨Nat.le_of_ble_eq_true rfl, Nat.le_of_ble_eq_true rfl⟩) hS (fun r2 u H locs hw hM hS => ?_)
  obtain ⟨rfl, xr2⟩ := hw
  have hM : Mem D A ad ns I L G H := hM
  have yr2 := bo01 xr2
  refine lv_if_eq (tgt := 68) hx hb dX10_town_11 (by decide) (fun c3 => ?_) (fun c3 => ?_)
  · have hc3 := c3
    have q3 := xr2.f hc3
    refine lv_iconst (v := (0)) hx hb dX10_town_68 (by decide) ?_
    exact m_zret hx hb hr rfl hlocks hM hS (Nat.le_of_ble_eq_true rfl) (Nat.le_of_ble_eq_true rfl) ⟨_, _, rfl, hI, hK, (Or.inr ⟨by unfold okT; omega, rfl, rfl⟩)⟩ dX10_town_69
  · have hc3 := c3
    have q3 := xr2.t hc3
    refine lv_iload_n hx hb dX10_town_14 rfl (lv_at hl 2 rfl) ?_
    refine lv_i2l hx hb dX10_town_15 rfl ?_
    refine lv_topl (fun v4 ev4 => ?_)
    have tv4 := q_i2l ev4
    refine lv_ldc2 (v := (4)) hx hb hown (hts _ tb_1423) dX10_town_16 ?_
    refine lv_ldc2 (v := (24)) hx hb hown (hts _ tb_1424) dX10_town_19 ?_
    refine m_calli (m_runS (As := [.long (v4), .long ((4 : Int64)), .long ((24 : Int64))]) (rest := []) hx hb hml hown hts hE hM hS hA ce_X10_in tb_1425 (V_X10_in l D A ad ns I L G (v4) ((4 : Int64)) ((24 : Int64)) hI) rfl rfl ⟨Nat.le_of_ble_eq_true rfl, Nat.le_of_ble_eq_true rfl⟩  rfl hl.1 rfl (Nat.le_of_ble_eq_true rfl) dX10_town_22 ⟨Nat.le_of_ble_eq_true rfl, Nat.le_of_ble_eq_true rfl⟩) hS (fun r5 u H locs hw hM hS => ?_)
    obtain ⟨rfl, xr5⟩ := hw
    have hM : Mem D A ad ns I L G H := hM
    have yr5 := bo01 xr5
    refine lv_if_eq (tgt := 68) hx hb dX10_town_25 (by decide) (fun c6 => ?_) (fun c6 => ?_)
    · have hc6 := c6
      have q6 := xr5.f hc6
      refine lv_iconst (v := (0)) hx hb dX10_town_68 (by decide) ?_
      exact m_zret hx hb hr rfl hlocks hM hS (Nat.le_of_ble_eq_true rfl) (Nat.le_of_ble_eq_true rfl) ⟨_, _, rfl, hI, hK, (Or.inr ⟨by unfold okT; omega, rfl, rfl⟩)⟩ dX10_town_69
    · have hc6 := c6
      have q6 := xr5.t hc6
      refine lv_iload_n hx hb dX10_town_28 rfl (lv_at hl 3 rfl) ?_
      refine lv_i2l hx hb dX10_town_29 rfl ?_
      refine lv_topl (fun v7 ev7 => ?_)
      have tv7 := q_i2l ev7
      refine lv_lconst (v := 0) hx hb dX10_town_30 (by decide) ?_
      refine lv_iload_n hx hb dX10_town_31 rfl (lv_at hl 1 rfl) ?_
      refine lv_iconst (v := (1)) hx hb dX10_town_32 (by decide) ?_
      refine lv_isub hx hb dX10_town_33 ?_
      refine lv_topi (fun v8 ev8 => ?_)
      have tv8 := a_sub ev8 (by omega) (by omega)
      refine lv_i2l hx hb dX10_town_34 rfl ?_
      refine lv_topl (fun v9 ev9 => ?_)
      have tv9 := q_i2l ev9
      refine m_calli (m_runS (As := [.long (v7), .long (0), .long (v9)]) (rest := []) hx hb hml hown hts hE hM hS hA ce_X10_in tb_1425 (V_X10_in l D A ad ns I L G (v7) (0) (v9) hI) rfl rfl ⟨Nat.le_of_ble_eq_true rfl, Nat.le_of_ble_eq_true rfl⟩  rfl hl.1 rfl (Nat.le_of_ble_eq_true rfl) dX10_town_35 ⟨Nat.le_of_ble_eq_true rfl, Nat.le_of_ble_eq_true rfl⟩) hS (fun r10 u H locs hw hM hS => ?_)
      obtain ⟨rfl, xr10⟩ := hw
      have hM : Mem D A ad ns I L G H := hM
      have yr10 := bo01 xr10
      refine lv_if_eq (tgt := 68) hx hb dX10_town_38 (by decide) (fun c11 => ?_) (fun c11 => ?_)
      · have hc11 := c11
        have q11 := xr10.f hc11
        refine lv_iconst (v := (0)) hx hb dX10_town_68 (by decide) ?_
        exact m_zret hx hb hr rfl hlocks hM hS (Nat.le_of_ble_eq_true rfl) (Nat.le_of_ble_eq_true rfl) ⟨_, _, rfl, hI, hK, (Or.inr ⟨by unfold okT; omega, rfl, rfl⟩)⟩ dX10_town_69
      · have hc11 := c11
        have q11 := xr10.t hc11
        refine lv_iload hx hb dX10_town_41 (lv_at hl 4 rfl) ?_
        refine lv_i2l hx hb dX10_town_43 rfl ?_
        refine lv_topl (fun v12 ev12 => ?_)
        have tv12 := q_i2l ev12
        refine lv_lconst (v := 0) hx hb dX10_town_44 (by decide) ?_
        refine lv_iload_n hx hb dX10_town_45 rfl (lv_at hl 2 rfl) ?_
        refine lv_iconst (v := (1)) hx hb dX10_town_46 (by decide) ?_
        refine lv_isub hx hb dX10_town_47 ?_
        refine lv_topi (fun v13 ev13 => ?_)
        have tv13 := a_sub ev13 (by omega) (by omega)
        refine lv_i2l hx hb dX10_town_48 rfl ?_
        refine lv_topl (fun v14 ev14 => ?_)
        have tv14 := q_i2l ev14
        refine m_calli (m_runS (As := [.long (v12), .long (0), .long (v14)]) (rest := []) hx hb hml hown hts hE hM hS hA ce_X10_in tb_1425 (V_X10_in l D A ad ns I L G (v12) (0) (v14) hI) rfl rfl ⟨Nat.le_of_ble_eq_true rfl, Nat.le_of_ble_eq_true rfl⟩  rfl hl.1 rfl (Nat.le_of_ble_eq_true rfl) dX10_town_49 ⟨Nat.le_of_ble_eq_true rfl, Nat.le_of_ble_eq_true rfl⟩) hS (fun r15 u H locs hw hM hS => ?_)
        obtain ⟨rfl, xr15⟩ := hw
        have hM : Mem D A ad ns I L G H := hM
        have yr15 := bo01 xr15
        refine lv_if_eq (tgt := 68) hx hb dX10_town_52 (by decide) (fun c16 => ?_) (fun c16 => ?_)
        · have hc16 := c16
          have q16 := xr15.f hc16
          refine lv_iconst (v := (0)) hx hb dX10_town_68 (by decide) ?_
          exact m_zret hx hb hr rfl hlocks hM hS (Nat.le_of_ble_eq_true rfl) (Nat.le_of_ble_eq_true rfl) ⟨_, _, rfl, hI, hK, (Or.inr ⟨by unfold okT; omega, rfl, rfl⟩)⟩ dX10_town_69
        · have hc16 := c16
          have q16 := xr15.t hc16
          refine lv_iload hx hb dX10_town_55 (lv_at hl 5 rfl) ?_
          refine lv_i2l hx hb dX10_town_57 rfl ?_
          refine lv_topl (fun v17 ev17 => ?_)
          have tv17 := q_i2l ev17
          refine lv_lconst (v := 0) hx hb dX10_town_58 (by decide) ?_
          refine lv_ldc2 (v := (1000)) hx hb hown (hts _ tb_1428) dX10_town_59 ?_
          refine m_calli (m_runS (As := [.long (v17), .long (0), .long ((1000 : Int64))]) (rest := []) hx hb hml hown hts hE hM hS hA ce_X10_in tb_1425 (V_X10_in l D A ad ns I L G (v17) (0) ((1000 : Int64)) hI) rfl rfl ⟨Nat.le_of_ble_eq_true rfl, Nat.le_of_ble_eq_true rfl⟩  rfl hl.1 rfl (Nat.le_of_ble_eq_true rfl) dX10_town_62 ⟨Nat.le_of_ble_eq_true rfl, Nat.le_of_ble_eq_true rfl⟩) hS (fun r18 u H locs hw hM hS => ?_)
          obtain ⟨rfl, xr18⟩ := hw
          have hM : Mem D A ad ns I L G H := hM
          have yr18 := bo01 xr18
          refine lv_if_ne (tgt := 70) hx hb dX10_town_65 (by decide) (fun c19 => ?_) (fun c19 => ?_)
          · have hc19 := c19
            have q19 := xr18.t hc19
            refine lv_iconst (v := (0)) hx hb dX10_town_70 (by decide) ?_
            refine lv_istore (lv' := [(6, .int (0)), (0, .ref (ad (1000))), (1, .int (a0)), (2, .int (a1)), (3, .int (a2)), (4, .int (a3)), (5, .int (a4))]) hx hb dX10_town_71 hl (by decide) rfl (fun ls hl => ?_)
            have loop73 : ∀ (n : Nat) (x6_73 : Int32) (Ia73 : MI) (La73 : ML) (H : Heap) (locs : List Loc) (ls : Array Slot), INV Ia73 → Kp [(1001, 1007)] [] I Ia73 → (0 ≤ x6_73.toInt ∧ x6_73.toInt ≤ 10) → (∀ j, j < (x6_73).toNatClampNeg → Ia73 1001 j = 0) → (10 - x6_73.toInt).toNat < n → Mem D A ad ns Ia73 La73 G H → va_S A s.heap H locs → lv_has ls 7 [(6, .int (x6_73)), (0, .ref (ad (1000))), (1, .int (a0)), (2, .int (a1)), (3, .int (a2)), (4, .int (a3)), (5, .int (a4))] → W p l e ({ frames := 1, cells := 0, slots := 0, locals := 25 } : Room) s m args below meth c H locs 0 0 (MQ below (va_Qi (fun r u => ∃ I2 L2, u = (ad, ns, I2, L2, G) ∧ INV I2 ∧ Kp [(1001, 1007)] [] I I2 ∧ ((okT a0 a1 a2 a3 a4 ∧ r = 1 ∧ T10 I2 a0 a1 ∧ ∀ j, j < 576 → I2 1002 j = 0 ∧ I2 1003 j = -1 ∧ I2 1006 j = -1) ∨ (¬ okT a0 a1 a2 a3 a4 ∧ r = 0 ∧ I2 = I))) (BM D A) A) args s 0 0 A) (F0 m 73 ls []) := by
              intro n
              induction n with
              | zero =>
                intro x6_73 Ia73 La73 H locs ls hI hK hr6_73 hz73 hmu
                exact absurd hmu (Nat.not_lt_zero _)
              | succ n ih73 =>
                intro x6_73 Ia73 La73 H locs ls hI hK hr6_73 hz73 hmu73 hM hS hl
                refine lv_iload hx hb dX10_town_73 (lv_at hl 0 rfl) ?_
                refine lv_bipush (v := (10)) hx hb dX10_town_75 (by decide) ?_
                refine lv_icmp_ge (tgt := 94) hx hb dX10_town_77 (by decide) (fun c20 => ?_) (fun c20 => ?_)
                · have hc20 := c20
                  have q20 := q_le hc20
                  refine lv_aload_n hx hb dX10_town_94 rfl (lv_at hl 1 rfl) ?_
                  refine m_getr (1000) 1 (1001) hx hb hts hown hE oc10 hM hJ.1 rfl (by decide) rfl (hJ.2 1 (by decide)).2 (by decide) tb_1178 dX10_town_95 ?_
                  refine lv_iconst (v := (0)) hx hb dX10_town_98 (by decide) ?_
                  refine lv_iconst (v := (1)) hx hb dX10_town_99 (by decide) ?_
                  refine m_iast (1001) hx hb hE hM hS (hJ.2 1 (by decide)).1 rfl (vp_in_iff.mpr (by decide)) dX10_town_100 (fun H locs I21 eI21 hM hS => ?_)
                  rw [show (0 : Int32).toNatClampNeg = 0 from rfl] at eI21
                  subst eI21
                  have hI := hI.put (n := 1001) (k := 0) (v := 1) (lo := 0) (hi := 1) rfl (by first | omega | decide)
                  have hK := hK.put (n := 1001) (k := 0) (v := 1) (by first | rfl | simp [inR])
                  refine lv_aload_n hx hb dX10_town_101 rfl (lv_at hl 1 rfl) ?_
                  refine m_getr (1000) 1 (1001) hx hb hts hown hE oc10 hM hJ.1 rfl (by decide) rfl (hJ.2 1 (by decide)).2 (by decide) tb_1178 dX10_town_102 ?_
                  refine lv_iconst (v := (1)) hx hb dX10_town_105 (by decide) ?_
                  refine lv_iload_n hx hb dX10_town_106 rfl (lv_at hl 2 rfl) ?_
                  refine m_iast (1001) hx hb hE hM hS (hJ.2 1 (by decide)).1 rfl (vp_in_iff.mpr (by decide)) dX10_town_107 (fun H locs I22 eI22 hM hS => ?_)
                  rw [show (1 : Int32).toNatClampNeg = 1 from rfl] at eI22
                  subst eI22
                  have hI := hI.put (n := 1001) (k := 1) (v := a0) (lo := 0) (hi := 24) rfl (by first | omega | decide)
                  have hK := hK.put (n := 1001) (k := 1) (v := a0) (by first | rfl | simp [inR])
                  refine lv_aload_n hx hb dX10_town_108 rfl (lv_at hl 1 rfl) ?_
                  refine m_getr (1000) 1 (1001) hx hb hts hown hE oc10 hM hJ.1 rfl (by decide) rfl (hJ.2 1 (by decide)).2 (by decide) tb_1178 dX10_town_109 ?_
                  refine lv_iconst (v := (2)) hx hb dX10_town_112 (by decide) ?_
                  refine lv_iload_n hx hb dX10_town_113 rfl (lv_at hl 3 rfl) ?_
                  refine m_iast (1001) hx hb hE hM hS (hJ.2 1 (by decide)).1 rfl (vp_in_iff.mpr (by decide)) dX10_town_114 (fun H locs I23 eI23 hM hS => ?_)
                  rw [show (2 : Int32).toNatClampNeg = 2 from rfl] at eI23
                  subst eI23
                  have hI := hI.put (n := 1001) (k := 2) (v := a1) (lo := 0) (hi := 24) rfl (by first | omega | decide)
                  have hK := hK.put (n := 1001) (k := 2) (v := a1) (by first | rfl | simp [inR])
                  refine lv_aload_n hx hb dX10_town_115 rfl (lv_at hl 1 rfl) ?_
                  refine m_getr (1000) 1 (1001) hx hb hts hown hE oc10 hM hJ.1 rfl (by decide) rfl (hJ.2 1 (by decide)).2 (by decide) tb_1178 dX10_town_116 ?_
                  refine lv_iconst (v := (3)) hx hb dX10_town_119 (by decide) ?_
                  refine lv_bipush (v := (24)) hx hb dX10_town_120 (by decide) ?_
                  refine lv_iload hx hb dX10_town_122 (lv_at hl 5 rfl) ?_
                  refine lv_imul hx hb dX10_town_124 ?_
                  refine lv_topi (fun v24 ev24 => ?_)
                  have tv24 := a_mulL (c := 24) ev24 (by decide) (by omega) (by omega)
                  refine lv_iload_n hx hb dX10_town_125 rfl (lv_at hl 4 rfl) ?_
                  refine lv_iadd hx hb dX10_town_126 ?_
                  refine lv_topi (fun v25 ev25 => ?_)
                  have tv25 := a_add ev25 (by omega) (by omega)
                  refine m_iast (1001) hx hb hE hM hS (hJ.2 1 (by decide)).1 rfl (vp_in_iff.mpr (by decide)) dX10_town_127 (fun H locs I26 eI26 hM hS => ?_)
                  rw [show (3 : Int32).toNatClampNeg = 3 from rfl] at eI26
                  subst eI26
                  have hI := hI.putF (n := 1001) (k := 3) (v := v25) rfl
                  have hK := hK.put (n := 1001) (k := 3) (v := v25) (by first | rfl | simp [inR])
                  refine lv_aload_n hx hb dX10_town_128 rfl (lv_at hl 1 rfl) ?_
                  refine m_getr (1000) 1 (1001) hx hb hts hown hE oc10 hM hJ.1 rfl (by decide) rfl (hJ.2 1 (by decide)).2 (by decide) tb_1178 dX10_town_129 ?_
                  refine lv_iconst (v := (4)) hx hb dX10_town_132 (by decide) ?_
                  refine lv_iload hx hb dX10_town_133 (lv_at hl 6 rfl) ?_
                  refine m_iast (1001) hx hb hE hM hS (hJ.2 1 (by decide)).1 rfl (vp_in_iff.mpr (by decide)) dX10_town_135 (fun H locs I27 eI27 hM hS => ?_)
                  rw [show (4 : Int32).toNatClampNeg = 4 from rfl] at eI27
                  subst eI27
                  have hI := hI.putF (n := 1001) (k := 4) (v := a4) rfl
                  have hK := hK.put (n := 1001) (k := 4) (v := a4) (by first | rfl | simp [inR])
                  refine lv_iconst (v := (0)) hx hb dX10_town_136 (by decide) ?_
                  refine lv_istore (lv' := [(6, .int (0)), (0, .ref (ad (1000))), (1, .int (a0)), (2, .int (a1)), (3, .int (a2)), (4, .int (a3)), (5, .int (a4))]) hx hb dX10_town_137 hl (by decide) rfl (fun ls hl => ?_)
                  have loop139 : ∀ (n : Nat) (x6_139 : Int32) (Ia139 : MI) (La139 : ML) (H : Heap) (locs : List Loc) (ls : Array Slot), INV Ia139 → Kp [(1001, 1007)] [] I Ia139 → (0 ≤ x6_139.toInt ∧ x6_139.toInt ≤ 576) → (T10 Ia139 a0 a1) → (∀ j, j < (x6_139).toNatClampNeg → Ia139 1002 j = 0 ∧ Ia139 1003 j = -1 ∧ Ia139 1006 j = -1) → (576 - x6_139.toInt).toNat < n → Mem D A ad ns Ia139 La139 G H → va_S A s.heap H locs → lv_has ls 7 [(6, .int (x6_139)), (0, .ref (ad (1000))), (1, .int (a0)), (2, .int (a1)), (3, .int (a2)), (4, .int (a3)), (5, .int (a4))] → W p l e ({ frames := 1, cells := 0, slots := 0, locals := 25 } : Room) s m args below meth c H locs 0 0 (MQ below (va_Qi (fun r u => ∃ I2 L2, u = (ad, ns, I2, L2, G) ∧ INV I2 ∧ Kp [(1001, 1007)] [] I I2 ∧ ((okT a0 a1 a2 a3 a4 ∧ r = 1 ∧ T10 I2 a0 a1 ∧ ∀ j, j < 576 → I2 1002 j = 0 ∧ I2 1003 j = -1 ∧ I2 1006 j = -1) ∨ (¬ okT a0 a1 a2 a3 a4 ∧ r = 0 ∧ I2 = I))) (BM D A) A) args s 0 0 A) (F0 m 139 ls []) := by
                    intro n
                    induction n with
                    | zero =>
                      intro x6_139 Ia139 La139 H locs ls hI hK hr6_139 hT139 hA139 hmu
                      exact absurd hmu (Nat.not_lt_zero _)
                    | succ n ih139 =>
                      intro x6_139 Ia139 La139 H locs ls hI hK hr6_139 hT139 hA139 hmu139 hM hS hl
                      refine lv_iload hx hb dX10_town_139 (lv_at hl 0 rfl) ?_
                      refine lv_sipush (v := (576)) hx hb dX10_town_141 (by decide) ?_
                      refine lv_icmp_ge (tgt := 177) hx hb dX10_town_144 (by decide) (fun c28 => ?_) (fun c28 => ?_)
                      · have hc28 := c28
                        have q28 := q_le hc28
                        refine lv_iconst (v := (0)) hx hb dX10_town_177 (by decide) ?_
                        refine lv_istore (lv' := [(6, .int (0)), (0, .ref (ad (1000))), (1, .int (a0)), (2, .int (a1)), (3, .int (a2)), (4, .int (a3)), (5, .int (a4))]) hx hb dX10_town_178 hl (by decide) rfl (fun ls hl => ?_)
                        have loop180 : ∀ (n : Nat) (x6_180 : Int32) (Ia180 : MI) (La180 : ML) (H : Heap) (locs : List Loc) (ls : Array Slot), INV Ia180 → Kp [(1001, 1007)] [] I Ia180 → (0 ≤ x6_180.toInt ∧ x6_180.toInt ≤ 288) → (T10 Ia180 a0 a1) → (∀ j, j < 576 → Ia180 1002 j = 0 ∧ Ia180 1003 j = -1 ∧ Ia180 1006 j = -1) → (288 - x6_180.toInt).toNat < n → Mem D A ad ns Ia180 La180 G H → va_S A s.heap H locs → lv_has ls 7 [(6, .int (x6_180)), (0, .ref (ad (1000))), (1, .int (a0)), (2, .int (a1)), (3, .int (a2)), (4, .int (a3)), (5, .int (a4))] → W p l e ({ frames := 1, cells := 0, slots := 0, locals := 25 } : Room) s m args below meth c H locs 0 0 (MQ below (va_Qi (fun r u => ∃ I2 L2, u = (ad, ns, I2, L2, G) ∧ INV I2 ∧ Kp [(1001, 1007)] [] I I2 ∧ ((okT a0 a1 a2 a3 a4 ∧ r = 1 ∧ T10 I2 a0 a1 ∧ ∀ j, j < 576 → I2 1002 j = 0 ∧ I2 1003 j = -1 ∧ I2 1006 j = -1) ∨ (¬ okT a0 a1 a2 a3 a4 ∧ r = 0 ∧ I2 = I))) (BM D A) A) args s 0 0 A) (F0 m 180 ls []) := by
                          intro n
                          induction n with
                          | zero =>
                            intro x6_180 Ia180 La180 H locs ls hI hK hr6_180 hT180 hA180 hmu
                            exact absurd hmu (Nat.not_lt_zero _)
                          | succ n ih180 =>
                            intro x6_180 Ia180 La180 H locs ls hI hK hr6_180 hT180 hA180 hmu180 hM hS hl
                            refine lv_iload hx hb dX10_town_180 (lv_at hl 0 rfl) ?_
                            refine lv_sipush (v := (288)) hx hb dX10_town_182 (by decide) ?_
                            refine lv_icmp_ge (tgt := 210) hx hb dX10_town_185 (by decide) (fun c29 => ?_) (fun c29 => ?_)
                            · have hc29 := c29
                              have q29 := q_le hc29
                              refine lv_iconst (v := (1)) hx hb dX10_town_210 (by decide) ?_
                              exact m_zret hx hb hr rfl hlocks hM hS (Nat.le_of_ble_eq_true rfl) (Nat.le_of_ble_eq_true rfl) ⟨_, _, rfl, hI, hK, (Or.inl ⟨by unfold okT; omega, rfl, hT180, hA180⟩)⟩ dX10_town_211
                            · have hc29 := c29
                              have q29 := q_nle hc29
                              refine lv_aload_n hx hb dX10_town_188 rfl (lv_at hl 1 rfl) ?_
                              refine m_getr (1000) 4 (1004) hx hb hts hown hE oc10 hM hJ.1 rfl (by decide) rfl (hJ.2 4 (by decide)).2 (by decide) tb_1181 dX10_town_189 ?_
                              refine lv_iload hx hb dX10_town_192 (lv_at hl 0 rfl) ?_
                              refine lv_iconst (v := (-1)) hx hb dX10_town_194 (by decide) ?_
                              refine m_iast (1004) hx hb hE hM hS (hJ.2 4 (by decide)).1 rfl (vp_in_iff.mpr (by omega)) dX10_town_195 (fun H locs I30 eI30 hM hS => ?_)
                              subst eI30
                              have hI := hI.putF (n := 1004) (k := ((x6_180).toNatClampNeg)) (v := (-1 : Int32)) rfl
                              have hK := hK.put (n := 1004) (k := ((x6_180).toNatClampNeg)) (v := (-1 : Int32)) (by first | rfl | simp [inR])
                              refine lv_aload_n hx hb dX10_town_196 rfl (lv_at hl 1 rfl) ?_
                              refine m_getr (1000) 5 (1005) hx hb hts hown hE oc10 hM hJ.1 rfl (by decide) rfl (hJ.2 5 (by decide)).2 (by decide) tb_1182 dX10_town_197 ?_
                              refine lv_iload hx hb dX10_town_200 (lv_at hl 0 rfl) ?_
                              refine lv_iconst (v := (0)) hx hb dX10_town_202 (by decide) ?_
                              refine m_iast (1005) hx hb hE hM hS (hJ.2 5 (by decide)).1 rfl (vp_in_iff.mpr (by omega)) dX10_town_203 (fun H locs I31 eI31 hM hS => ?_)
                              subst eI31
                              have hI := hI.putF (n := 1005) (k := ((x6_180).toNatClampNeg)) (v := 0) rfl
                              have hK := hK.put (n := 1005) (k := ((x6_180).toNatClampNeg)) (v := 0) (by first | rfl | simp [inR])
                              obtain ⟨v32, ev32⟩ : ∃ z : Int32, z = x6_180 + Int32.ofInt (1) := ⟨_, rfl⟩
                              have tv32 := a_inc ev32 (by decide) (by omega) (by omega)
                              refine lv_iinc (v := v32) (lv' := [(6, .int (v32)), (0, .ref (ad (1000))), (1, .int (a0)), (2, .int (a1)), (3, .int (a2)), (4, .int (a3)), (5, .int (a4))]) hx hb dX10_town_204 hl (k := 0) rfl ev32.symm (by decide) rfl (fun ls hl => ?_)
                              refine lv_goto (tgt := 180) hx hb dX10_town_207 (by decide) ?_
                              exact ih180 (v32) (u2 (u2 Ia180 (1004) ((x6_180).toNatClampNeg) ((-1 : Int32))) (1005) ((x6_180).toNatClampNeg) (0)) La180 _ _ ls hI hK (by first | omega | decide) ⟨(((show (u2 (u2 Ia180 (1004) ((x6_180).toNatClampNeg) ((-1 : Int32))) (1005) ((x6_180).toNatClampNeg) (0)) (1001) 0 = Ia180 (1001) 0 from by simp [u2_v])).trans hT180.1), (((show (u2 (u2 Ia180 (1004) ((x6_180).toNatClampNeg) ((-1 : Int32))) (1005) ((x6_180).toNatClampNeg) (0)) (1001) 1 = Ia180 (1001) 1 from by simp [u2_v])).trans hT180.2.1), (((show (u2 (u2 Ia180 (1004) ((x6_180).toNatClampNeg) ((-1 : Int32))) (1005) ((x6_180).toNatClampNeg) (0)) (1001) 2 = Ia180 (1001) 2 from by simp [u2_v])).trans hT180.2.2.1), (((show (u2 (u2 Ia180 (1004) ((x6_180).toNatClampNeg) ((-1 : Int32))) (1005) ((x6_180).toNatClampNeg) (0)) (1001) 5 = Ia180 (1001) 5 from by simp [u2_v])).trans hT180.2.2.2.1), (((show (u2 (u2 Ia180 (1004) ((x6_180).toNatClampNeg) ((-1 : Int32))) (1005) ((x6_180).toNatClampNeg) (0)) (1001) 6 = Ia180 (1001) 6 from by simp [u2_v])).trans hT180.2.2.2.2.1), (((show (u2 (u2 Ia180 (1004) ((x6_180).toNatClampNeg) ((-1 : Int32))) (1005) ((x6_180).toNatClampNeg) (0)) (1001) 7 = Ia180 (1001) 7 from by simp [u2_v])).trans hT180.2.2.2.2.2.1), (((show (u2 (u2 Ia180 (1004) ((x6_180).toNatClampNeg) ((-1 : Int32))) (1005) ((x6_180).toNatClampNeg) (0)) (1001) 8 = Ia180 (1001) 8 from by simp [u2_v])).trans hT180.2.2.2.2.2.2.1), (((show (u2 (u2 Ia180 (1004) ((x6_180).toNatClampNeg) ((-1 : Int32))) (1005) ((x6_180).toNatClampNeg) (0)) (1001) 9 = Ia180 (1001) 9 from by simp [u2_v])).trans hT180.2.2.2.2.2.2.2)⟩ (fun j hj => by have := hA180 j hj; simp only [u2_v]; simpa using this) (by omega) hM hS (lv_sub hl [0, 1, 2, 3, 4, 5, 6] rfl)
                        exact loop180 (_ + 1) (0) Ia139 La139 _ _ ls hI hK (by first | omega | decide) ⟨(hT139.1), (hT139.2.1), (hT139.2.2.1), (hT139.2.2.2.1), (hT139.2.2.2.2.1), (hT139.2.2.2.2.2.1), (hT139.2.2.2.2.2.2.1), (hT139.2.2.2.2.2.2.2)⟩ (fun j hj => hA139 j (by have := tn (i := x6_139) (by omega); omega)) (Nat.lt_succ_self _) hM hS (lv_sub hl [0, 1, 2, 3, 4, 5, 6] rfl)
                      · have hc28 := c28
                        have q28 := q_nle hc28
                        refine lv_aload_n hx hb dX10_town_147 rfl (lv_at hl 1 rfl) ?_
                        refine m_getr (1000) 2 (1002) hx hb hts hown hE oc10 hM hJ.1 rfl (by decide) rfl (hJ.2 2 (by decide)).2 (by decide) tb_1179 dX10_town_148 ?_
                        refine lv_iload hx hb dX10_town_151 (lv_at hl 0 rfl) ?_
                        refine lv_iconst (v := (0)) hx hb dX10_town_153 (by decide) ?_
                        refine m_iast (1002) hx hb hE hM hS (hJ.2 2 (by decide)).1 rfl (vp_in_iff.mpr (by omega)) dX10_town_154 (fun H locs I33 eI33 hM hS => ?_)
                        subst eI33
                        have hI := hI.putF (n := 1002) (k := ((x6_139).toNatClampNeg)) (v := 0) rfl
                        have hK := hK.put (n := 1002) (k := ((x6_139).toNatClampNeg)) (v := 0) (by first | rfl | simp [inR])
                        refine lv_aload_n hx hb dX10_town_155 rfl (lv_at hl 1 rfl) ?_
                        refine m_getr (1000) 3 (1003) hx hb hts hown hE oc10 hM hJ.1 rfl (by decide) rfl (hJ.2 3 (by decide)).2 (by decide) tb_1180 dX10_town_156 ?_
                        refine lv_iload hx hb dX10_town_159 (lv_at hl 0 rfl) ?_
                        refine lv_iconst (v := (-1)) hx hb dX10_town_161 (by decide) ?_
                        refine m_iast (1003) hx hb hE hM hS (hJ.2 3 (by decide)).1 rfl (vp_in_iff.mpr (by omega)) dX10_town_162 (fun H locs I34 eI34 hM hS => ?_)
                        subst eI34
                        have hI := hI.putF (n := 1003) (k := ((x6_139).toNatClampNeg)) (v := (-1 : Int32)) rfl
                        have hK := hK.put (n := 1003) (k := ((x6_139).toNatClampNeg)) (v := (-1 : Int32)) (by first | rfl | simp [inR])
                        refine lv_aload_n hx hb dX10_town_163 rfl (lv_at hl 1 rfl) ?_
                        refine m_getr (1000) 6 (1006) hx hb hts hown hE oc10 hM hJ.1 rfl (by decide) rfl (hJ.2 6 (by decide)).2 (by decide) tb_1183 dX10_town_164 ?_
                        refine lv_iload hx hb dX10_town_167 (lv_at hl 0 rfl) ?_
                        refine lv_iconst (v := (-1)) hx hb dX10_town_169 (by decide) ?_
                        refine m_iast (1006) hx hb hE hM hS (hJ.2 6 (by decide)).1 rfl (vp_in_iff.mpr (by omega)) dX10_town_170 (fun H locs I35 eI35 hM hS => ?_)
                        subst eI35
                        have hI := hI.put (n := 1006) (k := ((x6_139).toNatClampNeg)) (v := (-1 : Int32)) (lo := -1) (hi := 23) rfl (by first | omega | decide)
                        have hK := hK.put (n := 1006) (k := ((x6_139).toNatClampNeg)) (v := (-1 : Int32)) (by first | rfl | simp [inR])
                        obtain ⟨v36, ev36⟩ : ∃ z : Int32, z = x6_139 + Int32.ofInt (1) := ⟨_, rfl⟩
                        have tv36 := a_inc ev36 (by decide) (by omega) (by omega)
                        refine lv_iinc (v := v36) (lv' := [(6, .int (v36)), (0, .ref (ad (1000))), (1, .int (a0)), (2, .int (a1)), (3, .int (a2)), (4, .int (a3)), (5, .int (a4))]) hx hb dX10_town_171 hl (k := 0) rfl ev36.symm (by decide) rfl (fun ls hl => ?_)
                        refine lv_goto (tgt := 139) hx hb dX10_town_174 (by decide) ?_
                        exact ih139 (v36) (u2 (u2 (u2 Ia139 (1002) ((x6_139).toNatClampNeg) (0)) (1003) ((x6_139).toNatClampNeg) ((-1 : Int32))) (1006) ((x6_139).toNatClampNeg) ((-1 : Int32))) La139 _ _ ls hI hK (by first | omega | decide) ⟨(((show (u2 (u2 (u2 Ia139 (1002) ((x6_139).toNatClampNeg) (0)) (1003) ((x6_139).toNatClampNeg) ((-1 : Int32))) (1006) ((x6_139).toNatClampNeg) ((-1 : Int32))) (1001) 0 = Ia139 (1001) 0 from by simp [u2_v])).trans hT139.1), (((show (u2 (u2 (u2 Ia139 (1002) ((x6_139).toNatClampNeg) (0)) (1003) ((x6_139).toNatClampNeg) ((-1 : Int32))) (1006) ((x6_139).toNatClampNeg) ((-1 : Int32))) (1001) 1 = Ia139 (1001) 1 from by simp [u2_v])).trans hT139.2.1), (((show (u2 (u2 (u2 Ia139 (1002) ((x6_139).toNatClampNeg) (0)) (1003) ((x6_139).toNatClampNeg) ((-1 : Int32))) (1006) ((x6_139).toNatClampNeg) ((-1 : Int32))) (1001) 2 = Ia139 (1001) 2 from by simp [u2_v])).trans hT139.2.2.1), (((show (u2 (u2 (u2 Ia139 (1002) ((x6_139).toNatClampNeg) (0)) (1003) ((x6_139).toNatClampNeg) ((-1 : Int32))) (1006) ((x6_139).toNatClampNeg) ((-1 : Int32))) (1001) 5 = Ia139 (1001) 5 from by simp [u2_v])).trans hT139.2.2.2.1), (((show (u2 (u2 (u2 Ia139 (1002) ((x6_139).toNatClampNeg) (0)) (1003) ((x6_139).toNatClampNeg) ((-1 : Int32))) (1006) ((x6_139).toNatClampNeg) ((-1 : Int32))) (1001) 6 = Ia139 (1001) 6 from by simp [u2_v])).trans hT139.2.2.2.2.1), (((show (u2 (u2 (u2 Ia139 (1002) ((x6_139).toNatClampNeg) (0)) (1003) ((x6_139).toNatClampNeg) ((-1 : Int32))) (1006) ((x6_139).toNatClampNeg) ((-1 : Int32))) (1001) 7 = Ia139 (1001) 7 from by simp [u2_v])).trans hT139.2.2.2.2.2.1), (((show (u2 (u2 (u2 Ia139 (1002) ((x6_139).toNatClampNeg) (0)) (1003) ((x6_139).toNatClampNeg) ((-1 : Int32))) (1006) ((x6_139).toNatClampNeg) ((-1 : Int32))) (1001) 8 = Ia139 (1001) 8 from by simp [u2_v])).trans hT139.2.2.2.2.2.2.1), (((show (u2 (u2 (u2 Ia139 (1002) ((x6_139).toNatClampNeg) (0)) (1003) ((x6_139).toNatClampNeg) ((-1 : Int32))) (1006) ((x6_139).toNatClampNeg) ((-1 : Int32))) (1001) 9 = Ia139 (1001) 9 from by simp [u2_v])).trans hT139.2.2.2.2.2.2.2)⟩ (af_step hA139 (by omega) (by omega)) (by omega) hM hS (lv_sub hl [0, 1, 2, 3, 4, 5, 6] rfl)
                  exact loop139 (_ + 1) (0) (u2 (u2 (u2 (u2 (u2 Ia73 (1001) 0 (1)) (1001) 1 (a0)) (1001) 2 (a1)) (1001) 3 (v25)) (1001) 4 (a4)) La73 _ _ ls hI hK (by first | omega | decide) ⟨((show (u2 (u2 (u2 (u2 (u2 Ia73 (1001) 0 (1)) (1001) 1 (a0)) (1001) 2 (a1)) (1001) 3 (v25)) (1001) 4 (a4)) (1001) 0 = 1 from by simp [u2_v])), ((show (u2 (u2 (u2 (u2 (u2 Ia73 (1001) 0 (1)) (1001) 1 (a0)) (1001) 2 (a1)) (1001) 3 (v25)) (1001) 4 (a4)) (1001) 1 = a0 from by simp [u2_v])), ((show (u2 (u2 (u2 (u2 (u2 Ia73 (1001) 0 (1)) (1001) 1 (a0)) (1001) 2 (a1)) (1001) 3 (v25)) (1001) 4 (a4)) (1001) 2 = a1 from by simp [u2_v])), (((show (u2 (u2 (u2 (u2 (u2 Ia73 (1001) 0 (1)) (1001) 1 (a0)) (1001) 2 (a1)) (1001) 3 (v25)) (1001) 4 (a4)) (1001) 5 = Ia73 (1001) 5 from by simp [u2_v])).trans (hz73 5 (by have := tn (i := x6_73) (by omega); omega))), (((show (u2 (u2 (u2 (u2 (u2 Ia73 (1001) 0 (1)) (1001) 1 (a0)) (1001) 2 (a1)) (1001) 3 (v25)) (1001) 4 (a4)) (1001) 6 = Ia73 (1001) 6 from by simp [u2_v])).trans (hz73 6 (by have := tn (i := x6_73) (by omega); omega))), (((show (u2 (u2 (u2 (u2 (u2 Ia73 (1001) 0 (1)) (1001) 1 (a0)) (1001) 2 (a1)) (1001) 3 (v25)) (1001) 4 (a4)) (1001) 7 = Ia73 (1001) 7 from by simp [u2_v])).trans (hz73 7 (by have := tn (i := x6_73) (by omega); omega))), (((show (u2 (u2 (u2 (u2 (u2 Ia73 (1001) 0 (1)) (1001) 1 (a0)) (1001) 2 (a1)) (1001) 3 (v25)) (1001) 4 (a4)) (1001) 8 = Ia73 (1001) 8 from by simp [u2_v])).trans (hz73 8 (by have := tn (i := x6_73) (by omega); omega))), (((show (u2 (u2 (u2 (u2 (u2 Ia73 (1001) 0 (1)) (1001) 1 (a0)) (1001) 2 (a1)) (1001) 3 (v25)) (1001) 4 (a4)) (1001) 9 = Ia73 (1001) 9 from by simp [u2_v])).trans (hz73 9 (by have := tn (i := x6_73) (by omega); omega)))⟩ (fun j hj => absurd hj (Nat.not_lt_zero j)) (Nat.lt_succ_self _) hM hS (lv_sub hl [0, 1, 2, 3, 4, 5, 6] rfl)
                · have hc20 := c20
                  have q20 := q_nle hc20
                  refine lv_aload_n hx hb dX10_town_80 rfl (lv_at hl 1 rfl) ?_
                  refine m_getr (1000) 1 (1001) hx hb hts hown hE oc10 hM hJ.1 rfl (by decide) rfl (hJ.2 1 (by decide)).2 (by decide) tb_1178 dX10_town_81 ?_
                  refine lv_iload hx hb dX10_town_84 (lv_at hl 0 rfl) ?_
                  refine lv_iconst (v := (0)) hx hb dX10_town_86 (by decide) ?_
                  refine m_iast (1001) hx hb hE hM hS (hJ.2 1 (by decide)).1 rfl (vp_in_iff.mpr (by omega)) dX10_town_87 (fun H locs I37 eI37 hM hS => ?_)
                  subst eI37
                  have hI := hI.putx (n := 1001) (k := ((x6_73).toNatClampNeg)) (v := 0) (rg_1001 _)
                  have hK := hK.put (n := 1001) (k := ((x6_73).toNatClampNeg)) (v := 0) (by first | rfl | simp [inR])
                  obtain ⟨v38, ev38⟩ : ∃ z : Int32, z = x6_73 + Int32.ofInt (1) := ⟨_, rfl⟩
                  have tv38 := a_inc ev38 (by decide) (by omega) (by omega)
                  refine lv_iinc (v := v38) (lv' := [(6, .int (v38)), (0, .ref (ad (1000))), (1, .int (a0)), (2, .int (a1)), (3, .int (a2)), (4, .int (a3)), (5, .int (a4))]) hx hb dX10_town_88 hl (k := 0) rfl ev38.symm (by decide) rfl (fun ls hl => ?_)
                  refine lv_goto (tgt := 73) hx hb dX10_town_91 (by decide) ?_
                  exact ih73 (v38) (u2 Ia73 (1001) ((x6_73).toNatClampNeg) (0)) La73 _ _ ls hI hK (by first | omega | decide) (zf_step hz73 (by omega) (by omega) _ rfl) (by omega) hM hS (lv_sub hl [0, 1, 2, 3, 4, 5, 6] rfl)
            exact loop73 (_ + 1) (0) I L _ _ ls hI hK (by first | omega | decide) (fun j hj => absurd hj (Nat.not_lt_zero j)) (Nat.lt_succ_self _) hM hS (lv_sub hl [0, 1, 2, 3, 4, 5, 6] rfl)
          · have hc19 := c19
            have q19 := xr18.f hc19
            refine lv_iconst (v := (0)) hx hb dX10_town_68 (by decide) ?_
            exact m_zret hx hb hr rfl hlocks hM hS (Nat.le_of_ble_eq_true rfl) (Nat.le_of_ble_eq_true rfl) ⟨_, _, rfl, hI, hK, (Or.inr ⟨by unfold okT; omega, rfl, rfl⟩)⟩ dX10_town_69
