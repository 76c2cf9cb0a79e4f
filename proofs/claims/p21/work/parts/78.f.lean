set_option maxHeartbeats 4000000 in
set_option maxRecDepth 20000 in
theorem V_X9_law_h (l : Launch) (D : va_G) (A : Nat → Prop) (ad : Nat → Nat) (ns : List Nat) (I : MI) (L : ML) (G : MG) (hI : INV I) (hC : CW ns I G) : Met l yX9_law (wd yX9_law cX9_law 2 (some .int)) ({ frames := 8, cells := 6, slots := 455, locals := 171 }) (va_Pc [.ref (ad (0))] (PM D A ad ns I L G)) (va_Qi (fun r u => ∃ ad2 ns2 I2 L2 G2, u = (ad2, ns2, I2, L2, G2) ∧ INV I2 ∧ CW ns2 I2 G2 ∧ Ext ns ad ns2 ad2 ∧ (Kp [(71, 73), (200, 300)] [(0, 14), (0, 15), (70, 2), (70, 3), (70, 4), (70, 5), (70, 6), (70, 7), (70, 8), (70, 9), (70, 10), (70, 11), (70, 12)] I I2 ∧ LAWC I I2 r ∧ ∀ k, G2 1 k = G 1 k) ∧ ∀ n, 1000 ≤ n → I2 n = I n ∧ G2 n = G n) (BM D A) A) 6 455 A := by
  refine m_ofW (by decide) (Nat.le_of_ble_eq_true rfl) ?_
  intro p e s m below meth c ls args hC hE hM hA hS hl
  obtain ⟨hx, hb, hml, hown, hts, hr, hlocks, hin⟩ := hC
  have km2 : (-2 : Int32).toInt = -2 := by decide
  have km1 : (-1 : Int32).toInt = -1 := by decide
  have k0 : (0 : Int32).toInt = 0 := by decide
  have k1 : (1 : Int32).toInt = 1 := by decide
  have k6 : (6 : Int32).toInt = 6 := by decide
  obtain ⟨hG, hCI, c0, hc, hcl⟩ := id hC
  have hG0 := hG
  obtain ⟨w, hw0⟩ : ∃ z : Nat, z = 200 + 10 * c0 := ⟨_, rfl⟩
  obtain ⟨v, hv⟩ : ∃ z : Nat, z = 200 + 10 * (c0 + 1) := ⟨_, rfl⟩
  have hW : LOK ns G w := by rw [hw0]; exact hcl.2.2.1 c0 (Nat.le_refl c0)
  have hd0 : G 0 13 = w := by rw [hw0]; exact hcl.2.1
  have hK : Kp [(71, 73), (200, 300)] [(0, 14), (0, 15), (70, 2), (70, 3), (70, 4), (70, 5), (70, 6), (70, 7), (70, 8), (70, 9), (70, 10), (70, 11), (70, 12)] I I := Kp.rf
  have hl : lv_has ls 2 [(0, .ref (ad (0)))] := hl
  refine lv_aload_n hx hb dX9_law_0 rfl (lv_at hl 0 rfl) ?_
  refine m_geti (0) 14 hx hb hts hown hE oc9 hM (hG.1 0 (by decide)) rfl (by decide) rfl tb_412 dX9_law_1 ?_
  have g1 := hI.get (0) 14 (lo := 0) (hi := 6) rfl
  refine lv_bipush (v := (6)) hx hb dX9_law_4 (by decide) ?_
  refine lv_icmp_lt (tgt := 11) hx hb dX9_law_6 (by decide) (fun c2 => ?_) (fun c2 => ?_)
  · have hc2 := c2
    have q2 := q_lt hc2
    refine lv_aload_n hx hb dX9_law_11 rfl (lv_at hl 0 rfl) ?_
    refine m_getr (0) 9 (70) hx hb hts hown hE oc9 hM (hG.1 0 (by decide)) rfl (by decide) rfl (hG.2 (0, 9, 70) (by decide)) (by decide) tb_407 dX9_law_12 ?_
    refine lv_aload_n hx hb dX9_law_15 rfl (lv_at hl 0 rfl) ?_
    refine m_getr (0) 11 (3) hx hb hts hown hE oc9 hM (hG.1 0 (by decide)) rfl (by decide) rfl (hG.2 (0, 11, 3) (by decide)) (by decide) tb_409 dX9_law_16 ?_
    refine lv_aload_n hx hb dX9_law_19 rfl (lv_at hl 0 rfl) ?_
    refine m_geti (0) 15 hx hb hts hown hE oc9 hM (hG.1 0 (by decide)) rfl (by decide) rfl tb_413 dX9_law_20 ?_
    have g3 := hI.get (0) 15 (lo := 0) (hi := 400) rfl
    refine lv_aload_n hx hb dX9_law_23 rfl (lv_at hl 0 rfl) ?_
    refine m_getr (0) 13 (w) hx hb hts hown hE oc9 hM (hG.1 0 (by decide)) rfl (by decide) rfl hd0 (by have := lbw hW.1; omega) tb_411 dX9_law_24 ?_
    refine m_calli (m_runV (70) (As := [.ref (ad (3)), .int (I (0) 15), .ref (ad (w))]) (rest := []) hx hb hml hown hts hE hM hS hA ce_X4_read tb_562 (V_X4_read_h l D A ad ns I L G (w) (I (0) 15) hG hI hW (by first | omega | decide)) rfl rfl ⟨Nat.le_of_ble_eq_true rfl, Nat.le_of_ble_eq_true rfl⟩ (hG.1 70 (by decide)) rfl rfl (by decide) rfl hl.1 rfl (Nat.le_of_ble_eq_true rfl) dX9_law_27 ⟨Nat.le_of_ble_eq_true rfl, Nat.le_of_ble_eq_true rfl⟩) hS (fun r4 u H locs hw hM hS => ?_)
    obtain ⟨I5, L6, rfl, hI, hkI5, xr4⟩ := hw
    obtain ⟨hor, xr4⟩ := xr4
    have hG : SGC ns (u2 G 70 13 w) := sgc_put hG rfl
    have hW : LOK ns (u2 G 70 13 w) w := lok_put hW (by decide)
    have hd0 : u2 G 70 13 w 0 13 = w := by rw [u2_v, if_neg (by decide)]; exact hd0
    have hM : Mem D A ad ns I5 L6 (u2 G 70 13 w) H := hM
    have hK := hK.trans hkI5 rfl
    refine lv_istore_n (lv' := [(1, .int (r4)), (0, .ref (ad (0)))]) hx hb dX9_law_30 rfl hl (by decide) rfl (fun ls hl => ?_)
    refine lv_aload_n hx hb dX9_law_31 rfl (lv_at hl 1 rfl) ?_
    refine lv_iconst (v := (0)) hx hb dX9_law_32 (by decide) ?_
    refine m_puti (0) 15 hx hb hts hown hE oc9 hM hS (hG.1 0 (by decide)) rfl (by decide) rfl rfl rfl rfl tb_413 dX9_law_33 (fun H locs I7 eI7 hM hS => ?_)
    subst eI7
    have hI := hI.put (n := 0) (k := 15) (v := 0) (lo := 0) (hi := 400) rfl (by first | omega | decide)
    have hK := hK.put (n := 0) (k := 15) (v := 0) (by first | rfl | simp [inR])
    refine lv_iload_n hx hb dX9_law_36 rfl (lv_at hl 0 rfl) ?_
    refine lv_if_eq (tgt := 45) hx hb dX9_law_37 (by decide) (fun c8 => ?_) (fun c8 => ?_)
    · have hc8 := c8
      have q8 := q_eq hc8
      refine lv_aload_n hx hb dX9_law_45 rfl (lv_at hl 1 rfl) ?_
      refine m_getr (0) 10 (2) hx hb hts hown hE oc9 hM (hG.1 0 (by decide)) rfl (by decide) rfl (hG.2 (0, 10, 2) (by decide)) (by decide) tb_408 dX9_law_46 ?_
      refine lv_aload_n hx hb dX9_law_49 rfl (lv_at hl 1 rfl) ?_
      refine m_geti (0) 14 hx hb hts hown hE oc9 hM (hG.1 0 (by decide)) rfl (by decide) rfl tb_412 dX9_law_50 ?_
      have g9 := hI.get (0) 14 (lo := 0) (hi := 6) rfl
      have z10 : (u2 I5 (0) 15 (0)) (0) 14 = I (0) 14 := ((show (u2 I5 (0) 15 (0)) (0) 14 = I5 (0) 14 from by simp [u2_v])).trans (hkI5.get (0) 14 rfl)
      rw [z10] at g9 ⊢
      refine lv_aload_n hx hb dX9_law_53 rfl (lv_at hl 1 rfl) ?_
      refine m_getr (0) 13 (w) hx hb hts hown hE oc9 hM (hG.1 0 (by decide)) rfl (by decide) rfl hd0 (by have := lbw hW.1; omega) tb_411 dX9_law_54 ?_
      refine m_aast (2) (w) hx hb hE hM hS (hG.1 2 (by decide)) rfl hW.l (by have := lbw hW.1; omega) (kW _ hW.1).1 (by decide) (vp_in_iff.mpr (by omega)) dX9_law_57 (fun H locs G11 eG11 hM hS => ?_)
      subst eG11
      have hG : SGC ns (u2 (u2 G 70 13 w) 2 (I (0) 14).toNatClampNeg (w)) := sgc_putn hG (by decide)
      refine lv_aload_n hx hb dX9_law_58 rfl (lv_at hl 1 rfl) ?_
      have hrz : r4 = 0 := c8
      have hc6 : c0 < 6 := by omega
      have hvB : v ∈ lB := by rw [hv]; exact lB_j (by omega)
      have fv : ∀ i, i < 6 → v + i ∉ ns := fun i hi => by rw [hv]; exact hcl.2.2.2.2 (c0 + 1) (by omega) (by omega) i hi
      have hcc : (I 0 14).toNatClampNeg = c0 := tn_n hc
      refine m_new (v) hx hb hts hown hE oc3 hM hS hA (fv 0 (by decide)) (by have := lbw hvB; omega) (kW _ hvB).1 df3 tb_362 tb_364 tb_10 (Nat.le_of_ble_eq_true rfl) (Nat.le_of_ble_eq_true rfl) dX9_law_59 (fun H ad1 had hM hS => ?_)
      rw [← had (0) (hG.1 0 (by decide))] at hl
      rw [← had (0) (hG.1 0 (by decide))]
      refine lv_dup hx hb dX9_law_62 rfl ?_
      refine m_callv (m_runIN (v) (As := []) (rest := [.ref (ad1 (v)), .ref (ad1 (0))]) hx hb hml hown hts hE hM hS hA ce_X3_init (List.mem_of_getElem? (i := 4) rfl) (C_X3_init l D A ad1 (ns ++ [v]) (u2 I5 (0) 15 (0)) L6 (u2 (u2 G 70 13 w) 2 (I (0) 14).toNatClampNeg (w)) (v) (List.mem_append_right _ (List.mem_singleton.mpr rfl)) hvB (nin1 (fv 1 (by decide)) (by omega)) (nin1 (fv 2 (by decide)) (by omega)) (nin1 (fv 3 (by decide)) (by omega)) (nin1 (fv 4 (by decide)) (by omega)) (nin1 (fv 5 (by decide)) (by omega))) rfl rfl ⟨Nat.le_of_ble_eq_true rfl, Nat.le_of_ble_eq_true rfl⟩  rfl hl.1 rfl (Nat.le_of_ble_eq_true rfl) dX9_law_63 ⟨Nat.le_of_ble_eq_true rfl, Nat.le_of_ble_eq_true rfl⟩) hS (fun u H locs hw hM hS => ?_)
      obtain ⟨ad2, rfl, had2⟩ := hw
      obtain ⟨nsv, ensv⟩ : ∃ z : List Nat, z = ((((((ns ++ [v]) ++ [v + 1]) ++ [v + 2]) ++ [v + 3]) ++ [v + 4]) ++ [v + 5]) := ⟨_, rfl⟩
      obtain ⟨Gv, eGv⟩ : ∃ z : MG, z = (u2 (u2 (u2 (u2 (u2 (u2 (u2 G 70 13 w) 2 (I (0) 14).toNatClampNeg (w)) (v) 0 (v + 1)) (v) 1 (v + 2)) (v) 2 (v + 3)) (v) 3 (v + 4)) (v) 4 (v + 5)) := ⟨_, rfl⟩
      have hM : Mem D A ad2 nsv (u2 I5 (0) 15 (0)) L6 Gv H := by rw [ensv, eGv]; exact hM
      have hnsv : ∀ x, x ∈ nsv ↔ x ∈ ns ∨ (v ≤ x ∧ x < v + 6) := by intro x; rw [ensv]; by_cases hx : x ∈ ns <;> simp only [List.mem_append, List.mem_singleton, hx, true_or, false_or, iff_self] <;> omega
      have hext : Ext ns ad nsv ad2 := fun x hx => ⟨(hnsv x).mpr (Or.inl hx), (had2 x (List.mem_append_left _ hx)).trans (had x hx)⟩
      rw [← had2 (0) (List.mem_append_left _ (hG.1 0 (by decide)))] at hl
      rw [← had2 (v) (List.mem_append_right _ (List.mem_singleton.mpr rfl))]
      rw [← had2 (0) (List.mem_append_left _ (hG.1 0 (by decide)))]
      refine m_putr (0) 13 (v) hx hb hts hown hE oc9 hM hS ((hnsv 0).mpr (Or.inl (hG0.1 0 (by decide)))) rfl (by decide) rfl (by have := lbw hvB; omega) ((hnsv (v)).mpr (Or.inr (by omega))) rfl rfl rfl tb_411 dX9_law_66 (fun H locs G13 eG13 hM hS => ?_)
      subst eG13
      refine lv_aload_n hx hb dX9_law_69 rfl (lv_at hl 1 rfl) ?_
      refine lv_dup hx hb dX9_law_70 rfl ?_
      refine m_geti (0) 14 hx hb hts hown hE oc9 hM ((hnsv 0).mpr (Or.inl (hG0.1 0 (by decide)))) rfl (by decide) rfl tb_412 dX9_law_71 ?_
      have z14 : (u2 I5 (0) 15 (0)) (0) 14 = I (0) 14 := ((show (u2 I5 (0) 15 (0)) (0) 14 = I5 (0) 14 from by simp [u2_v])).trans (hkI5.get (0) 14 rfl)
      rw [z14]
      refine lv_iconst (v := (1)) hx hb dX9_law_74 (by decide) ?_
      refine lv_iadd hx hb dX9_law_75 ?_
      refine lv_topi (fun v15 ev15 => ?_)
      have tv15 := a_add ev15 (by omega) (by omega)
      refine m_puti (0) 14 hx hb hts hown hE oc9 hM hS ((hnsv 0).mpr (Or.inl (hG0.1 0 (by decide)))) rfl (by decide) rfl rfl rfl rfl tb_412 dX9_law_76 (fun H locs I16 eI16 hM hS => ?_)
      subst eI16
      have hI := hI.put (n := 0) (k := 14) (v := v15) (lo := 0) (hi := 6) rfl (by first | omega | decide)
      have hK := hK.put (n := 0) (k := 14) (v := v15) (by first | rfl | simp [inR])
      refine lv_aload_n hx hb dX9_law_79 rfl (lv_at hl 1 rfl) ?_
      refine m_geti (0) 14 hx hb hts hown hE oc9 hM ((hnsv 0).mpr (Or.inl (hG0.1 0 (by decide)))) rfl (by decide) rfl tb_412 dX9_law_80 ?_
      have g17 := hI.get (0) 14 (lo := 0) (hi := 6) rfl
      have z18 : (u2 (u2 I5 (0) 15 (0)) (0) 14 (v15)) (0) 14 = v15 := (show (u2 (u2 I5 (0) 15 (0)) (0) 14 (v15)) (0) 14 = v15 from by simp [u2_v])
      rw [z18] at g17 ⊢
      refine lv_iconst (v := (1)) hx hb dX9_law_83 (by decide) ?_
      refine lv_isub hx hb dX9_law_84 ?_
      refine lv_topi (fun v19 ev19 => ?_)
      have tv19 := a_sub ev19 (by omega) (by omega)
      have hga : ∀ n k, ¬ (n = 70 ∧ k = 13) → ¬ (n = 2 ∧ k = c0) → ¬ (n = 0 ∧ k = 13) → n ≠ v → u2 Gv 0 13 v n k = G n k := fun n k h1 h2 h3 h4 => by rw [u2_v, if_neg h3, eGv, u2_ne _ _ _ h4, u2_ne _ _ _ h4, u2_ne _ _ _ h4, u2_ne _ _ _ h4, u2_ne _ _ _ h4, u2_v, if_neg (by rw [hcc]; exact h2), u2_v, if_neg h1]
      have h2v : 2 ≠ v := by omega
      have h0v : v ≠ 0 := by omega
      have hgb : u2 Gv 0 13 v 2 c0 = 200 + 10 * c0 := by rw [u2_v, if_neg (by omega), eGv, u2_ne _ _ _ h2v, u2_ne _ _ _ h2v, u2_ne _ _ _ h2v, u2_ne _ _ _ h2v, u2_ne _ _ _ h2v, u2_v, if_pos ⟨rfl, hcc.symm⟩, hw0]
      have hgc : ∀ k, k < 5 → u2 Gv 0 13 v v k = v + 1 + k := by
        intro k hk
        rw [u2_ne _ _ _ h0v, eGv]
        rcases (show k = 0 ∨ k = 1 ∨ k = 2 ∨ k = 3 ∨ k = 4 by omega) with rfl | rfl | rfl | rfl | rfl <;> simp [u2_v] <;> omega
      have hlb := lbw hW.1
      have hw9 : 200 + 10 * (I 0 14).toNatClampNeg = w := by rw [hw0, tn_n hc]
      have hoz : OTH (200 + 10 * (I 0 14).toNatClampNeg) I (u2 (u2 I5 (0) 15 (0)) (0) 14 (v15)) := by rw [hw9]; exact fun n a b c => (show (u2 (u2 I5 (0) 15 (0)) (0) 14 (v15)) n = I5 n from by rw [u2_ne _ _ _ (by omega), u2_ne _ _ _ (by omega)]).trans (hor n a b c)
      have hlz : LQ w I5 (u2 (u2 I5 (0) 15 (0)) (0) 14 (v15)) := LQ.of (fun n h1 h2 => by rw [u2_ne _ _ _ (by omega), u2_ne _ _ _ (by omega)])
      exact m_iret hx hb hr hlocks hM hS (Nat.le_of_ble_eq_true rfl) (Nat.le_of_ble_eq_true rfl) ⟨_, _, _, _, _, rfl, hI, cw_law (I := I) hv hc6 hG0 hCI hcl (by rw [u2_self]; omega) hga (u2_self _ _ _ _) hgb hgc hnsv, hext, ⟨hK, Or.inr ⟨by omega, by rw [show _ = (0 : Int32) from (show (u2 (u2 I5 (0) 15 (0)) (0) 14 (v15)) (0) 15 = 0 from by simp [u2_v])]; exact k0, hoz, by rcases xr4 with ⟨h1, h2⟩ | ⟨h1, h2⟩; exact absurd (congrArg Int32.toInt hrz) (by omega); exact ⟨_, _, _, rfl, h2, Or.inr ⟨rfl, by omega, by rw [u2_self]; omega, by rw [hw9]; exact hlz⟩⟩⟩, fun k => hga 1 k (by omega) (by omega) (by omega) (by omega)⟩, fun n hn => ⟨hK.out rfl n hn, funext fun k => hga n k (by omega) (by omega) (by omega) (by omega)⟩⟩ dX9_law_85
    · have hc8 := c8
      have q8 := q_ne hc8
      refine lv_bipush (v := (-2)) hx hb dX9_law_40 (by decide) ?_
      refine lv_iload_n hx hb dX9_law_42 rfl (lv_at hl 0 rfl) ?_
      refine lv_isub hx hb dX9_law_43 ?_
      refine lv_topi (fun v20 ev20 => ?_)
      have hlb := lbw hW.1
      have hw9 : 200 + 10 * (I 0 14).toNatClampNeg = w := by rw [hw0, tn_n hc]
      have hoz : OTH (200 + 10 * (I 0 14).toNatClampNeg) I (u2 I5 (0) 15 (0)) := by rw [hw9]; exact fun n a b c => (show (u2 I5 (0) 15 (0)) n = I5 n from by rw [u2_ne _ _ _ (by omega)]).trans (hor n a b c)
      have hlz : LQ w I5 (u2 I5 (0) 15 (0)) := LQ.of (fun n h1 h2 => by rw [u2_ne _ _ _ (by omega)])
      exact m_iret hx hb hr hlocks hM hS (Nat.le_of_ble_eq_true rfl) (Nat.le_of_ble_eq_true rfl) ⟨_, _, _, _, _, rfl, hI, cw_70 hC (((show (u2 I5 (0) 15 (0)) (0) 14 = I5 (0) 14 from by simp [u2_v])).trans (hkI5.get (0) 14 rfl)), Ext.rf, ⟨hK, Or.inr ⟨by omega, by rw [show _ = (0 : Int32) from (show (u2 I5 (0) 15 (0)) (0) 15 = 0 from by simp [u2_v])]; exact k0, hoz, by rcases xr4 with ⟨h1, h2⟩ | ⟨h1, h2⟩; exact ⟨_, _, _, rfl, h2, Or.inl ⟨h1, ⟨r4, ev20, rfl⟩, congrArg Int32.toInt (((show (u2 I5 (0) 15 (0)) (0) 14 = I5 (0) 14 from by simp [u2_v])).trans (hkI5.get (0) 14 rfl))⟩⟩; exact absurd h1 (by omega)⟩, fun k => by rw [u2_ne _ _ _ (by decide)]⟩, fun n hn => ⟨hK.out rfl n hn, u2_ne _ _ _ (by omega)⟩⟩ dX9_law_44
  · have hc2 := c2
    have q2 := q_nlt hc2
    refine lv_iconst (v := (-1)) hx hb dX9_law_9 (by decide) ?_
    exact m_iret hx hb hr hlocks hM hS (Nat.le_of_ble_eq_true rfl) (Nat.le_of_ble_eq_true rfl) ⟨_, _, _, _, _, rfl, hI, hC, Ext.rf, ⟨Kp.rf, Or.inl ⟨by omega, km1, rfl⟩, fun _ => rfl⟩, fun n _ => ⟨rfl, rfl⟩⟩ dX9_law_10
