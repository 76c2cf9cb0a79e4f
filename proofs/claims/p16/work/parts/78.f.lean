set_option maxHeartbeats 4000000 in
set_option maxRecDepth 20000 in
theorem V_X9_law_h (l : Launch) (D : va_G) (A : Nat → Prop) (ad : Nat → Nat) (ns : List Nat) (I : MI) (L : ML) (G : MG) (hI : INV I) (hC : CW ns I G) : Met l yX9_law (wd yX9_law cX9_law 2 (some .int)) ({ frames := 8, cells := 6, slots := 455, locals := 171 }) (va_Pc [.ref (ad (0))] (PM D A ad ns I L G)) (va_Qi (fun r u => ∃ ad2 ns2 I2 L2 G2, u = (ad2, ns2, I2, L2, G2) ∧ INV I2 ∧ CW ns2 I2 G2 ∧ Ext ns ad ns2 ad2 ∧ (Kp [(71, 73), (200, 300)] [(0, 14), (0, 15), (70, 2), (70, 3), (70, 4), (70, 5), (70, 6), (70, 7), (70, 8), (70, 9), (70, 10), (70, 11), (70, 12)] I I2 ∧ LAWC I I2 r ∧ ∀ k, G2 1 k = G 1 k) ∧ ∀ n, 1000 ≤ n → I2 n = I n ∧ G2 n = G n) (BM D A) A) 6 455 A := by
  refine m_ofW (by decide) (Nat.le_of_ble_eq_true rfl) ?_
  intro p e s m below meth c ls args hC hE hM hA hS hl
  obtain ⟨hx, hb, hml, hown, hts, hr, hlocks, hin⟩ := hC
  have km2 : (-2 : Int32).toInt = -2 := by decide
  have km1 : (-1 : Int32).toInt = -1 := by decide
  have k0 : (0 : Int32).toInt = 0 := by decide
  have k1 : (1 : Int32).toInt = 1 := by decide
  have k6 : (6 : Int32).toInt = 6 := by decide
  obtain ⟨hG, hCI, c0, hc, hcl⟩ := id hC
  have hG0 := hG
  obtain ⟨w, hw0⟩ : ∃ z : Nat, z = 200 + 10 * c0 := ⟨_, rfl⟩
  obtain ⟨v, hv⟩ : ∃ z : Nat, z = 200 + 10 * (c0 + 1) := ⟨_, rfl⟩
  have hW : LOK ns G w := by rw [hw0]; exact hcl.2.2.1 c0 (Nat.le_refl c0)
  have hd0 : G 0 13 = w := by rw [hw0]; exact hcl.2.1
  have hK : Kp [(71, 73), (200, 300)] [(0, 14), (0, 15), (70, 2), (70, 3), (70, 4), (70, 5), (70, 6), (70, 7), (70, 8), (70, 9), (70, 10), (70, 11), (70, 12)] I I := Kp.rf
  have hl : lv_has ls 2 [(0, .ref (ad (0)))] := hl
  refine lv_aload_n hx hb dX9_law_0 rfl (lv_at hl 0 rfl) ?_
  refine m_geti (0) 14 hx hb hts hown hE oc9 hM (hG.1 0 (by decide)) rfl (by decide) rfl tb_412 dX9_law_1 ?_
  have g1 := hI.get (0) 14 (lo := 0) (hi := 6) rfl
  refine lv_bipush (v := (6)) hx hb dX9_law_4 (by decide) ?_
  refine lv_icmp_lt (tgt := 11) hx hb dX9_law_6 (by decide) (fun c2 => ?_) (fun c2 => ?_)
  · have hc2 := c2
    have q2 := q_lt hc2
    refine lv_aload_n hx hb dX9_law_11 rfl (lv_at hl 0 rfl) ?_
    refine m_getr (0) 9 (70) hx hb hts hown hE oc9 hM (hG.1 0 (by decide)) rfl (by decide) rfl (hG.2 (0, 9, 70) (by decide)) (by decide) tb_407 dX9_law_12 ?_
    refine lv_aload_n hx hb dX9_law_15 rfl (lv_at hl 0 rfl) ?_
    refine m_getr (0) 11 (3) hx hb hts hown hE oc9 hM (hG.1 0 (by decide)) rfl (by decide) rfl (hG.2 (0, 11, 3) (by decide)) (by decide) tb_409 dX9_law_16 ?_
    refine lv_aload_n hx hb dX9_law_19 rfl (lv_at hl 0 rfl) ?_
    refine m_geti (0) 15 hx hb hts hown hE oc9 hM (hG.1 0 (by decide)) rfl (by decide) rfl tb_413 dX9_law_20 ?_
    have g3 := hI.get (0) 15 (lo := 0) (hi := 400) rfl
    refine lv_aload_n hx hb dX9_law_23 rfl (lv_at hl 0 rfl) ?_
    refine m_getr (0) 13 (w) hx hb hts hown hE oc9 hM (hG.1 0 (by decide)) rfl (by decide) rfl hd0 (by have := lbw hW.1; omega) tb_411 dX9_law_24 ?_
    refine m_calli (m_runV (70) (As := [.ref (ad (3)), .int (I (0) 15), .ref (ad (w))]) (rest := []) hx hb hml hown hts hE hM hS hA ce_X4_read tb_562 (V_X4_read_h l D A ad ns I L G (w) (I (0) 15) hG hI hW (by first | omega | decide)) rfl rfl ⟨Nat.le_of_ble_eq_true rfl, Nat.le_of_ble_eq_true rfl⟩ (hG.1 70 (by decide)) rfl rfl (by decide) rfl hl.1 rfl (Nat.le_of_ble_eq_true rfl) dX9_law_27 ⟨Nat.le_of_ble_eq_true rfl, Nat.le_of_ble_eq_true rfl⟩) hS (fun r4 u H locs hw hM hS => ?_)
    obtain ⟨I5, L6, rfl, hI, hkI5, xr4⟩ := hw
    obtain ⟨hor, xr4⟩ := xr4
    have hG : SGC ns (u2 G 70 13 w) := sgc_put hG rfl
    have hW : LOK ns (u2 G 70 13 w) w := lok_put hW (by decide)
    have hd0 : u2 G 70 13 w 0 13 = w := by rw [u2_v, if_neg (by decide)]; exact hd0
    have hM : Mem D A ad ns I5 L6 (u2 G 70 13 w) H := hM
    have hK := hK.trans hkI5 rfl
    refine lv_istore_n (lv' := [(1, .int (r4)), (0, .ref (ad (0)))]) hx hb dX9_law_30 rfl hl (by decide) rfl (fun ls hl => ?_)
    refine lv_aload_n hx hb dX9_law_31 rfl (lv_at hl 1 rfl) ?_
    refine lv_iconst (v := (0)) hx hb dX9_law_32 (by decide) ?_
    refine m_puti (0) 15 hx hb hts hown hE oc9 hM hS (hG.1 0 (by decide)) rfl (by decide) rfl rfl rfl rfl tb_413 dX9_law_33 (fun H locs I7 eI7 hM hS => ?_)
    subst eI7
    have hI := hI.put (n := 0) (k := 15) (v := 0) (lo := 0) (hi := 400) rfl (by first | omega | decide)
    have hK := hK.put (n := 0) (k := 15) (v := 0) (by first | rfl | simp [inR])
    refine lv_iload_n hx hb dX9_law_36 rfl (lv_at hl 0 rfl) ?_
    refine lv_if_eq (tgt := 45) hx hb dX9_law_37 (by decide) (fun c8 => ?_) (fun c8 => ?_)
    · have hc8 := c8
      have q8 := q_eq hc8
      refine lv_aload_n hx hb dX9_law_45 rfl (lv_at hl 1 rfl) ?_
      refine m_getr (0) 10 (2) hx hb hts hown hE oc9 hM (hG.1 0 (by decide)) rfl (by decide) rfl (hG.2 (0, 10, 2) (by decide)) (by decide) tb_408 dX9_law_46 ?_
      refine lv_aload_n hx hb dX9_law_49 rfl (lv_at hl 1 rfl) ?_
      refine m_geti (0) 14 hx hb hts hown hE oc9 hM (hG.1 0 (by decide)) rfl (by decide) rfl tb_412 dX9_law_50 ?_
      have g9 := hI.get (0) 14 (lo := 0) (hi := 6) rfl
      have z10 : (u2 I5 (0) 15 (0)) (0) 14 = I (0) 14 := ((show (u2 I5 (0) 15 (0)) (0) 14 = I5 (0) 14 from by simp [u2_v])).trans (hkI5.get (0) 14 rfl)
      rw [z10] at g9 ⊢
      refine lv_aload_n hx hb dX9_law_53 rfl (lv_at hl 1 rfl) ?_
      refine m_getr (0) 13 (w) hx hb hts hown hE oc9 hM (hG.1 0 (by decide)) rfl (by decide) rfl hd0 (by have := lbw hW.1; omega) tb_411 dX9_law_54 ?_
      refine m_aast (2) (w) hx hb hE hM hS (hG.1 2 (by decide)) rfl hW.l (by have := lbw hW.1; omega) (kW _ hW.1).1 (by decide) (vp_in_iff.mpr (by omega)) dX9_law_57 (fun H locs G11 eG11 hM hS => ?_)
      subst eG11
      have hG : SGC ns (u2 (u2 G 70 13 w) 2 (I (0) 14).toNatClampNeg (w)) := sgc_putn hG (by decide)
      refine lv_aload_n hx hb dX9_law_58 rfl (lv_at hl 1 rfl) ?_
      have hrz : r4 = 0 := c8
      have hc6 : c0 < 6 := by omega
      have hvB : v ∈ lB := by rw [hv]; exact lB_j (by omega)
      have fv : ∀ i, i < 6 → v + i ∉ ns := fun i hi => by rw [hv]; exact hcl.2.2.2.2 (c0 + 1) (by omega) (by omega) i hi
      have hcc : (I 0 14).toNatClampNeg = c0 := tn_n hc
      refine m_new (v) hx hb hts hown hE oc3 hM hS hA (fv 0 (by decide)) (by have := lbw hvB; omega) (kW _ hvB).1 df3 tb_362 tb_364 tb_10 (Nat.le_of_ble_eq_true rfl) (Nat.le_of_ble_eq_true rfl) dX9_law_59 (fun H ad1 had hM hS => ?_)
      rw [← had (0) (hG.1 0 (by decide))] at hl
      rw [← had (0) (hG.1 0 (by decide))]
      refine lv_dup hx hb dX9_law_62 rfl ?_
      refine m_callv (m_runIN (v) (As := []) (rest := [.ref (ad1 (v)), .ref (ad1 (0))]) hx hb hml hown hts hE hM hS hA ce_X3_init (List.mem_of_getElem? (i := 4) rfl) (C_X3_init l D A ad1 (ns ++ [v]) (u2 I5 (0) 15 (0)) L6 (u2 (u2 G 70 13 w) 2 (I (0) 14).toNatClampNeg (w)) (v) (List.mem_append_right _ (List.mem_singleton.mpr rfl)) hvB (nin1 (fv 1 (by decide)) (by omega)) (nin1 (fv 2 (by decide)) (by omega)) (nin1 (fv 3 (by decide)) (by omega)) (nin1 (fv 4 (by decide)) (by omega)) (nin1 (fv 5 (by decide)) (by omega))) rfl rfl ⟨Nat.le_of_ble_eq_true rfl, Nat.le_of_ble_eq_true rfl⟩  rfl hl.1 rfl (Nat.le_of_ble_eq_true rfl) dX9_law_63 ⟨Nat.le_of_ble_eq_true rfl, Nat.le_of_ble_eq_true rfl⟩) hS (fun u H locs hw hM hS => ?_)
      obtain ⟨ad2, rfl, had2⟩ := hw
      obtain ⟨nsv, ensv⟩ : ∃ z : List Nat, z = ((((((ns ++ [v]) ++ [v + 1]) ++ [v + 2]) ++ [v + 3]) ++ [v + 4]) ++ [v + 5]) := ⟨_, rfl⟩
      obtain ⟨Gv, eGv⟩ : ∃ z : MG, z = (u2 (u2 (u2 (u2 (u2 (u2 (u2 G 70 13 w) 2 (I (0) 14).toNatClampNeg (w)) (v) 0 (v + 1)) (v) 1 (v + 2)) (v) 2 (v + 3)) (v) 3 (v + 4)) (v) 4 (v + 5)) := ⟨_, rfl⟩
      have hM : Mem D A ad2 nsv (u2 I5 (0) 15 (0)) L6 Gv H := by rw [ensv, eGv]; exact hM
      have hnsv : ∀ x, x ∈ nsv ↔ x ∈ ns ∨ (v ≤ x ∧ x < v + 6) := by intro x; rw [ensv]; by_cases hx : x ∈ ns <;> simp only [List.mem_append, List.mem_singleton, hx, true_or, false_or, iff_self] <;> omega
      have hext : Ext ns ad nsv ad2 := fun x hx => ⟨(hnsv x).mpr (Or.inl hx), (had2 x (List.mem_append_left _ hx)).trans (had x hx)⟩
      rw [← had2 (0) (List.mem_append_left _ (hG.1 0 (by decide)))] at hl
      rw [← had2 (v) (List.mem_append_right _ (List.mem_singleton.mpr rfl))]
      rw [← had2 (0) (List.mem_append_left _ (hG.1 0 (by decide)))]
      refine m_putr (0) 13 (v) hx hb hts hown hE oc9 hM hS ((hnsv 0).mpr (Or.inl (hG0.1 0 (by decide)))) rfl (by decide) rfl (by have := lbw hvB; omega) ((hnsv (v)).mpr (Or.inr (by omega))) rfl rfl rfl tb_411 dX9_law_66 (fun H locs G13 eG13 hM hS => ?_)
      subst eG13
      refine lv_aload_n hx hb dX9_law_69 rfl (lv_at hl 1 rfl) ?_
      refine lv_dup hx hb dX9_law_70 rfl ?_
      refine m_geti (0) 14 hx hb hts hown hE oc9 hM ((hnsv 0).mpr (Or.inl (hG0.1 0 (by decide)))) rfl (by decide) rfl tb_412 dX9_law_71 ?_
      have z14 : (u2 I5 (0) 15 (0)) (0) 14 = I (0) 14 := ((show (u2 I5 (0) 15 (0)) (0) 14 = I5 (0) 14 from by simp [u2_v])).trans (hkI5.get (0) 14 rfl)
      rw [z14]
      refine lv_iconst (v := (1)) hx hb dX9_law_74 (by decide) ?_
      refine lv_iadd hx hb dX9_law_75 ?_
      refine lv_topi (fun v15 ev15 => ?_)
      have tv15 := a_add ev15 (by omega) (by omega)
      refine m_puti (0) 14 hx hb hts hown hE oc9 hM hS ((hnsv 0).mpr (Or.inl (hG0.1 0 (by decide)))) rfl (by decide) rfl rfl rfl rfl tb_412 dX9_law_76 (fun H locs I16 eI16 hM hS => ?_)
      subst eI16
      have hI := hI.put (n := 0) (k := 14) (v := v15) (lo := 0) (hi := 6) rfl (by first | omega | decide)
      have hK := hK.put (n := 0) (k := 14) (v := v15) (by first | rfl | simp [inR])
      refine lv_aload_n hx hb dX9_law_79 rfl (lv_at hl 1 rfl) ?_
      refine m_geti (0) 14 hx hb hts hown hE oc9 hM ((hnsv 0).mpr (Or.inl (hG0.1 0 (by decide)))) rfl (by decide) rfl tb_412 dX9_law_80 ?_
      have g17 := hI.get (0) 14 (lo := 0) (hi := 6) rfl
      have z18 : (u2 (u2 I5 (0) 15 (0)) (0) 14 (v15)) (0) 14 = v15 := (show (u2 (u2 I5 (0) 15 (0)) (0) 14 (v15)) (0) 14 = v15 from by simp [u2_v])
      rw [z18] at g17 ⊢
      refine lv_iconst (v := (1)) hx hb dX9_law_83 (by decide) ?_
      refine lv_isub hx hb dX9_law_84 ?_
      refine lv_topi (fun v19 ev19 => ?_)
      have tv19 := a_sub ev19 (by omega) (by omega)
      have hga : ∀ n k, ¬ (n = 70 ∧ k = 13) → ¬ (n = 2 ∧ k = c0) → ¬ (n = 0 ∧ k = 13) → n ≠ v → u2 Gv 0 13 v n k = G n k := fun n k h1 h2 h3 h4 => by rw [u2_v, if_neg h3, eGv, u2_ne _ _ _ h4, u2_ne _ _ _ h4, u2_ne _ _ _ h4, u2_ne _ _ _ h4, u2_ne _ _ _ h4, u2_v, if_neg (by rw [hcc]; exact h2), u2_v, if_neg h1]
      have h2v : 2 ≠ v := by omega
      have h0v : v ≠ 0 := by omega
      have hgb : u2 Gv 0 13 v 2 c0 = 200 + 10 * c0 := by rw [u2_v, if_neg (by omega), eGv, u2_ne _ _ _ h2v, u2_ne _ _ _ h2v, u2_ne _ _ _ h2v, u2_ne _ _ _ h2v, u2_ne _ _ _ h2v, u2_v, if_pos ⟨rfl, hcc.symm⟩, hw0]
      have hgc : ∀ k, k < 5 → u2 Gv 0 13 v v k = v + 1 + k := by
        intro k hk
        rw [u2_ne _ _ _ h0v, eGv]
        rcases (show k = 0 ∨ k = 1 ∨ k = 2 ∨ k = 3 ∨ k = 4 by omega) with rfl | rfl | rfl | rfl | rfl <;> simp [u2_v] <;> omega
      have hlb := lbw hW.1
      have hw9 : 200 + 10 * (I 0 14).toNatClampNeg = w := by rw [hw0, tn_n hc]
      have hoz : OTH (200 + 10 * (I 0 14).toNatClampNeg) I (u2 (u2 I5 (0) 15 (0)) (0) 14 (v15)) := by rw [hw9]; exact fun n a b c => (show (u2 (u2 I5 (0) 15 (0)) (0) 14 (v15)) n = I5 n from by rw [u2_ne _ _ _ (by omega), u2_ne _ _ _ (by omega)]).trans (hor n a b c)
      have hlz : LQ w I5 (u2 (u2 I5 (0) 15 (0)) (0) 14 (v15)) := LQ.of (fun n h1 h2 => by rw [u2_ne _ _ _ (by omega), u2_ne _ _ _ (by omega)])
      exact m_iret hx hb hr hlocks hM hS (Nat.le_of_ble_eq_true rfl) (Nat.le_of_ble_eq_true rfl) ⟨_, _, _, _, _, rfl, hI, cw_law (I := I) hv hc6 hG0 hCI hcl (by rw [u2_self]; omega) hga (u2_self _ _ _ _) hgb hgc hnsv, hext, ⟨hK, Or.inr ⟨by omega, by rw [show _ = (0 : Int32) from (show (u2 (u2 I5 (0) 15 (0)) (0) 14 (v15)) (0) 15 = 0 from by simp [u2_v])]; exact k0, hoz, by rcases xr4 with ⟨h1, h2⟩ | ⟨h1, h2⟩; exact absurd (congrArg Int32.toInt hrz) (by omega); exact ⟨_, _, _, rfl, h2, Or.inr ⟨rfl, by omega, by rw [u2_self]; omega, by rw [hw9]; exact hlz⟩⟩⟩, fun k => hga 1 k (by omega) (by omega) (by omega) (by omega)⟩, fun n hn => ⟨hK.out rfl n hn, funext fun k => hga n k (by omega) (by omega) (by omega) (by omega)⟩⟩ dX9_law_85
    · have hc8 := c8
      have q8 := q_ne hc8
      refine lv_bipush (v := (-2)) hx hb dX9_law_40 (by decide) ?_
      refine lv_iload_n hx hb dX9_law_42 rfl (lv_at hl 0 rfl) ?_
      refine lv_isub hx hb dX9_law_43 ?_
      refine lv_topi (fun v20 ev20 => ?_)
      have hlb := lbw hW.1
      have hw9 : 200 + 10 * (I 0 14).toNatClampNeg = w := by rw [hw0, tn_n hc]
      have hoz : OTH (200 + 10 * (I 0 14).toNatClampNeg) I (u2 I5 (0) 15 (0)) := by rw [hw9]; exact fun n a b c => (show (u2 I5 (0) 15 (0)) n = I5 n from by rw [u2_ne _ _ _ (by omega)]).trans (hor n a b c)
      have hlz : LQ w I5 (u2 I5 (0) 15 (0)) := LQ.of (fun n h1 h2 => by rw [u2_ne _ _ _ (by omega)])
      exact m_iret hx hb hr hlocks hM hS (Nat.le_of_ble_eq_true rfl) (Nat.le_of_ble_eq_true rfl) ⟨_, _, _, _, _, rfl, hI, cw_70 hC (((show (u2 I5 (0) 15 (0)) (0) 14 = I5 (0) 14 from by simp [u2_v])).trans (hkI5.get (0) 14 rfl)), Ext.rf, ⟨hK, Or.inr ⟨by omega, by rw [show _ = (0 : Int32) from (show (u2 I5 (0) 15 (0)) (0) 15 = 0 from by simp [u2_v])]; exact k0, hoz, by rcases xr4 with ⟨h1, h2⟩ | ⟨h1, h2⟩; exact ⟨_, _, _, rfl, h2, Or.inl ⟨h1, ⟨r4, ev20, rfl⟩, congrArg Int32.toInt (((show (u2 I5 (0) 15 (0)) (0) 14 = I5 (0) 14 from by simp [u2_v])).trans (hkI5.get (0) 14 rfl))⟩⟩; exact absurd h1 (by omega)⟩, fun k => by rw [u2_ne _ _ _ (by decide)]⟩, fun n hn => ⟨hK.out rfl n hn, u2_ne _ _ _ (by omega)⟩⟩ dX9_law_44
  · have hc2 := c2
    have q2 := q_nlt hc2
    refine lv_iconst (v := (-1)) hx hb dX9_law_9 (by decide) ?_
    exact m_iret hx hb hr hlocks hM hS (Nat.le_of_ble_eq_true rfl) (Nat.le_of_ble_eq_true rfl) ⟨_, _, _, _, _, rfl, hI, hC, Ext.rf, ⟨Kp.rf, Or.inl ⟨by omega, km1, rfl⟩, fun _ => rfl⟩, fun n _ => ⟨rfl, rfl⟩⟩ dX9_law_10
set_option maxHeartbeats 4000000 in
set_option maxRecDepth 20000 in
theorem V_X9_image_h (l : Launch) (D : va_G) (A : Nat → Prop) (ad : Nat → Nat) (ns : List Nat) (I : MI) (L : ML) (G : MG) (a0 : Int32) (hI : INV I) (hC : CW ns I G) : Met l yX9_image (wd yX9_image cX9_image 3 (some .int)) ({ frames := 2, cells := 9, slots := 3194, locals := 61 }) (va_Pc [.ref (ad (0)), .int a0] (PM D A ad ns I L G)) (va_Qi (fun r u => ∃ ad2 ns2 I2 L2 G2, u = (ad2, ns2, I2, L2, G2) ∧ INV I2 ∧ CW ns2 I2 G2 ∧ Ext ns ad ns2 ad2 ∧ Kp [(121, 129), (131, 139), (141, 149), (151, 159)] [(120, 0), (120, 1), (120, 2), (120, 3), (120, 4), (120, 5), (120, 6), (120, 7), (120, 8), (120, 9), (130, 0), (130, 1), (130, 2), (130, 3), (130, 4), (130, 5), (130, 6), (130, 7), (130, 8), (130, 9), (140, 0), (140, 1), (140, 2), (140, 3), (140, 4), (140, 5), (140, 6), (140, 7), (140, 8), (140, 9), (150, 0), (150, 1), (150, 2), (150, 3), (150, 4), (150, 5), (150, 6), (150, 7), (150, 8), (150, 9)] I I2 ∧ ∀ n, 1000 ≤ n → I2 n = I n ∧ G2 n = G n) (BM D A) A) 9 3194 A := by
  refine m_ofW (by decide) (Nat.le_of_ble_eq_true rfl) ?_
  intro p e s m below meth c ls args hC hE hM hA hS hl
  obtain ⟨hx, hb, hml, hown, hts, hr, hlocks, hin⟩ := hC
  have km1 : (-1 : Int32).toInt = -1 := by decide
  have k0 : (0 : Int32).toInt = 0 := by decide
  have k3 : (3 : Int32).toInt = 3 := by decide
  obtain ⟨hG, hCI, c0, hc, hcl⟩ := id hC
  have hG0 := hG
  have hK : Kp [(121, 129), (131, 139), (141, 149), (151, 159)] [(120, 0), (120, 1), (120, 2), (120, 3), (120, 4), (120, 5), (120, 6), (120, 7), (120, 8), (120, 9), (130, 0), (130, 1), (130, 2), (130, 3), (130, 4), (130, 5), (130, 6), (130, 7), (130, 8), (130, 9), (140, 0), (140, 1), (140, 2), (140, 3), (140, 4), (140, 5), (140, 6), (140, 7), (140, 8), (140, 9), (150, 0), (150, 1), (150, 2), (150, 3), (150, 4), (150, 5), (150, 6), (150, 7), (150, 8), (150, 9)] I I := Kp.rf
  have hl : lv_has ls 3 [(0, .ref (ad (0))), (1, .int (a0))] := hl
  refine lv_iload_n hx hb dX9_image_0 rfl (lv_at hl 1 rfl) ?_
  refine lv_iconst (v := (0)) hx hb dX9_image_1 (by decide) ?_
  refine lv_iconst (v := (3)) hx hb dX9_image_2 (by decide) ?_
  refine m_calli (m_runS (As := [.int (a0), .int (0), .int (3)]) (rest := []) hx hb hml hown hts hE hM hS hA ce_X9_isWithin tb_451 (V_X9_isWithin l D A ad ns I L G (a0) (0) (3) hI) rfl rfl ⟨Nat.le_of_ble_eq_true rfl, Nat.le_of_ble_eq_true rfl⟩  rfl hl.1 rfl (Nat.le_of_ble_eq_true rfl) dX9_image_3 ⟨Nat.le_of_ble_eq_true rfl, Nat.le_of_ble_eq_true rfl⟩) hS (fun r1 u H locs hw hM hS => ?_)
  obtain ⟨rfl, xr1⟩ := hw
  have hM : Mem D A ad ns I L G H := hM
  have yr1 := bo01 xr1
  refine lv_if_eq (tgt := 19) hx hb dX9_image_6 (by decide) (fun c2 => ?_) (fun c2 => ?_)
  · have hc2 := c2
    have q2 := xr1.f hc2
    refine lv_iconst (v := (-1)) hx hb dX9_image_19 (by decide) ?_
    exact m_iret hx hb hr hlocks hM hS (Nat.le_of_ble_eq_true rfl) (Nat.le_of_ble_eq_true rfl) ⟨_, _, _, _, _, rfl, hI, hC, Ext.rf, Kp.rf, fun n _ => ⟨rfl, rfl⟩⟩ dX9_image_20
  · have hc2 := c2
    have q2 := xr1.t hc2
    refine lv_aload_n hx hb dX9_image_9 rfl (lv_at hl 0 rfl) ?_
    refine m_getr (0) 0 (100) hx hb hts hown hE oc9 hM (hG.1 0 (by decide)) rfl (by decide) rfl (hG.2 (0, 0, 100) (by decide)) (by decide) tb_398 dX9_image_10 ?_
    refine m_calli (m_runV (100) (As := []) (rest := []) hx hb hml hown hts hE hM hS hA ce_X8_isBegun tb_484 (V_X8_isBegun_100 l D A ad ns I L G hG hI) rfl rfl ⟨Nat.le_of_ble_eq_true rfl, Nat.le_of_ble_eq_true rfl⟩ (hG.1 100 (by decide)) rfl rfl (by decide) rfl hl.1 rfl (Nat.le_of_ble_eq_true rfl) dX9_image_13 ⟨Nat.le_of_ble_eq_true rfl, Nat.le_of_ble_eq_true rfl⟩) hS (fun r3 u H locs hw hM hS => ?_)
    obtain ⟨rfl, xr3⟩ := hw
    have hM : Mem D A ad ns I L G H := hM
    have yr3 := bo01 xr3
    refine lv_if_ne (tgt := 21) hx hb dX9_image_16 (by decide) (fun c4 => ?_) (fun c4 => ?_)
    · have hc4 := c4
      have q4 := xr3.t hc4
      refine lv_aload_n hx hb dX9_image_21 rfl (lv_at hl 0 rfl) ?_
      refine m_getr (0) 2 (1) hx hb hts hown hE oc9 hM (hG.1 0 (by decide)) rfl (by decide) rfl (hG.2 (0, 2, 1) (by decide)) (by decide) tb_400 dX9_image_22 ?_
      refine lv_iload_n hx hb dX9_image_25 rfl (lv_at hl 1 rfl) ?_
      refine m_aald (1) hx hb hE hM (hG.1 1 (by decide)) rfl (by decide) (vp_in_iff.mpr (by omega)) dX9_image_26 ?_
      have hk4 : (a0).toInt = 0 ∨ (a0).toInt = 1 ∨ (a0).toInt = 2 ∨ (a0).toInt = 3 := by omega
      rcases hk4 with hk4 | hk4 | hk4 | hk4
      · have hkk := tn_n (i := a0) (n := 0) (by omega)
        rw [hkk]
        rcases hCI 0 (by decide) with ⟨hz, hz2⟩ | ⟨hz, hT⟩
        · rw [show rn ad (G 1 0) = none from by rw [hz]; rfl]
          have fv : ∀ i, i < 9 → 120 + i ∉ ns := fun i hi => hz2 i hi
          refine lv_astore_nN (lv' := [(2, .null), (0, .ref (ad (0))), (1, .int (a0))]) hx hb dX9_image_27 rfl hl (by decide) rfl (fun ls hl => ?_)
          refine lv_aload_nN hx hb dX9_image_28 rfl (lv_at hl 0 rfl) ?_
          refine lv_ifnonnullN hx hb dX9_image_29 ?_
          refine m_new (120) hx hb hts hown hE oc8 hM hS hA (fv 0 (by decide)) (by decide) rfl df8 tb_28 tb_29 tb_2 (Nat.le_of_ble_eq_true rfl) (Nat.le_of_ble_eq_true rfl) dX9_image_32 (fun H ad1 had hM hS => ?_)
          rw [← had (0) (hG.1 0 (by decide))] at hl
          refine lv_dup hx hb dX9_image_35 rfl ?_
          refine m_callv (m_runIN (120) (As := []) (rest := [.ref (ad1 (120))]) hx hb hml hown hts hE hM hS hA ce_X8_init (List.mem_of_getElem? (i := 0) rfl) (C_X8_init l D A ad1 (ns ++ [120]) I L G (120) (List.mem_append_right _ (List.mem_singleton.mpr rfl)) (by decide) (nin1 (fv 1 (by decide)) (by omega)) (nin1 (fv 2 (by decide)) (by omega)) (nin1 (fv 3 (by decide)) (by omega)) (nin1 (fv 4 (by decide)) (by omega)) (nin1 (fv 5 (by decide)) (by omega)) (nin1 (fv 6 (by decide)) (by omega)) (nin1 (fv 7 (by decide)) (by omega)) (nin1 (fv 8 (by decide)) (by omega))) rfl rfl ⟨Nat.le_of_ble_eq_true rfl, Nat.le_of_ble_eq_true rfl⟩  rfl hl.1 rfl (Nat.le_of_ble_eq_true rfl) dX9_image_36 ⟨Nat.le_of_ble_eq_true rfl, Nat.le_of_ble_eq_true rfl⟩) hS (fun u H locs hw hM hS => ?_)
          obtain ⟨ad2, rfl, had2⟩ := hw
          obtain ⟨nsv, ensv⟩ : ∃ z : List Nat, z = (((((((((ns ++ [120]) ++ [120 + 1]) ++ [120 + 2]) ++ [120 + 3]) ++ [120 + 4]) ++ [120 + 5]) ++ [120 + 6]) ++ [120 + 7]) ++ [120 + 8]) := ⟨_, rfl⟩
          obtain ⟨Gv, eGv⟩ : ∃ z : MG, z = (u2 (u2 (u2 (u2 (u2 (u2 (u2 (u2 G (120) 10 (120 + 1)) (120) 11 (120 + 2)) (120) 12 (120 + 3)) (120) 13 (120 + 4)) (120) 14 (120 + 5)) (120) 15 (120 + 6)) (120) 16 (120 + 7)) (120) 17 (120 + 8)) := ⟨_, rfl⟩
          have hM : Mem D A ad2 nsv I L Gv H := by rw [ensv, eGv]; exact hM
          have hnsv : ∀ x, x ∈ nsv ↔ x ∈ ns ∨ (120 ≤ x ∧ x < 120 + 9) := by intro x; rw [ensv]; by_cases hx : x ∈ ns <;> simp only [List.mem_append, List.mem_singleton, hx, true_or, false_or, iff_self] <;> omega
          have hext : Ext ns ad nsv ad2 := fun x hx => ⟨(hnsv x).mpr (Or.inl hx), (had2 x (List.mem_append_left _ hx)).trans (had x hx)⟩
          rw [← had2 (0) (List.mem_append_left _ (hG.1 0 (by decide)))] at hl
          rw [← had2 (120) (List.mem_append_right _ (List.mem_singleton.mpr rfl))]
          have hG : SGC nsv Gv := ⟨fun n hn => (hnsv n).mpr (Or.inl (hG0.1 n hn)), fun t ht => by rw [eGv]; have := feC_r t ht; rw [u2_ne _ _ _ (by omega), u2_ne _ _ _ (by omega), u2_ne _ _ _ (by omega), u2_ne _ _ _ (by omega), u2_ne _ _ _ (by omega), u2_ne _ _ _ (by omega), u2_ne _ _ _ (by omega), u2_ne _ _ _ (by omega)]; exact hG0.2 t ht⟩
          refine lv_astore_n (lv' := [(2, .ref (ad2 (120))), (0, .ref (ad2 (0))), (1, .int (a0))]) hx hb dX9_image_39 rfl hl (by decide) rfl (fun ls hl => ?_)
          refine lv_aload_n hx hb dX9_image_40 rfl (lv_at hl 1 rfl) ?_
          refine m_getr (0) 2 (1) hx hb hts hown hE oc9 hM ((hnsv 0).mpr (Or.inl (hG0.1 0 (by decide)))) rfl (by decide) rfl (hG.2 (0, 2, 1) (by decide)) (by decide) tb_400 dX9_image_41 ?_
          refine lv_iload_n hx hb dX9_image_44 rfl (lv_at hl 2 rfl) ?_
          refine lv_aload_n hx hb dX9_image_45 rfl (lv_at hl 0 rfl) ?_
          refine m_aast (1) (120) hx hb hE hM hS (hG.1 1 (by decide)) rfl ((hnsv (120)).mpr (Or.inr (by omega))) (by decide) rfl (by decide) (vp_in_iff.mpr (by omega)) dX9_image_46 (fun H locs G5 eG5 hM hS => ?_)
          subst eG5
          rw [hkk] at hM
          have hG : SGC nsv (u2 Gv 1 0 120) := sgc_putn hG (by decide)
          have hgb : ∀ j, j < 8 → u2 Gv 1 0 120 120 (10 + j) = 120 + 1 + j := by
            intro j hj
            rw [u2_ne _ _ _ (by decide), eGv]
            rcases (show j = 0 ∨ j = 1 ∨ j = 2 ∨ j = 3 ∨ j = 4 ∨ j = 5 ∨ j = 6 ∨ j = 7 by omega) with rfl | rfl | rfl | rfl | rfl | rfl | rfl | rfl <;> simp [u2_v]
          have hT : TOK nsv (u2 Gv 1 0 120) 120 := ⟨by decide, fun j hj => (hnsv _).mpr (Or.inr (by omega)), hgb⟩
          refine lv_aload_n hx hb dX9_image_47 rfl (lv_at hl 0 rfl) ?_
          refine lv_aload_n hx hb dX9_image_48 rfl (lv_at hl 1 rfl) ?_
          refine m_getr (0) 0 (100) hx hb hts hown hE oc9 hM ((hnsv 0).mpr (Or.inl (hG0.1 0 (by decide)))) rfl (by decide) rfl (hG.2 (0, 0, 100) (by decide)) (by decide) tb_398 dX9_image_49 ?_
          refine m_callv (m_runV (120) (As := [.ref (ad2 (100))]) (rest := []) hx hb hml hown hts hE hM hS hA ce_X8_copyFrom tb_1147 (V_X8_copyFrom_120_100 l D A ad2 nsv I L (u2 Gv 1 0 120) hG hI hT) rfl rfl ⟨Nat.le_of_ble_eq_true rfl, Nat.le_of_ble_eq_true rfl⟩ ((hnsv (120)).mpr (Or.inr (by omega))) rfl rfl (by decide) rfl hl.1 rfl (Nat.le_of_ble_eq_true rfl) dX9_image_52 ⟨Nat.le_of_ble_eq_true rfl, Nat.le_of_ble_eq_true rfl⟩) hS (fun u H locs hw hM hS => ?_)
          obtain ⟨I6, L7, rfl, hI, hkI6⟩ := hw
          have hM : Mem D A ad2 nsv I6 L7 (u2 Gv 1 0 120) H := hM
          have hK := hK.trans hkI6 rfl
          refine lv_aload_n hx hb dX9_image_55 rfl (lv_at hl 1 rfl) ?_
          refine m_getr (0) 0 (100) hx hb hts hown hE oc9 hM ((hnsv 0).mpr (Or.inl (hG0.1 0 (by decide)))) rfl (by decide) rfl (hG.2 (0, 0, 100) (by decide)) (by decide) tb_398 dX9_image_56 ?_
          refine m_geti (100) 6 hx hb hts hown hE oc8 hM (hG.1 100 (by decide)) rfl (by decide) rfl tb_56 dX9_image_59 ?_
          have z8 : I6 (100) 6 = I (100) 6 := (hkI6.get (100) 6 rfl)
          rw [z8]
          have hga : ∀ n k, ¬ (n = 1 ∧ k = 0) → n ≠ 120 → u2 Gv 1 0 120 n k = G n k := fun n k h1 h4 => by rw [u2_v, if_neg h1, eGv, u2_ne _ _ _ h4, u2_ne _ _ _ h4, u2_ne _ _ _ h4, u2_ne _ _ _ h4, u2_ne _ _ _ h4, u2_ne _ _ _ h4, u2_ne _ _ _ h4, u2_ne _ _ _ h4]
          exact m_iret hx hb hr hlocks hM hS (Nat.le_of_ble_eq_true rfl) (Nat.le_of_ble_eq_true rfl) ⟨_, _, _, _, _, rfl, hI, cw_img (kk := 0) (b := 120) rfl (by decide) hC ((hkI6.get (0) 14 rfl)) hga (u2_self _ _ _ _) hgb hnsv, hext, hK, fun n hn => ⟨hK.out rfl n hn, funext fun k => hga n k (by omega) (by omega)⟩⟩ dX9_image_62
        · rw [show rn ad (G 1 0) = some (ad 120) from by rw [hz]; rfl]
          refine lv_astore_n (lv' := [(2, .ref (ad (120))), (0, .ref (ad (0))), (1, .int (a0))]) hx hb dX9_image_27 rfl hl (by decide) rfl (fun ls hl => ?_)
          refine lv_aload_n hx hb dX9_image_28 rfl (lv_at hl 0 rfl) ?_
          refine lv_ifnonnull (tgt := 47) hx hb dX9_image_29 (by decide) ?_
          refine lv_aload_n hx hb dX9_image_47 rfl (lv_at hl 0 rfl) ?_
          refine lv_aload_n hx hb dX9_image_48 rfl (lv_at hl 1 rfl) ?_
          refine m_getr (0) 0 (100) hx hb hts hown hE oc9 hM (hG.1 0 (by decide)) rfl (by decide) rfl (hG.2 (0, 0, 100) (by decide)) (by decide) tb_398 dX9_image_49 ?_
          refine m_callv (m_runV (120) (As := [.ref (ad (100))]) (rest := []) hx hb hml hown hts hE hM hS hA ce_X8_copyFrom tb_1147 (V_X8_copyFrom_120_100 l D A ad ns I L G hG hI hT) rfl rfl ⟨Nat.le_of_ble_eq_true rfl, Nat.le_of_ble_eq_true rfl⟩ (hT.2.1 0 (by decide)) rfl rfl (by decide) rfl hl.1 rfl (Nat.le_of_ble_eq_true rfl) dX9_image_52 ⟨Nat.le_of_ble_eq_true rfl, Nat.le_of_ble_eq_true rfl⟩) hS (fun u H locs hw hM hS => ?_)
          obtain ⟨I9, L10, rfl, hI, hkI9⟩ := hw
          have hM : Mem D A ad ns I9 L10 G H := hM
          have hK := hK.trans hkI9 rfl
          refine lv_aload_n hx hb dX9_image_55 rfl (lv_at hl 1 rfl) ?_
          refine m_getr (0) 0 (100) hx hb hts hown hE oc9 hM (hG.1 0 (by decide)) rfl (by decide) rfl (hG.2 (0, 0, 100) (by decide)) (by decide) tb_398 dX9_image_56 ?_
          refine m_geti (100) 6 hx hb hts hown hE oc8 hM (hG.1 100 (by decide)) rfl (by decide) rfl tb_56 dX9_image_59 ?_
          have z11 : I9 (100) 6 = I (100) 6 := (hkI9.get (100) 6 rfl)
          rw [z11]
          exact m_iret hx hb hr hlocks hM hS (Nat.le_of_ble_eq_true rfl) (Nat.le_of_ble_eq_true rfl) ⟨_, _, _, _, _, rfl, hI, cw_keep hC ((hkI9.get (0) 14 rfl)), Ext.rf, hK, fun n hn => ⟨hK.out rfl n hn, rfl⟩⟩ dX9_image_62
      · have hkk := tn_n (i := a0) (n := 1) (by omega)
        rw [hkk]
        rcases hCI 1 (by decide) with ⟨hz, hz2⟩ | ⟨hz, hT⟩
        · rw [show rn ad (G 1 1) = none from by rw [hz]; rfl]
          have fv : ∀ i, i < 9 → 130 + i ∉ ns := fun i hi => hz2 i hi
          refine lv_astore_nN (lv' := [(2, .null), (0, .ref (ad (0))), (1, .int (a0))]) hx hb dX9_image_27 rfl hl (by decide) rfl (fun ls hl => ?_)
          refine lv_aload_nN hx hb dX9_image_28 rfl (lv_at hl 0 rfl) ?_
          refine lv_ifnonnullN hx hb dX9_image_29 ?_
          refine m_new (130) hx hb hts hown hE oc8 hM hS hA (fv 0 (by decide)) (by decide) rfl df8 tb_28 tb_29 tb_2 (Nat.le_of_ble_eq_true rfl) (Nat.le_of_ble_eq_true rfl) dX9_image_32 (fun H ad1 had hM hS => ?_)
          rw [← had (0) (hG.1 0 (by decide))] at hl
          refine lv_dup hx hb dX9_image_35 rfl ?_
          refine m_callv (m_runIN (130) (As := []) (rest := [.ref (ad1 (130))]) hx hb hml hown hts hE hM hS hA ce_X8_init (List.mem_of_getElem? (i := 0) rfl) (C_X8_init l D A ad1 (ns ++ [130]) I L G (130) (List.mem_append_right _ (List.mem_singleton.mpr rfl)) (by decide) (nin1 (fv 1 (by decide)) (by omega)) (nin1 (fv 2 (by decide)) (by omega)) (nin1 (fv 3 (by decide)) (by omega)) (nin1 (fv 4 (by decide)) (by omega)) (nin1 (fv 5 (by decide)) (by omega)) (nin1 (fv 6 (by decide)) (by omega)) (nin1 (fv 7 (by decide)) (by omega)) (nin1 (fv 8 (by decide)) (by omega))) rfl rfl ⟨Nat.le_of_ble_eq_true rfl, Nat.le_of_ble_eq_true rfl⟩  rfl hl.1 rfl (Nat.le_of_ble_eq_true rfl) dX9_image_36 ⟨Nat.le_of_ble_eq_true rfl, Nat.le_of_ble_eq_true rfl⟩) hS (fun u H locs hw hM hS => ?_)
          obtain ⟨ad2, rfl, had2⟩ := hw
          obtain ⟨nsv, ensv⟩ : ∃ z : List Nat, z = (((((((((ns ++ [130]) ++ [130 + 1]) ++ [130 + 2]) ++ [130 + 3]) ++ [130 + 4]) ++ [130 + 5]) ++ [130 + 6]) ++ [130 + 7]) ++ [130 + 8]) := ⟨_, rfl⟩
          obtain ⟨Gv, eGv⟩ : ∃ z : MG, z = (u2 (u2 (u2 (u2 (u2 (u2 (u2 (u2 G (130) 10 (130 + 1)) (130) 11 (130 + 2)) (130) 12 (130 + 3)) (130) 13 (130 + 4)) (130) 14 (130 + 5)) (130) 15 (130 + 6)) (130) 16 (130 + 7)) (130) 17 (130 + 8)) := ⟨_, rfl⟩
          have hM : Mem D A ad2 nsv I L Gv H := by rw [ensv, eGv]; exact hM
          have hnsv : ∀ x, x ∈ nsv ↔ x ∈ ns ∨ (130 ≤ x ∧ x < 130 + 9) := by intro x; rw [ensv]; by_cases hx : x ∈ ns <;> simp only [List.mem_append, List.mem_singleton, hx, true_or, false_or, iff_self] <;> omega
          have hext : Ext ns ad nsv ad2 := fun x hx => ⟨(hnsv x).mpr (Or.inl hx), (had2 x (List.mem_append_left _ hx)).trans (had x hx)⟩
          rw [← had2 (0) (List.mem_append_left _ (hG.1 0 (by decide)))] at hl
          rw [← had2 (130) (List.mem_append_right _ (List.mem_singleton.mpr rfl))]
          have hG : SGC nsv Gv := ⟨fun n hn => (hnsv n).mpr (Or.inl (hG0.1 n hn)), fun t ht => by rw [eGv]; have := feC_r t ht; rw [u2_ne _ _ _ (by omega), u2_ne _ _ _ (by omega), u2_ne _ _ _ (by omega), u2_ne _ _ _ (by omega), u2_ne _ _ _ (by omega), u2_ne _ _ _ (by omega), u2_ne _ _ _ (by omega), u2_ne _ _ _ (by omega)]; exact hG0.2 t ht⟩
          refine lv_astore_n (lv' := [(2, .ref (ad2 (130))), (0, .ref (ad2 (0))), (1, .int (a0))]) hx hb dX9_image_39 rfl hl (by decide) rfl (fun ls hl => ?_)
          refine lv_aload_n hx hb dX9_image_40 rfl (lv_at hl 1 rfl) ?_
          refine m_getr (0) 2 (1) hx hb hts hown hE oc9 hM ((hnsv 0).mpr (Or.inl (hG0.1 0 (by decide)))) rfl (by decide) rfl (hG.2 (0, 2, 1) (by decide)) (by decide) tb_400 dX9_image_41 ?_
          refine lv_iload_n hx hb dX9_image_44 rfl (lv_at hl 2 rfl) ?_
          refine lv_aload_n hx hb dX9_image_45 rfl (lv_at hl 0 rfl) ?_
          refine m_aast (1) (130) hx hb hE hM hS (hG.1 1 (by decide)) rfl ((hnsv (130)).mpr (Or.inr (by omega))) (by decide) rfl (by decide) (vp_in_iff.mpr (by omega)) dX9_image_46 (fun H locs G12 eG12 hM hS => ?_)
          subst eG12
          rw [hkk] at hM
          have hG : SGC nsv (u2 Gv 1 1 130) := sgc_putn hG (by decide)
          have hgb : ∀ j, j < 8 → u2 Gv 1 1 130 130 (10 + j) = 130 + 1 + j := by
            intro j hj
            rw [u2_ne _ _ _ (by decide), eGv]
            rcases (show j = 0 ∨ j = 1 ∨ j = 2 ∨ j = 3 ∨ j = 4 ∨ j = 5 ∨ j = 6 ∨ j = 7 by omega) with rfl | rfl | rfl | rfl | rfl | rfl | rfl | rfl <;> simp [u2_v]
          have hT : TOK nsv (u2 Gv 1 1 130) 130 := ⟨by decide, fun j hj => (hnsv _).mpr (Or.inr (by omega)), hgb⟩
          refine lv_aload_n hx hb dX9_image_47 rfl (lv_at hl 0 rfl) ?_
          refine lv_aload_n hx hb dX9_image_48 rfl (lv_at hl 1 rfl) ?_
          refine m_getr (0) 0 (100) hx hb hts hown hE oc9 hM ((hnsv 0).mpr (Or.inl (hG0.1 0 (by decide)))) rfl (by decide) rfl (hG.2 (0, 0, 100) (by decide)) (by decide) tb_398 dX9_image_49 ?_
          refine m_callv (m_runV (130) (As := [.ref (ad2 (100))]) (rest := []) hx hb hml hown hts hE hM hS hA ce_X8_copyFrom tb_1147 (V_X8_copyFrom_130_100 l D A ad2 nsv I L (u2 Gv 1 1 130) hG hI hT) rfl rfl ⟨Nat.le_of_ble_eq_true rfl, Nat.le_of_ble_eq_true rfl⟩ ((hnsv (130)).mpr (Or.inr (by omega))) rfl rfl (by decide) rfl hl.1 rfl (Nat.le_of_ble_eq_true rfl) dX9_image_52 ⟨Nat.le_of_ble_eq_true rfl, Nat.le_of_ble_eq_true rfl⟩) hS (fun u H locs hw hM hS => ?_)
          obtain ⟨I13, L14, rfl, hI, hkI13⟩ := hw
          have hM : Mem D A ad2 nsv I13 L14 (u2 Gv 1 1 130) H := hM
          have hK := hK.trans hkI13 rfl
          refine lv_aload_n hx hb dX9_image_55 rfl (lv_at hl 1 rfl) ?_
          refine m_getr (0) 0 (100) hx hb hts hown hE oc9 hM ((hnsv 0).mpr (Or.inl (hG0.1 0 (by decide)))) rfl (by decide) rfl (hG.2 (0, 0, 100) (by decide)) (by decide) tb_398 dX9_image_56 ?_
          refine m_geti (100) 6 hx hb hts hown hE oc8 hM (hG.1 100 (by decide)) rfl (by decide) rfl tb_56 dX9_image_59 ?_
          have z15 : I13 (100) 6 = I (100) 6 := (hkI13.get (100) 6 rfl)
          rw [z15]
          have hga : ∀ n k, ¬ (n = 1 ∧ k = 1) → n ≠ 130 → u2 Gv 1 1 130 n k = G n k := fun n k h1 h4 => by rw [u2_v, if_neg h1, eGv, u2_ne _ _ _ h4, u2_ne _ _ _ h4, u2_ne _ _ _ h4, u2_ne _ _ _ h4, u2_ne _ _ _ h4, u2_ne _ _ _ h4, u2_ne _ _ _ h4, u2_ne _ _ _ h4]
          exact m_iret hx hb hr hlocks hM hS (Nat.le_of_ble_eq_true rfl) (Nat.le_of_ble_eq_true rfl) ⟨_, _, _, _, _, rfl, hI, cw_img (kk := 1) (b := 130) rfl (by decide) hC ((hkI13.get (0) 14 rfl)) hga (u2_self _ _ _ _) hgb hnsv, hext, hK, fun n hn => ⟨hK.out rfl n hn, funext fun k => hga n k (by omega) (by omega)⟩⟩ dX9_image_62
        · rw [show rn ad (G 1 1) = some (ad 130) from by rw [hz]; rfl]
          refine lv_astore_n (lv' := [(2, .ref (ad (130))), (0, .ref (ad (0))), (1, .int (a0))]) hx hb dX9_image_27 rfl hl (by decide) rfl (fun ls hl => ?_)
          refine lv_aload_n hx hb dX9_image_28 rfl (lv_at hl 0 rfl) ?_
          refine lv_ifnonnull (tgt := 47) hx hb dX9_image_29 (by decide) ?_
          refine lv_aload_n hx hb dX9_image_47 rfl (lv_at hl 0 rfl) ?_
          refine lv_aload_n hx hb dX9_image_48 rfl (lv_at hl 1 rfl) ?_
          refine m_getr (0) 0 (100) hx hb hts hown hE oc9 hM (hG.1 0 (by decide)) rfl (by decide) rfl (hG.2 (0, 0, 100) (by decide)) (by decide) tb_398 dX9_image_49 ?_
          refine m_callv (m_runV (130) (As := [.ref (ad (100))]) (rest := []) hx hb hml hown hts hE hM hS hA ce_X8_copyFrom tb_1147 (V_X8_copyFrom_130_100 l D A ad ns I L G hG hI hT) rfl rfl ⟨Nat.le_of_ble_eq_true rfl, Nat.le_of_ble_eq_true rfl⟩ (hT.2.1 0 (by decide)) rfl rfl (by decide) rfl hl.1 rfl (Nat.le_of_ble_eq_true rfl) dX9_image_52 ⟨Nat.le_of_ble_eq_true rfl, Nat.le_of_ble_eq_true rfl⟩) hS (fun u H locs hw hM hS => ?_)
          obtain ⟨I16, L17, rfl, hI, hkI16⟩ := hw
          have hM : Mem D A ad ns I16 L17 G H := hM
          have hK := hK.trans hkI16 rfl
          refine lv_aload_n hx hb dX9_image_55 rfl (lv_at hl 1 rfl) ?_
          refine m_getr (0) 0 (100) hx hb hts hown hE oc9 hM (hG.1 0 (by decide)) rfl (by decide) rfl (hG.2 (0, 0, 100) (by decide)) (by decide) tb_398 dX9_image_56 ?_
          refine m_geti (100) 6 hx hb hts hown hE oc8 hM (hG.1 100 (by decide)) rfl (by decide) rfl tb_56 dX9_image_59 ?_
          have z18 : I16 (100) 6 = I (100) 6 := (hkI16.get (100) 6 rfl)
          rw [z18]
          exact m_iret hx hb hr hlocks hM hS (Nat.le_of_ble_eq_true rfl) (Nat.le_of_ble_eq_true rfl) ⟨_, _, _, _, _, rfl, hI, cw_keep hC ((hkI16.get (0) 14 rfl)), Ext.rf, hK, fun n hn => ⟨hK.out rfl n hn, rfl⟩⟩ dX9_image_62
      · have hkk := tn_n (i := a0) (n := 2) (by omega)
        rw [hkk]
        rcases hCI 2 (by decide) with ⟨hz, hz2⟩ | ⟨hz, hT⟩
        · rw [show rn ad (G 1 2) = none from by rw [hz]; rfl]
          have fv : ∀ i, i < 9 → 140 + i ∉ ns := fun i hi => hz2 i hi
          refine lv_astore_nN (lv' := [(2, .null), (0, .ref (ad (0))), (1, .int (a0))]) hx hb dX9_image_27 rfl hl (by decide) rfl (fun ls hl => ?_)
          refine lv_aload_nN hx hb dX9_image_28 rfl (lv_at hl 0 rfl) ?_
          refine lv_ifnonnullN hx hb dX9_image_29 ?_
          refine m_new (140) hx hb hts hown hE oc8 hM hS hA (fv 0 (by decide)) (by decide) rfl df8 tb_28 tb_29 tb_2 (Nat.le_of_ble_eq_true rfl) (Nat.le_of_ble_eq_true rfl) dX9_image_32 (fun H ad1 had hM hS => ?_)
          rw [← had (0) (hG.1 0 (by decide))] at hl
          refine lv_dup hx hb dX9_image_35 rfl ?_
          refine m_callv (m_runIN (140) (As := []) (rest := [.ref (ad1 (140))]) hx hb hml hown hts hE hM hS hA ce_X8_init (List.mem_of_getElem? (i := 0) rfl) (C_X8_init l D A ad1 (ns ++ [140]) I L G (140) (List.mem_append_right _ (List.mem_singleton.mpr rfl)) (by decide) (nin1 (fv 1 (by decide)) (by omega)) (nin1 (fv 2 (by decide)) (by omega)) (nin1 (fv 3 (by decide)) (by omega)) (nin1 (fv 4 (by decide)) (by omega)) (nin1 (fv 5 (by decide)) (by omega)) (nin1 (fv 6 (by decide)) (by omega)) (nin1 (fv 7 (by decide)) (by omega)) (nin1 (fv 8 (by decide)) (by omega))) rfl rfl ⟨Nat.le_of_ble_eq_true rfl, Nat.le_of_ble_eq_true rfl⟩  rfl hl.1 rfl (Nat.le_of_ble_eq_true rfl) dX9_image_36 ⟨Nat.le_of_ble_eq_true rfl, Nat.le_of_ble_eq_true rfl⟩) hS (fun u H locs hw hM hS => ?_)
          obtain ⟨ad2, rfl, had2⟩ := hw
          obtain ⟨nsv, ensv⟩ : ∃ z : List Nat, z = (((((((((ns ++ [140]) ++ [140 + 1]) ++ [140 + 2]) ++ [140 + 3]) ++ [140 + 4]) ++ [140 + 5]) ++ [140 + 6]) ++ [140 + 7]) ++ [140 + 8]) := ⟨_, rfl⟩
          obtain ⟨Gv, eGv⟩ : ∃ z : MG, z = (u2 (u2 (u2 (u2 (u2 (u2 (u2 (u2 G (140) 10 (140 + 1)) (140) 11 (140 + 2)) (140) 12 (140 + 3)) (140) 13 (140 + 4)) (140) 14 (140 + 5)) (140) 15 (140 + 6)) (140) 16 (140 + 7)) (140) 17 (140 + 8)) := ⟨_, rfl⟩
          have hM : Mem D A ad2 nsv I L Gv H := by rw [ensv, eGv]; exact hM
          have hnsv : ∀ x, x ∈ nsv ↔ x ∈ ns ∨ (140 ≤ x ∧ x < 140 + 9) := by intro x; rw [ensv]; by_cases hx : x ∈ ns <;> simp only [List.mem_append, List.mem_singleton, hx, true_or, false_or, iff_self] <;> omega
          have hext : Ext ns ad nsv ad2 := fun x hx => ⟨(hnsv x).mpr (Or.inl hx), (had2 x (List.mem_append_left _ hx)).trans (had x hx)⟩
          rw [← had2 (0) (List.mem_append_left _ (hG.1 0 (by decide)))] at hl
          rw [← had2 (140) (List.mem_append_right _ (List.mem_singleton.mpr rfl))]
          have hG : SGC nsv Gv := ⟨fun n hn => (hnsv n).mpr (Or.inl (hG0.1 n hn)), fun t ht => by rw [eGv]; have := feC_r t ht; rw [u2_ne _ _ _ (by omega), u2_ne _ _ _ (by omega), u2_ne _ _ _ (by omega), u2_ne _ _ _ (by omega), u2_ne _ _ _ (by omega), u2_ne _ _ _ (by omega), u2_ne _ _ _ (by omega), u2_ne _ _ _ (by omega)]; exact hG0.2 t ht⟩
          refine lv_astore_n (lv' := [(2, .ref (ad2 (140))), (0, .ref (ad2 (0))), (1, .int (a0))]) hx hb dX9_image_39 rfl hl (by decide) rfl (fun ls hl => ?_)
          refine lv_aload_n hx hb dX9_image_40 rfl (lv_at hl 1 rfl) ?_
          refine m_getr (0) 2 (1) hx hb hts hown hE oc9 hM ((hnsv 0).mpr (Or.inl (hG0.1 0 (by decide)))) rfl (by decide) rfl (hG.2 (0, 2, 1) (by decide)) (by decide) tb_400 dX9_image_41 ?_
          refine lv_iload_n hx hb dX9_image_44 rfl (lv_at hl 2 rfl) ?_
          refine lv_aload_n hx hb dX9_image_45 rfl (lv_at hl 0 rfl) ?_
          refine m_aast (1) (140) hx hb hE hM hS (hG.1 1 (by decide)) rfl ((hnsv (140)).mpr (Or.inr (by omega))) (by decide) rfl (by decide) (vp_in_iff.mpr (by omega)) dX9_image_46 (fun H locs G19 eG19 hM hS => ?_)
          subst eG19
          rw [hkk] at hM
          have hG : SGC nsv (u2 Gv 1 2 140) := sgc_putn hG (by decide)
          have hgb : ∀ j, j < 8 → u2 Gv 1 2 140 140 (10 + j) = 140 + 1 + j := by
            intro j hj
            rw [u2_ne _ _ _ (by decide), eGv]
            rcases (show j = 0 ∨ j = 1 ∨ j = 2 ∨ j = 3 ∨ j = 4 ∨ j = 5 ∨ j = 6 ∨ j = 7 by omega) with rfl | rfl | rfl | rfl | rfl | rfl | rfl | rfl <;> simp [u2_v]
          have hT : TOK nsv (u2 Gv 1 2 140) 140 := ⟨by decide, fun j hj => (hnsv _).mpr (Or.inr (by omega)), hgb⟩
          refine lv_aload_n hx hb dX9_image_47 rfl (lv_at hl 0 rfl) ?_
          refine lv_aload_n hx hb dX9_image_48 rfl (lv_at hl 1 rfl) ?_
          refine m_getr (0) 0 (100) hx hb hts hown hE oc9 hM ((hnsv 0).mpr (Or.inl (hG0.1 0 (by decide)))) rfl (by decide) rfl (hG.2 (0, 0, 100) (by decide)) (by decide) tb_398 dX9_image_49 ?_
          refine m_callv (m_runV (140) (As := [.ref (ad2 (100))]) (rest := []) hx hb hml hown hts hE hM hS hA ce_X8_copyFrom tb_1147 (V_X8_copyFrom_140_100 l D A ad2 nsv I L (u2 Gv 1 2 140) hG hI hT) rfl rfl ⟨Nat.le_of_ble_eq_true rfl, Nat.le_of_ble_eq_true rfl⟩ ((hnsv (140)).mpr (Or.inr (by omega))) rfl rfl (by decide) rfl hl.1 rfl (Nat.le_of_ble_eq_true rfl) dX9_image_52 ⟨Nat.le_of_ble_eq_true rfl, Nat.le_of_ble_eq_true rfl⟩) hS (fun u H locs hw hM hS => ?_)
          obtain ⟨I20, L21, rfl, hI, hkI20⟩ := hw
          have hM : Mem D A ad2 nsv I20 L21 (u2 Gv 1 2 140) H := hM
          have hK := hK.trans hkI20 rfl
          refine lv_aload_n hx hb dX9_image_55 rfl (lv_at hl 1 rfl) ?_
          refine m_getr (0) 0 (100) hx hb hts hown hE oc9 hM ((hnsv 0).mpr (Or.inl (hG0.1 0 (by decide)))) rfl (by decide) rfl (hG.2 (0, 0, 100) (by decide)) (by decide) tb_398 dX9_image_56 ?_
          refine m_geti (100) 6 hx hb hts hown hE oc8 hM (hG.1 100 (by decide)) rfl (by decide) rfl tb_56 dX9_image_59 ?_
          have z22 : I20 (100) 6 = I (100) 6 := (hkI20.get (100) 6 rfl)
          rw [z22]
          have hga : ∀ n k, ¬ (n = 1 ∧ k = 2) → n ≠ 140 → u2 Gv 1 2 140 n k = G n k := fun n k h1 h4 => by rw [u2_v, if_neg h1, eGv, u2_ne _ _ _ h4, u2_ne _ _ _ h4, u2_ne _ _ _ h4, u2_ne _ _ _ h4, u2_ne _ _ _ h4, u2_ne _ _ _ h4, u2_ne _ _ _ h4, u2_ne _ _ _ h4]
          exact m_iret hx hb hr hlocks hM hS (Nat.le_of_ble_eq_true rfl) (Nat.le_of_ble_eq_true rfl) ⟨_, _, _, _, _, rfl, hI, cw_img (kk := 2) (b := 140) rfl (by decide) hC ((hkI20.get (0) 14 rfl)) hga (u2_self _ _ _ _) hgb hnsv, hext, hK, fun n hn => ⟨hK.out rfl n hn, funext fun k => hga n k (by omega) (by omega)⟩⟩ dX9_image_62
        · rw [show rn ad (G 1 2) = some (ad 140) from by rw [hz]; rfl]
          refine lv_astore_n (lv' := [(2, .ref (ad (140))), (0, .ref (ad (0))), (1, .int (a0))]) hx hb dX9_image_27 rfl hl (by decide) rfl (fun ls hl => ?_)
          refine lv_aload_n hx hb dX9_image_28 rfl (lv_at hl 0 rfl) ?_
          refine lv_ifnonnull (tgt := 47) hx hb dX9_image_29 (by decide) ?_
          refine lv_aload_n hx hb dX9_image_47 rfl (lv_at hl 0 rfl) ?_
          refine lv_aload_n hx hb dX9_image_48 rfl (lv_at hl 1 rfl) ?_
          refine m_getr (0) 0 (100) hx hb hts hown hE oc9 hM (hG.1 0 (by decide)) rfl (by decide) rfl (hG.2 (0, 0, 100) (by decide)) (by decide) tb_398 dX9_image_49 ?_
          refine m_callv (m_runV (140) (As := [.ref (ad (100))]) (rest := []) hx hb hml hown hts hE hM hS hA ce_X8_copyFrom tb_1147 (V_X8_copyFrom_140_100 l D A ad ns I L G hG hI hT) rfl rfl ⟨Nat.le_of_ble_eq_true rfl, Nat.le_of_ble_eq_true rfl⟩ (hT.2.1 0 (by decide)) rfl rfl (by decide) rfl hl.1 rfl (Nat.le_of_ble_eq_true rfl) dX9_image_52 ⟨Nat.le_of_ble_eq_true rfl, Nat.le_of_ble_eq_true rfl⟩) hS (fun u H locs hw hM hS => ?_)
          obtain ⟨I23, L24, rfl, hI, hkI23⟩ := hw
          have hM : Mem D A ad ns I23 L24 G H := hM
          have hK := hK.trans hkI23 rfl
          refine lv_aload_n hx hb dX9_image_55 rfl (lv_at hl 1 rfl) ?_
          refine m_getr (0) 0 (100) hx hb hts hown hE oc9 hM (hG.1 0 (by decide)) rfl (by decide) rfl (hG.2 (0, 0, 100) (by decide)) (by decide) tb_398 dX9_image_56 ?_
          refine m_geti (100) 6 hx hb hts hown hE oc8 hM (hG.1 100 (by decide)) rfl (by decide) rfl tb_56 dX9_image_59 ?_
          have z25 : I23 (100) 6 = I (100) 6 := (hkI23.get (100) 6 rfl)
          rw [z25]
          exact m_iret hx hb hr hlocks hM hS (Nat.le_of_ble_eq_true rfl) (Nat.le_of_ble_eq_true rfl) ⟨_, _, _, _, _, rfl, hI, cw_keep hC ((hkI23.get (0) 14 rfl)), Ext.rf, hK, fun n hn => ⟨hK.out rfl n hn, rfl⟩⟩ dX9_image_62
      · have hkk := tn_n (i := a0) (n := 3) (by omega)
        rw [hkk]
        rcases hCI 3 (by decide) with ⟨hz, hz2⟩ | ⟨hz, hT⟩
        · rw [show rn ad (G 1 3) = none from by rw [hz]; rfl]
          have fv : ∀ i, i < 9 → 150 + i ∉ ns := fun i hi => hz2 i hi
          refine lv_astore_nN (lv' := [(2, .null), (0, .ref (ad (0))), (1, .int (a0))]) hx hb dX9_image_27 rfl hl (by decide) rfl (fun ls hl => ?_)
          refine lv_aload_nN hx hb dX9_image_28 rfl (lv_at hl 0 rfl) ?_
          refine lv_ifnonnullN hx hb dX9_image_29 ?_
          refine m_new (150) hx hb hts hown hE oc8 hM hS hA (fv 0 (by decide)) (by decide) rfl df8 tb_28 tb_29 tb_2 (Nat.le_of_ble_eq_true rfl) (Nat.le_of_ble_eq_true rfl) dX9_image_32 (fun H ad1 had hM hS => ?_)
          rw [← had (0) (hG.1 0 (by decide))] at hl
          refine lv_dup hx hb dX9_image_35 rfl ?_
          refine m_callv (m_runIN (150) (As := []) (rest := [.ref (ad1 (150))]) hx hb hml hown hts hE hM hS hA ce_X8_init (List.mem_of_getElem? (i := 0) rfl) (C_X8_init l D A ad1 (ns ++ [150]) I L G (150) (List.mem_append_right _ (List.mem_singleton.mpr rfl)) (by decide) (nin1 (fv 1 (by decide)) (by omega)) (nin1 (fv 2 (by decide)) (by omega)) (nin1 (fv 3 (by decide)) (by omega)) (nin1 (fv 4 (by decide)) (by omega)) (nin1 (fv 5 (by decide)) (by omega)) (nin1 (fv 6 (by decide)) (by omega)) (nin1 (fv 7 (by decide)) (by omega)) (nin1 (fv 8 (by decide)) (by omega))) rfl rfl ⟨Nat.le_of_ble_eq_true rfl, Nat.le_of_ble_eq_true rfl⟩  rfl hl.1 rfl (Nat.le_of_ble_eq_true rfl) dX9_image_36 ⟨Nat.le_of_ble_eq_true rfl, Nat.le_of_ble_eq_true rfl⟩) hS (fun u H locs hw hM hS => ?_)
          obtain ⟨ad2, rfl, had2⟩ := hw
          obtain ⟨nsv, ensv⟩ : ∃ z : List Nat, z = (((((((((ns ++ [150]) ++ [150 + 1]) ++ [150 + 2]) ++ [150 + 3]) ++ [150 + 4]) ++ [150 + 5]) ++ [150 + 6]) ++ [150 + 7]) ++ [150 + 8]) := ⟨_, rfl⟩
          obtain ⟨Gv, eGv⟩ : ∃ z : MG, z = (u2 (u2 (u2 (u2 (u2 (u2 (u2 (u2 G (150) 10 (150 + 1)) (150) 11 (150 + 2)) (150) 12 (150 + 3)) (150) 13 (150 + 4)) (150) 14 (150 + 5)) (150) 15 (150 + 6)) (150) 16 (150 + 7)) (150) 17 (150 + 8)) := ⟨_, rfl⟩
          have hM : Mem D A ad2 nsv I L Gv H := by rw [ensv, eGv]; exact hM
          have hnsv : ∀ x, x ∈ nsv ↔ x ∈ ns ∨ (150 ≤ x ∧ x < 150 + 9) := by intro x; rw [ensv]; by_cases hx : x ∈ ns <;> simp only [List.mem_append, List.mem_singleton, hx, true_or, false_or, iff_self] <;> omega
          have hext : Ext ns ad nsv ad2 := fun x hx => ⟨(hnsv x).mpr (Or.inl hx), (had2 x (List.mem_append_left _ hx)).trans (had x hx)⟩
          rw [← had2 (0) (List.mem_append_left _ (hG.1 0 (by decide)))] at hl
          rw [← had2 (150) (List.mem_append_right _ (List.mem_singleton.mpr rfl))]
          have hG : SGC nsv Gv := ⟨fun n hn => (hnsv n).mpr (Or.inl (hG0.1 n hn)), fun t ht => by rw [eGv]; have := feC_r t ht; rw [u2_ne _ _ _ (by omega), u2_ne _ _ _ (by omega), u2_ne _ _ _ (by omega), u2_ne _ _ _ (by omega), u2_ne _ _ _ (by omega), u2_ne _ _ _ (by omega), u2_ne _ _ _ (by omega), u2_ne _ _ _ (by omega)]; exact hG0.2 t ht⟩
          refine lv_astore_n (lv' := [(2, .ref (ad2 (150))), (0, .ref (ad2 (0))), (1, .int (a0))]) hx hb dX9_image_39 rfl hl (by decide) rfl (fun ls hl => ?_)
          refine lv_aload_n hx hb dX9_image_40 rfl (lv_at hl 1 rfl) ?_
          refine m_getr (0) 2 (1) hx hb hts hown hE oc9 hM ((hnsv 0).mpr (Or.inl (hG0.1 0 (by decide)))) rfl (by decide) rfl (hG.2 (0, 2, 1) (by decide)) (by decide) tb_400 dX9_image_41 ?_
          refine lv_iload_n hx hb dX9_image_44 rfl (lv_at hl 2 rfl) ?_
          refine lv_aload_n hx hb dX9_image_45 rfl (lv_at hl 0 rfl) ?_
          refine m_aast (1) (150) hx hb hE hM hS (hG.1 1 (by decide)) rfl ((hnsv (150)).mpr (Or.inr (by omega))) (by decide) rfl (by decide) (vp_in_iff.mpr (by omega)) dX9_image_46 (fun H locs G26 eG26 hM hS => ?_)
          subst eG26
          rw [hkk] at hM
          have hG : SGC nsv (u2 Gv 1 3 150) := sgc_putn hG (by decide)
          have hgb : ∀ j, j < 8 → u2 Gv 1 3 150 150 (10 + j) = 150 + 1 + j := by
            intro j hj
            rw [u2_ne _ _ _ (by decide), eGv]
            rcases (show j = 0 ∨ j = 1 ∨ j = 2 ∨ j = 3 ∨ j = 4 ∨ j = 5 ∨ j = 6 ∨ j = 7 by omega) with rfl | rfl | rfl | rfl | rfl | rfl | rfl | rfl <;> simp [u2_v]
          have hT : TOK nsv (u2 Gv 1 3 150) 150 := ⟨by decide, fun j hj => (hnsv _).mpr (Or.inr (by omega)), hgb⟩
          refine lv_aload_n hx hb dX9_image_47 rfl (lv_at hl 0 rfl) ?_
          refine lv_aload_n hx hb dX9_image_48 rfl (lv_at hl 1 rfl) ?_
          refine m_getr (0) 0 (100) hx hb hts hown hE oc9 hM ((hnsv 0).mpr (Or.inl (hG0.1 0 (by decide)))) rfl (by decide) rfl (hG.2 (0, 0, 100) (by decide)) (by decide) tb_398 dX9_image_49 ?_
          refine m_callv (m_runV (150) (As := [.ref (ad2 (100))]) (rest := []) hx hb hml hown hts hE hM hS hA ce_X8_copyFrom tb_1147 (V_X8_copyFrom_150_100 l D A ad2 nsv I L (u2 Gv 1 3 150) hG hI hT) rfl rfl ⟨Nat.le_of_ble_eq_true rfl, Nat.le_of_ble_eq_true rfl⟩ ((hnsv (150)).mpr (Or.inr (by omega))) rfl rfl (by decide) rfl hl.1 rfl (Nat.le_of_ble_eq_true rfl) dX9_image_52 ⟨Nat.le_of_ble_eq_true rfl, Nat.le_of_ble_eq_true rfl⟩) hS (fun u H locs hw hM hS => ?_)
          obtain ⟨I27, L28, rfl, hI, hkI27⟩ := hw
          have hM : Mem D A ad2 nsv I27 L28 (u2 Gv 1 3 150) H := hM
          have hK := hK.trans hkI27 rfl
          refine lv_aload_n hx hb dX9_image_55 rfl (lv_at hl 1 rfl) ?_
          refine m_getr (0) 0 (100) hx hb hts hown hE oc9 hM ((hnsv 0).mpr (Or.inl (hG0.1 0 (by decide)))) rfl (by decide) rfl (hG.2 (0, 0, 100) (by decide)) (by decide) tb_398 dX9_image_56 ?_
          refine m_geti (100) 6 hx hb hts hown hE oc8 hM (hG.1 100 (by decide)) rfl (by decide) rfl tb_56 dX9_image_59 ?_
          have z29 : I27 (100) 6 = I (100) 6 := (hkI27.get (100) 6 rfl)
          rw [z29]
          have hga : ∀ n k, ¬ (n = 1 ∧ k = 3) → n ≠ 150 → u2 Gv 1 3 150 n k = G n k := fun n k h1 h4 => by rw [u2_v, if_neg h1, eGv, u2_ne _ _ _ h4, u2_ne _ _ _ h4, u2_ne _ _ _ h4, u2_ne _ _ _ h4, u2_ne _ _ _ h4, u2_ne _ _ _ h4, u2_ne _ _ _ h4, u2_ne _ _ _ h4]
          exact m_iret hx hb hr hlocks hM hS (Nat.le_of_ble_eq_true rfl) (Nat.le_of_ble_eq_true rfl) ⟨_, _, _, _, _, rfl, hI, cw_img (kk := 3) (b := 150) rfl (by decide) hC ((hkI27.get (0) 14 rfl)) hga (u2_self _ _ _ _) hgb hnsv, hext, hK, fun n hn => ⟨hK.out rfl n hn, funext fun k => hga n k (by omega) (by omega)⟩⟩ dX9_image_62
        · rw [show rn ad (G 1 3) = some (ad 150) from by rw [hz]; rfl]
          refine lv_astore_n (lv' := [(2, .ref (ad (150))), (0, .ref (ad (0))), (1, .int (a0))]) hx hb dX9_image_27 rfl hl (by decide) rfl (fun ls hl => ?_)
          refine lv_aload_n hx hb dX9_image_28 rfl (lv_at hl 0 rfl) ?_
          refine lv_ifnonnull (tgt := 47) hx hb dX9_image_29 (by decide) ?_
          refine lv_aload_n hx hb dX9_image_47 rfl (lv_at hl 0 rfl) ?_
          refine lv_aload_n hx hb dX9_image_48 rfl (lv_at hl 1 rfl) ?_
          refine m_getr (0) 0 (100) hx hb hts hown hE oc9 hM (hG.1 0 (by decide)) rfl (by decide) rfl (hG.2 (0, 0, 100) (by decide)) (by decide) tb_398 dX9_image_49 ?_
          refine m_callv (m_runV (150) (As := [.ref (ad (100))]) (rest := []) hx hb hml hown hts hE hM hS hA ce_X8_copyFrom tb_1147 (V_X8_copyFrom_150_100 l D A ad ns I L G hG hI hT) rfl rfl ⟨Nat.le_of_ble_eq_true rfl, Nat.le_of_ble_eq_true rfl⟩ (hT.2.1 0 (by decide)) rfl rfl (by decide) rfl hl.1 rfl (Nat.le_of_ble_eq_true rfl) dX9_image_52 ⟨Nat.le_of_ble_eq_true rfl, Nat.le_of_ble_eq_true rfl⟩) hS (fun u H locs hw hM hS => ?_)
          obtain ⟨I30, L31, rfl, hI, hkI30⟩ := hw
          have hM : Mem D A ad ns I30 L31 G H := hM
          have hK := hK.trans hkI30 rfl
          refine lv_aload_n hx hb dX9_image_55 rfl (lv_at hl 1 rfl) ?_
          refine m_getr (0) 0 (100) hx hb hts hown hE oc9 hM (hG.1 0 (by decide)) rfl (by decide) rfl (hG.2 (0, 0, 100) (by decide)) (by decide) tb_398 dX9_image_56 ?_
          refine m_geti (100) 6 hx hb hts hown hE oc8 hM (hG.1 100 (by decide)) rfl (by decide) rfl tb_56 dX9_image_59 ?_
          have z32 : I30 (100) 6 = I (100) 6 := (hkI30.get (100) 6 rfl)
          rw [z32]
          exact m_iret hx hb hr hlocks hM hS (Nat.le_of_ble_eq_true rfl) (Nat.le_of_ble_eq_true rfl) ⟨_, _, _, _, _, rfl, hI, cw_keep hC ((hkI30.get (0) 14 rfl)), Ext.rf, hK, fun n hn => ⟨hK.out rfl n hn, rfl⟩⟩ dX9_image_62
    · have hc4 := c4
      have q4 := xr3.f hc4
      refine lv_iconst (v := (-1)) hx hb dX9_image_19 (by decide) ?_
      exact m_iret hx hb hr hlocks hM hS (Nat.le_of_ble_eq_true rfl) (Nat.le_of_ble_eq_true rfl) ⟨_, _, _, _, _, rfl, hI, hC, Ext.rf, Kp.rf, fun n _ => ⟨rfl, rfl⟩⟩ dX9_image_20
