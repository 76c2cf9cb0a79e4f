def zI : MI := fun _ _ => 0
def zL : ML := fun _ _ => 0
def zG : MG := fun _ _ => 0
theorem dX8_init_0 : decode cX8_init 0 = .ok (.aload_n 0, 1) := by decide +kernel
theorem dX8_init_1 : decode cX8_init 1 = .ok (.invokespecial 3, 3) := by decide +kernel
theorem dX8_init_4 : decode cX8_init 4 = .ok (.aload_n 0, 1) := by decide +kernel
theorem dX8_init_5 : decode cX8_init 5 = .ok (.sipush 576, 3) := by decide +kernel
theorem dX8_init_8 : decode cX8_init 8 = .ok (.newarray .int, 2) := by decide +kernel
theorem dX8_init_10 : decode cX8_init 10 = .ok (.putfield 9, 3) := by decide +kernel
theorem dX8_init_13 : decode cX8_init 13 = .ok (.aload_n 0, 1) := by decide +kernel
theorem dX8_init_14 : decode cX8_init 14 = .ok (.sipush 576, 3) := by decide +kernel
theorem dX8_init_17 : decode cX8_init 17 = .ok (.newarray .int, 2) := by decide +kernel
theorem dX8_init_19 : decode cX8_init 19 = .ok (.putfield 15, 3) := by decide +kernel
theorem dX8_init_22 : decode cX8_init 22 = .ok (.aload_n 0, 1) := by decide +kernel
theorem dX8_init_23 : decode cX8_init 23 = .ok (.sipush 576, 3) := by decide +kernel
theorem dX8_init_26 : decode cX8_init 26 = .ok (.newarray .int, 2) := by decide +kernel
theorem dX8_init_28 : decode cX8_init 28 = .ok (.putfield 18, 3) := by decide +kernel
theorem dX8_init_31 : decode cX8_init 31 = .ok (.aload_n 0, 1) := by decide +kernel
theorem dX8_init_32 : decode cX8_init 32 = .ok (.sipush 576, 3) := by decide +kernel
theorem dX8_init_35 : decode cX8_init 35 = .ok (.newarray .int, 2) := by decide +kernel
theorem dX8_init_37 : decode cX8_init 37 = .ok (.putfield 21, 3) := by decide +kernel
theorem dX8_init_40 : decode cX8_init 40 = .ok (.aload_n 0, 1) := by decide +kernel
theorem dX8_init_41 : decode cX8_init 41 = .ok (.sipush 288, 3) := by decide +kernel
theorem dX8_init_44 : decode cX8_init 44 = .ok (.newarray .int, 2) := by decide +kernel
theorem dX8_init_46 : decode cX8_init 46 = .ok (.putfield 24, 3) := by decide +kernel
theorem dX8_init_49 : decode cX8_init 49 = .ok (.aload_n 0, 1) := by decide +kernel
theorem dX8_init_50 : decode cX8_init 50 = .ok (.sipush 288, 3) := by decide +kernel
theorem dX8_init_53 : decode cX8_init 53 = .ok (.newarray .int, 2) := by decide +kernel
theorem dX8_init_55 : decode cX8_init 55 = .ok (.putfield 27, 3) := by decide +kernel
theorem dX8_init_58 : decode cX8_init 58 = .ok (.aload_n 0, 1) := by decide +kernel
theorem dX8_init_59 : decode cX8_init 59 = .ok (.sipush 240, 3) := by decide +kernel
theorem dX8_init_62 : decode cX8_init 62 = .ok (.newarray .int, 2) := by decide +kernel
theorem dX8_init_64 : decode cX8_init 64 = .ok (.putfield 30, 3) := by decide +kernel
theorem dX8_init_67 : decode cX8_init 67 = .ok (.aload_n 0, 1) := by decide +kernel
theorem dX8_init_68 : decode cX8_init 68 = .ok (.bipush 56, 2) := by decide +kernel
theorem dX8_init_70 : decode cX8_init 70 = .ok (.newarray .int, 2) := by decide +kernel
theorem dX8_init_72 : decode cX8_init 72 = .ok (.putfield 33, 3) := by decide +kernel
theorem dX8_init_75 : decode cX8_init 75 = .ok (.return_, 1) := by decide +kernel
theorem ce_X8_init : CeI yX8_init cX8_init 1 0 := ⟨tb_31, tb_2, tb_32, by decide, by decide, by decide, by decide +kernel⟩
set_option maxHeartbeats 4000000 in
set_option maxRecDepth 20000 in
theorem C_X8_init (l : Launch) (D : va_G) (A : Nat → Prop) (ad : Nat → Nat) (ns : List Nat) (I : MI) (L : ML) (G : MG) (b : Nat) (hm : b ∈ ns) (hk : b ∈ tB) (f0 : b + 1 ∉ ns) (f1 : b + 2 ∉ ns) (f2 : b + 3 ∉ ns) (f3 : b + 4 ∉ ns) (f4 : b + 5 ∉ ns) (f5 : b + 6 ∉ ns) (f6 : b + 7 ∉ ns) (f7 : b + 8 ∉ ns) : Met l yX8_init (wd yX8_init cX8_init 1 none) ({ frames := 1, cells := 8, slots := 3176, locals := 12 }) (va_Pc [.ref (ad (b))] (PM D A ad ns I L G)) (va_Qv (fun u => ∃ ad2, u = (ad2, ((((((((ns ++ [b + 1]) ++ [b + 2]) ++ [b + 3]) ++ [b + 4]) ++ [b + 5]) ++ [b + 6]) ++ [b + 7]) ++ [b + 8]), I, L, (u2 (u2 (u2 (u2 (u2 (u2 (u2 (u2 G (b) 10 (b + 1)) (b) 11 (b + 2)) (b) 12 (b + 3)) (b) 13 (b + 4)) (b) 14 (b + 5)) (b) 15 (b + 6)) (b) 16 (b + 7)) (b) 17 (b + 8))) ∧ ∀ x ∈ ns, ad2 x = ad x) (BM D A) A) 8 3176 A := by
  refine m_ofW (by decide) (Nat.le_of_ble_eq_true rfl) ?_
  intro p e s m below meth c ls args hC hE hM hA hS hl
  obtain ⟨hx, hb, hml, hown, hts, hr, hlocks, hin⟩ := hC
  have k0 : (0 : Int32).toInt = 0 := by decide
  have k56 : (56 : Int32).toInt = 56 := by decide
  have k240 : (240 : Int32).toInt = 240 := by decide
  have k288 : (288 : Int32).toInt = 288 := by decide
  have k576 : (576 : Int32).toInt = 576 := by decide
  have hac : ∀ x ∈ ns, ad x = ad x := fun _ _ => rfl
  have hl : lv_has ls 1 [(0, .ref (ad (b)))] := hl
  refine lv_aload_n hx hb dX8_init_0 rfl (lv_at hl 0 rfl) ?_
  refine m_objI hx hb hml hown hts hl.1 tb_33 tb_26 tb_27 dX8_init_1 (Nat.le_of_ble_eq_true rfl) (Nat.le_of_ble_eq_true rfl) ?_
  refine lv_aload_n hx hb dX8_init_4 rfl (lv_at hl 0 rfl) ?_
  refine lv_sipush (v := (576)) hx hb dX8_init_5 (by decide) ?_
  refine m_newi (b + 1) (t0 := 0) hx hb hts hE hM hS hA (by simp [f0]) (by omega) (kT _ hk).2.1 (by decide) rfl (fun _ _ h => h) tb_121 rfl rfl (by decide) rfl (by decide) (Nat.le_of_ble_eq_true rfl) (Nat.le_of_ble_eq_true rfl) dX8_init_8 (fun H ad1 had hM hS => ?_)
  rw [← had (b) hm] at hl
  rw [← had (b) hm]
  have hac : ∀ x ∈ ns, ad1 x = ad x := fun x hx => (had x hx).trans (hac x hx)
  refine m_putF (b) 10 (b + 1) hx hb hts hown hin hE oc8 hM hS (List.mem_append_left _ hm) (kT _ hk).1 (by decide) rfl (by omega) (List.mem_append_right _ (List.mem_singleton.mpr rfl)) rfl rfl rfl rfl tb_66 dX8_init_10 (fun H locs G3 eG3 hM hS => ?_)
  subst eG3
  refine lv_aload_n hx hb dX8_init_13 rfl (lv_at hl 0 rfl) ?_
  refine lv_sipush (v := (576)) hx hb dX8_init_14 (by decide) ?_
  refine m_newi (b + 2) (t0 := 0) hx hb hts hE hM hS hA (by simp [f1]) (by omega) (kT _ hk).2.2.1 (by decide) rfl (fun _ _ h => h) tb_121 rfl rfl (by decide) rfl (by decide) (Nat.le_of_ble_eq_true rfl) (Nat.le_of_ble_eq_true rfl) dX8_init_17 (fun H ad4 had hM hS => ?_)
  rw [← had (b) (List.mem_append_left _ hm)] at hl
  rw [← had (b) (List.mem_append_left _ hm)]
  have hac : ∀ x ∈ ns, ad4 x = ad x := fun x hx => (had x (List.mem_append_left _ hx)).trans (hac x hx)
  refine m_putF (b) 11 (b + 2) hx hb hts hown hin hE oc8 hM hS (List.mem_append_left _ (List.mem_append_left _ hm)) (kT _ hk).1 (by decide) rfl (by omega) (List.mem_append_right _ (List.mem_singleton.mpr rfl)) rfl rfl rfl rfl tb_68 dX8_init_19 (fun H locs G6 eG6 hM hS => ?_)
  subst eG6
  refine lv_aload_n hx hb dX8_init_22 rfl (lv_at hl 0 rfl) ?_
  refine lv_sipush (v := (576)) hx hb dX8_init_23 (by decide) ?_
  refine m_newi (b + 3) (t0 := 0) hx hb hts hE hM hS hA (by simp [f2]) (by omega) (kT _ hk).2.2.2.1 (by decide) rfl (fun _ _ h => h) tb_121 rfl rfl (by decide) rfl (by decide) (Nat.le_of_ble_eq_true rfl) (Nat.le_of_ble_eq_true rfl) dX8_init_26 (fun H ad7 had hM hS => ?_)
  rw [← had (b) (List.mem_append_left _ (List.mem_append_left _ hm))] at hl
  rw [← had (b) (List.mem_append_left _ (List.mem_append_left _ hm))]
  have hac : ∀ x ∈ ns, ad7 x = ad x := fun x hx => (had x (List.mem_append_left _ (List.mem_append_left _ hx))).trans (hac x hx)
  refine m_putF (b) 12 (b + 3) hx hb hts hown hin hE oc8 hM hS (List.mem_append_left _ (List.mem_append_left _ (List.mem_append_left _ hm))) (kT _ hk).1 (by decide) rfl (by omega) (List.mem_append_right _ (List.mem_singleton.mpr rfl)) rfl rfl rfl rfl tb_71 dX8_init_28 (fun H locs G9 eG9 hM hS => ?_)
  subst eG9
  refine lv_aload_n hx hb dX8_init_31 rfl (lv_at hl 0 rfl) ?_
  refine lv_sipush (v := (576)) hx hb dX8_init_32 (by decide) ?_
  refine m_newi (b + 4) (t0 := 0) hx hb hts hE hM hS hA (by simp [f3]) (by omega) (kT _ hk).2.2.2.2.1 (by decide) rfl (fun _ _ h => h) tb_121 rfl rfl (by decide) rfl (by decide) (Nat.le_of_ble_eq_true rfl) (Nat.le_of_ble_eq_true rfl) dX8_init_35 (fun H ad10 had hM hS => ?_)
  rw [← had (b) (List.mem_append_left _ (List.mem_append_left _ (List.mem_append_left _ hm)))] at hl
  rw [← had (b) (List.mem_append_left _ (List.mem_append_left _ (List.mem_append_left _ hm)))]
  have hac : ∀ x ∈ ns, ad10 x = ad x := fun x hx => (had x (List.mem_append_left _ (List.mem_append_left _ (List.mem_append_left _ hx)))).trans (hac x hx)
  refine m_putF (b) 13 (b + 4) hx hb hts hown hin hE oc8 hM hS (List.mem_append_left _ (List.mem_append_left _ (List.mem_append_left _ (List.mem_append_left _ hm)))) (kT _ hk).1 (by decide) rfl (by omega) (List.mem_append_right _ (List.mem_singleton.mpr rfl)) rfl rfl rfl rfl tb_75 dX8_init_37 (fun H locs G12 eG12 hM hS => ?_)
  subst eG12
  refine lv_aload_n hx hb dX8_init_40 rfl (lv_at hl 0 rfl) ?_
  refine lv_sipush (v := (288)) hx hb dX8_init_41 (by decide) ?_
  refine m_newi (b + 5) (t0 := 0) hx hb hts hE hM hS hA (by simp [f4]) (by omega) (kT _ hk).2.2.2.2.2.1 (by decide) rfl (fun _ _ h => h) tb_121 rfl rfl (by decide) rfl (by decide) (Nat.le_of_ble_eq_true rfl) (Nat.le_of_ble_eq_true rfl) dX8_init_44 (fun H ad13 had hM hS => ?_)
  rw [← had (b) (List.mem_append_left _ (List.mem_append_left _ (List.mem_append_left _ (List.mem_append_left _ hm))))] at hl
  rw [← had (b) (List.mem_append_left _ (List.mem_append_left _ (List.mem_append_left _ (List.mem_append_left _ hm))))]
  have hac : ∀ x ∈ ns, ad13 x = ad x := fun x hx => (had x (List.mem_append_left _ (List.mem_append_left _ (List.mem_append_left _ (List.mem_append_left _ hx))))).trans (hac x hx)
  refine m_putF (b) 14 (b + 5) hx hb hts hown hin hE oc8 hM hS (List.mem_append_left _ (List.mem_append_left _ (List.mem_append_left _ (List.mem_append_left _ (List.mem_append_left _ hm))))) (kT _ hk).1 (by decide) rfl (by omega) (List.mem_append_right _ (List.mem_singleton.mpr rfl)) rfl rfl rfl rfl tb_78 dX8_init_46 (fun H locs G15 eG15 hM hS => ?_)
  subst eG15
  refine lv_aload_n hx hb dX8_init_49 rfl (lv_at hl 0 rfl) ?_
  refine lv_sipush (v := (288)) hx hb dX8_init_50 (by decide) ?_
  refine m_newi (b + 6) (t0 := 0) hx hb hts hE hM hS hA (by simp [f5]) (by omega) (kT _ hk).2.2.2.2.2.2.1 (by decide) rfl (fun _ _ h => h) tb_121 rfl rfl (by decide) rfl (by decide) (Nat.le_of_ble_eq_true rfl) (Nat.le_of_ble_eq_true rfl) dX8_init_53 (fun H ad16 had hM hS => ?_)
  rw [← had (b) (List.mem_append_left _ (List.mem_append_left _ (List.mem_append_left _ (List.mem_append_left _ (List.mem_append_left _ hm)))))] at hl
  rw [← had (b) (List.mem_append_left _ (List.mem_append_left _ (List.mem_append_left _ (List.mem_append_left _ (List.mem_append_left _ hm)))))]
  have hac : ∀ x ∈ ns, ad16 x = ad x := fun x hx => (had x (List.mem_append_left _ (List.mem_append_left _ (List.mem_append_left _ (List.mem_append_left _ (List.mem_append_left _ hx)))))).trans (hac x hx)
  refine m_putF (b) 15 (b + 6) hx hb hts hown hin hE oc8 hM hS (List.mem_append_left _ (List.mem_append_left _ (List.mem_append_left _ (List.mem_append_left _ (List.mem_append_left _ (List.mem_append_left _ hm)))))) (kT _ hk).1 (by decide) rfl (by omega) (List.mem_append_right _ (List.mem_singleton.mpr rfl)) rfl rfl rfl rfl tb_80 dX8_init_55 (fun H locs G18 eG18 hM hS => ?_)
  subst eG18
  refine lv_aload_n hx hb dX8_init_58 rfl (lv_at hl 0 rfl) ?_
  refine lv_sipush (v := (240)) hx hb dX8_init_59 (by decide) ?_
  refine m_newi (b + 7) (t0 := 0) hx hb hts hE hM hS hA (by simp [f6]) (by omega) (kT _ hk).2.2.2.2.2.2.2.1 (by decide) rfl (fun _ _ h => h) tb_121 rfl rfl (by decide) rfl (by decide) (Nat.le_of_ble_eq_true rfl) (Nat.le_of_ble_eq_true rfl) dX8_init_62 (fun H ad19 had hM hS => ?_)
  rw [← had (b) (List.mem_append_left _ (List.mem_append_left _ (List.mem_append_left _ (List.mem_append_left _ (List.mem_append_left _ (List.mem_append_left _ hm))))))] at hl
  rw [← had (b) (List.mem_append_left _ (List.mem_append_left _ (List.mem_append_left _ (List.mem_append_left _ (List.mem_append_left _ (List.mem_append_left _ hm))))))]
  have hac : ∀ x ∈ ns, ad19 x = ad x := fun x hx => (had x (List.mem_append_left _ (List.mem_append_left _ (List.mem_append_left _ (List.mem_append_left _ (List.mem_append_left _ (List.mem_append_left _ hx))))))).trans (hac x hx)
  refine m_putF (b) 16 (b + 7) hx hb hts hown hin hE oc8 hM hS (List.mem_append_left _ (List.mem_append_left _ (List.mem_append_left _ (List.mem_append_left _ (List.mem_append_left _ (List.mem_append_left _ (List.mem_append_left _ hm))))))) (kT _ hk).1 (by decide) rfl (by omega) (List.mem_append_right _ (List.mem_singleton.mpr rfl)) rfl rfl rfl rfl tb_82 dX8_init_64 (fun H locs G21 eG21 hM hS => ?_)
  subst eG21
  refine lv_aload_n hx hb dX8_init_67 rfl (lv_at hl 0 rfl) ?_
  refine lv_bipush (v := (56)) hx hb dX8_init_68 (by decide) ?_
  refine m_newi (b + 8) (t0 := 0) hx hb hts hE hM hS hA (by simp [f7]) (by omega) (kT _ hk).2.2.2.2.2.2.2.2.1 (by decide) rfl (fun _ _ h => h) tb_121 rfl rfl (by decide) rfl (by decide) (Nat.le_of_ble_eq_true rfl) (Nat.le_of_ble_eq_true rfl) dX8_init_70 (fun H ad22 had hM hS => ?_)
  rw [← had (b) (List.mem_append_left _ (List.mem_append_left _ (List.mem_append_left _ (List.mem_append_left _ (List.mem_append_left _ (List.mem_append_left _ (List.mem_append_left _ hm)))))))] at hl
  rw [← had (b) (List.mem_append_left _ (List.mem_append_left _ (List.mem_append_left _ (List.mem_append_left _ (List.mem_append_left _ (List.mem_append_left _ (List.mem_append_left _ hm)))))))]
  have hac : ∀ x ∈ ns, ad22 x = ad x := fun x hx => (had x (List.mem_append_left _ (List.mem_append_left _ (List.mem_append_left _ (List.mem_append_left _ (List.mem_append_left _ (List.mem_append_left _ (List.mem_append_left _ hx)))))))).trans (hac x hx)
  refine m_putF (b) 17 (b + 8) hx hb hts hown hin hE oc8 hM hS (List.mem_append_left _ (List.mem_append_left _ (List.mem_append_left _ (List.mem_append_left _ (List.mem_append_left _ (List.mem_append_left _ (List.mem_append_left _ (List.mem_append_left _ hm)))))))) (kT _ hk).1 (by decide) rfl (by omega) (List.mem_append_right _ (List.mem_singleton.mpr rfl)) rfl rfl rfl rfl tb_83 dX8_init_72 (fun H locs G24 eG24 hM hS => ?_)
  subst eG24
  exact m_vret hx hb hr hlocks hM hS (Nat.le_of_ble_eq_true rfl) (Nat.le_of_ble_eq_true rfl) ⟨_, rfl, hac⟩ dX8_init_75
theorem dX3_init_0 : decode cX3_init 0 = .ok (.aload_n 0, 1) := by decide +kernel
theorem dX3_init_1 : decode cX3_init 1 = .ok (.invokespecial 3, 3) := by decide +kernel
theorem dX3_init_4 : decode cX3_init 4 = .ok (.aload_n 0, 1) := by decide +kernel
theorem dX3_init_5 : decode cX3_init 5 = .ok (.sipush 400, 3) := by decide +kernel
theorem dX3_init_8 : decode cX3_init 8 = .ok (.newarray .int, 2) := by decide +kernel
theorem dX3_init_10 : decode cX3_init 10 = .ok (.putfield 9, 3) := by decide +kernel
theorem dX3_init_13 : decode cX3_init 13 = .ok (.aload_n 0, 1) := by decide +kernel
theorem dX3_init_14 : decode cX3_init 14 = .ok (.bipush 12, 2) := by decide +kernel
theorem dX3_init_16 : decode cX3_init 16 = .ok (.newarray .int, 2) := by decide +kernel
theorem dX3_init_18 : decode cX3_init 18 = .ok (.putfield 15, 3) := by decide +kernel
theorem dX3_init_21 : decode cX3_init 21 = .ok (.aload_n 0, 1) := by decide +kernel
theorem dX3_init_22 : decode cX3_init 22 = .ok (.bipush 12, 2) := by decide +kernel
theorem dX3_init_24 : decode cX3_init 24 = .ok (.newarray .int, 2) := by decide +kernel
theorem dX3_init_26 : decode cX3_init 26 = .ok (.putfield 18, 3) := by decide +kernel
theorem dX3_init_29 : decode cX3_init 29 = .ok (.aload_n 0, 1) := by decide +kernel
theorem dX3_init_30 : decode cX3_init 30 = .ok (.bipush 12, 2) := by decide +kernel
theorem dX3_init_32 : decode cX3_init 32 = .ok (.newarray .int, 2) := by decide +kernel
theorem dX3_init_34 : decode cX3_init 34 = .ok (.putfield 21, 3) := by decide +kernel
theorem dX3_init_37 : decode cX3_init 37 = .ok (.aload_n 0, 1) := by decide +kernel
theorem dX3_init_38 : decode cX3_init 38 = .ok (.bipush 12, 2) := by decide +kernel
theorem dX3_init_40 : decode cX3_init 40 = .ok (.newarray .int, 2) := by decide +kernel
theorem dX3_init_42 : decode cX3_init 42 = .ok (.putfield 24, 3) := by decide +kernel
theorem dX3_init_45 : decode cX3_init 45 = .ok (.return_, 1) := by decide +kernel
theorem ce_X3_init : CeI yX3_init cX3_init 1 0 := ⟨tb_366, tb_10, tb_367, by decide, by decide, by decide, by decide +kernel⟩
set_option maxHeartbeats 4000000 in
set_option maxRecDepth 20000 in
theorem C_X3_init (l : Launch) (D : va_G) (A : Nat → Prop) (ad : Nat → Nat) (ns : List Nat) (I : MI) (L : ML) (G : MG) (b : Nat) (hm : b ∈ ns) (hk : b ∈ lB) (f0 : b + 1 ∉ ns) (f1 : b + 2 ∉ ns) (f2 : b + 3 ∉ ns) (f3 : b + 4 ∉ ns) (f4 : b + 5 ∉ ns) : Met l yX3_init (wd yX3_init cX3_init 1 none) ({ frames := 1, cells := 5, slots := 448, locals := 12 }) (va_Pc [.ref (ad (b))] (PM D A ad ns I L G)) (va_Qv (fun u => ∃ ad2, u = (ad2, (((((ns ++ [b + 1]) ++ [b + 2]) ++ [b + 3]) ++ [b + 4]) ++ [b + 5]), I, L, (u2 (u2 (u2 (u2 (u2 G (b) 0 (b + 1)) (b) 1 (b + 2)) (b) 2 (b + 3)) (b) 3 (b + 4)) (b) 4 (b + 5))) ∧ ∀ x ∈ ns, ad2 x = ad x) (BM D A) A) 5 448 A := by
  refine m_ofW (by decide) (Nat.le_of_ble_eq_true rfl) ?_
  intro p e s m below meth c ls args hC hE hM hA hS hl
  obtain ⟨hx, hb, hml, hown, hts, hr, hlocks, hin⟩ := hC
  have k0 : (0 : Int32).toInt = 0 := by decide
  have k12 : (12 : Int32).toInt = 12 := by decide
  have k400 : (400 : Int32).toInt = 400 := by decide
  have hac : ∀ x ∈ ns, ad x = ad x := fun _ _ => rfl
  have hl : lv_has ls 1 [(0, .ref (ad (b)))] := hl
  refine lv_aload_n hx hb dX3_init_0 rfl (lv_at hl 0 rfl) ?_
  refine m_objI hx hb hml hown hts hl.1 tb_368 tb_26 tb_27 dX3_init_1 (Nat.le_of_ble_eq_true rfl) (Nat.le_of_ble_eq_true rfl) ?_
  refine lv_aload_n hx hb dX3_init_4 rfl (lv_at hl 0 rfl) ?_
  refine lv_sipush (v := (400)) hx hb dX3_init_5 (by decide) ?_
  refine m_newi (b + 1) (t0 := 0) hx hb hts hE hM hS hA (by simp [f0]) (by omega) (kW _ hk).2.1 (by decide) rfl (fun _ _ h => h) tb_121 rfl rfl (by decide) rfl (by decide) (Nat.le_of_ble_eq_true rfl) (Nat.le_of_ble_eq_true rfl) dX3_init_8 (fun H ad1 had hM hS => ?_)
  rw [← had (b) hm] at hl
  rw [← had (b) hm]
  have hac : ∀ x ∈ ns, ad1 x = ad x := fun x hx => (had x hx).trans (hac x hx)
  refine m_putF (b) 0 (b + 1) hx hb hts hown hin hE oc3 hM hS (List.mem_append_left _ hm) (kW _ hk).1 (by decide) rfl (by omega) (List.mem_append_right _ (List.mem_singleton.mpr rfl)) rfl rfl rfl rfl tb_369 dX3_init_10 (fun H locs G3 eG3 hM hS => ?_)
  subst eG3
  refine lv_aload_n hx hb dX3_init_13 rfl (lv_at hl 0 rfl) ?_
  refine lv_bipush (v := (12)) hx hb dX3_init_14 (by decide) ?_
  refine m_newi (b + 2) (t0 := 0) hx hb hts hE hM hS hA (by simp [f1]) (by omega) (kW _ hk).2.2.1 (by decide) rfl (fun _ _ h => h) tb_121 rfl rfl (by decide) rfl (by decide) (Nat.le_of_ble_eq_true rfl) (Nat.le_of_ble_eq_true rfl) dX3_init_16 (fun H ad4 had hM hS => ?_)
  rw [← had (b) (List.mem_append_left _ hm)] at hl
  rw [← had (b) (List.mem_append_left _ hm)]
  have hac : ∀ x ∈ ns, ad4 x = ad x := fun x hx => (had x (List.mem_append_left _ hx)).trans (hac x hx)
  refine m_putF (b) 1 (b + 2) hx hb hts hown hin hE oc3 hM hS (List.mem_append_left _ (List.mem_append_left _ hm)) (kW _ hk).1 (by decide) rfl (by omega) (List.mem_append_right _ (List.mem_singleton.mpr rfl)) rfl rfl rfl rfl tb_371 dX3_init_18 (fun H locs G6 eG6 hM hS => ?_)
  subst eG6
  refine lv_aload_n hx hb dX3_init_21 rfl (lv_at hl 0 rfl) ?_
  refine lv_bipush (v := (12)) hx hb dX3_init_22 (by decide) ?_
  refine m_newi (b + 3) (t0 := 0) hx hb hts hE hM hS hA (by simp [f2]) (by omega) (kW _ hk).2.2.2.1 (by decide) rfl (fun _ _ h => h) tb_121 rfl rfl (by decide) rfl (by decide) (Nat.le_of_ble_eq_true rfl) (Nat.le_of_ble_eq_true rfl) dX3_init_24 (fun H ad7 had hM hS => ?_)
  rw [← had (b) (List.mem_append_left _ (List.mem_append_left _ hm))] at hl
  rw [← had (b) (List.mem_append_left _ (List.mem_append_left _ hm))]
  have hac : ∀ x ∈ ns, ad7 x = ad x := fun x hx => (had x (List.mem_append_left _ (List.mem_append_left _ hx))).trans (hac x hx)
  refine m_putF (b) 2 (b + 3) hx hb hts hown hin hE oc3 hM hS (List.mem_append_left _ (List.mem_append_left _ (List.mem_append_left _ hm))) (kW _ hk).1 (by decide) rfl (by omega) (List.mem_append_right _ (List.mem_singleton.mpr rfl)) rfl rfl rfl rfl tb_373 dX3_init_26 (fun H locs G9 eG9 hM hS => ?_)
  subst eG9
  refine lv_aload_n hx hb dX3_init_29 rfl (lv_at hl 0 rfl) ?_
  refine lv_bipush (v := (12)) hx hb dX3_init_30 (by decide) ?_
  refine m_newi (b + 4) (t0 := 0) hx hb hts hE hM hS hA (by simp [f3]) (by omega) (kW _ hk).2.2.2.2.1 (by decide) rfl (fun _ _ h => h) tb_121 rfl rfl (by decide) rfl (by decide) (Nat.le_of_ble_eq_true rfl) (Nat.le_of_ble_eq_true rfl) dX3_init_32 (fun H ad10 had hM hS => ?_)
  rw [← had (b) (List.mem_append_left _ (List.mem_append_left _ (List.mem_append_left _ hm)))] at hl
  rw [← had (b) (List.mem_append_left _ (List.mem_append_left _ (List.mem_append_left _ hm)))]
  have hac : ∀ x ∈ ns, ad10 x = ad x := fun x hx => (had x (List.mem_append_left _ (List.mem_append_left _ (List.mem_append_left _ hx)))).trans (hac x hx)
  refine m_putF (b) 3 (b + 4) hx hb hts hown hin hE oc3 hM hS (List.mem_append_left _ (List.mem_append_left _ (List.mem_append_left _ (List.mem_append_left _ hm)))) (kW _ hk).1 (by decide) rfl (by omega) (List.mem_append_right _ (List.mem_singleton.mpr rfl)) rfl rfl rfl rfl tb_375 dX3_init_34 (fun H locs G12 eG12 hM hS => ?_)
  subst eG12
  refine lv_aload_n hx hb dX3_init_37 rfl (lv_at hl 0 rfl) ?_
  refine lv_bipush (v := (12)) hx hb dX3_init_38 (by decide) ?_
  refine m_newi (b + 5) (t0 := 0) hx hb hts hE hM hS hA (by simp [f4]) (by omega) (kW _ hk).2.2.2.2.2.1 (by decide) rfl (fun _ _ h => h) tb_121 rfl rfl (by decide) rfl (by decide) (Nat.le_of_ble_eq_true rfl) (Nat.le_of_ble_eq_true rfl) dX3_init_40 (fun H ad13 had hM hS => ?_)
  rw [← had (b) (List.mem_append_left _ (List.mem_append_left _ (List.mem_append_left _ (List.mem_append_left _ hm))))] at hl
  rw [← had (b) (List.mem_append_left _ (List.mem_append_left _ (List.mem_append_left _ (List.mem_append_left _ hm))))]
  have hac : ∀ x ∈ ns, ad13 x = ad x := fun x hx => (had x (List.mem_append_left _ (List.mem_append_left _ (List.mem_append_left _ (List.mem_append_left _ hx))))).trans (hac x hx)
  refine m_putF (b) 4 (b + 5) hx hb hts hown hin hE oc3 hM hS (List.mem_append_left _ (List.mem_append_left _ (List.mem_append_left _ (List.mem_append_left _ (List.mem_append_left _ hm))))) (kW _ hk).1 (by decide) rfl (by omega) (List.mem_append_right _ (List.mem_singleton.mpr rfl)) rfl rfl rfl rfl tb_377 dX3_init_42 (fun H locs G15 eG15 hM hS => ?_)
  subst eG15
  exact m_vret hx hb hr hlocks hM hS (Nat.le_of_ble_eq_true rfl) (Nat.le_of_ble_eq_true rfl) ⟨_, rfl, hac⟩ dX3_init_45
theorem dX1_init_0 : decode cX1_init 0 = .ok (.aload_n 0, 1) := by decide +kernel
theorem dX1_init_1 : decode cX1_init 1 = .ok (.invokespecial 3, 3) := by decide +kernel
theorem dX1_init_4 : decode cX1_init 4 = .ok (.aload_n 0, 1) := by decide +kernel
theorem dX1_init_5 : decode cX1_init 5 = .ok (.bipush 8, 2) := by decide +kernel
theorem dX1_init_7 : decode cX1_init 7 = .ok (.newarray .int, 2) := by decide +kernel
theorem dX1_init_9 : decode cX1_init 9 = .ok (.putfield 9, 3) := by decide +kernel
theorem dX1_init_12 : decode cX1_init 12 = .ok (.aload_n 0, 1) := by decide +kernel
theorem dX1_init_13 : decode cX1_init 13 = .ok (.sipush 576, 3) := by decide +kernel
theorem dX1_init_16 : decode cX1_init 16 = .ok (.newarray .int, 2) := by decide +kernel
theorem dX1_init_18 : decode cX1_init 18 = .ok (.putfield 15, 3) := by decide +kernel
theorem dX1_init_21 : decode cX1_init 21 = .ok (.aload_n 0, 1) := by decide +kernel
theorem dX1_init_22 : decode cX1_init 22 = .ok (.bipush 60, 2) := by decide +kernel
theorem dX1_init_24 : decode cX1_init 24 = .ok (.newarray .int, 2) := by decide +kernel
theorem dX1_init_26 : decode cX1_init 26 = .ok (.putfield 18, 3) := by decide +kernel
theorem dX1_init_29 : decode cX1_init 29 = .ok (.aload_n 0, 1) := by decide +kernel
theorem dX1_init_30 : decode cX1_init 30 = .ok (.bipush 60, 2) := by decide +kernel
theorem dX1_init_32 : decode cX1_init 32 = .ok (.newarray .int, 2) := by decide +kernel
theorem dX1_init_34 : decode cX1_init 34 = .ok (.putfield 21, 3) := by decide +kernel
theorem dX1_init_37 : decode cX1_init 37 = .ok (.return_, 1) := by decide +kernel
theorem ce_X1_init : CeI yX1_init cX1_init 1 0 := ⟨tb_126, tb_3, tb_127, by decide, by decide, by decide, by decide +kernel⟩
set_option maxHeartbeats 4000000 in
set_option maxRecDepth 20000 in
theorem C_X1_init (l : Launch) (D : va_G) (A : Nat → Prop) (ad : Nat → Nat) (ns : List Nat) (I : MI) (L : ML) (G : MG) (hm : 10 ∈ ns) (f0 : 11 ∉ ns) (f1 : 12 ∉ ns) (f2 : 13 ∉ ns) (f3 : 14 ∉ ns) : Met l yX1_init (wd yX1_init cX1_init 1 none) ({ frames := 1, cells := 4, slots := 704, locals := 12 }) (va_Pc [.ref (ad (10))] (PM D A ad ns I L G)) (va_Qv (fun u => ∃ ad2, u = (ad2, ((((ns ++ [11]) ++ [12]) ++ [13]) ++ [14]), I, L, (u2 (u2 (u2 (u2 G (10) 0 (11)) (10) 1 (12)) (10) 9 (13)) (10) 10 (14))) ∧ ∀ x ∈ ns, ad2 x = ad x) (BM D A) A) 4 704 A := by
  refine m_ofW (by decide) (Nat.le_of_ble_eq_true rfl) ?_
  intro p e s m below meth c ls args hC hE hM hA hS hl
  obtain ⟨hx, hb, hml, hown, hts, hr, hlocks, hin⟩ := hC
  have k0 : (0 : Int32).toInt = 0 := by decide
  have k8 : (8 : Int32).toInt = 8 := by decide
  have k60 : (60 : Int32).toInt = 60 := by decide
  have k576 : (576 : Int32).toInt = 576 := by decide
  have hac : ∀ x ∈ ns, ad x = ad x := fun _ _ => rfl
  have hl : lv_has ls 1 [(0, .ref (ad (10)))] := hl
  refine lv_aload_n hx hb dX1_init_0 rfl (lv_at hl 0 rfl) ?_
  refine m_objI hx hb hml hown hts hl.1 tb_128 tb_26 tb_27 dX1_init_1 (Nat.le_of_ble_eq_true rfl) (Nat.le_of_ble_eq_true rfl) ?_
  refine lv_aload_n hx hb dX1_init_4 rfl (lv_at hl 0 rfl) ?_
  refine lv_bipush (v := (8)) hx hb dX1_init_5 (by decide) ?_
  refine m_newi (11) (t0 := 0) hx hb hts hE hM hS hA (by simp [f0]) (by decide) rfl (by decide) rfl (fun _ _ h => h) tb_121 rfl rfl (by decide) rfl (by decide) (Nat.le_of_ble_eq_true rfl) (Nat.le_of_ble_eq_true rfl) dX1_init_7 (fun H ad1 had hM hS => ?_)
  rw [← had (10) hm] at hl
  rw [← had (10) hm]
  have hac : ∀ x ∈ ns, ad1 x = ad x := fun x hx => (had x hx).trans (hac x hx)
  refine m_putF (10) 0 (11) hx hb hts hown hin hE oc1 hM hS (List.mem_append_left _ hm) rfl (by decide) rfl (by decide) (List.mem_append_right _ (List.mem_singleton.mpr rfl)) rfl rfl rfl rfl tb_129 dX1_init_9 (fun H locs G3 eG3 hM hS => ?_)
  subst eG3
  refine lv_aload_n hx hb dX1_init_12 rfl (lv_at hl 0 rfl) ?_
  refine lv_sipush (v := (576)) hx hb dX1_init_13 (by decide) ?_
  refine m_newi (12) (t0 := 0) hx hb hts hE hM hS hA (by simp [f1]) (by decide) rfl (by decide) rfl (fun _ _ h => h) tb_121 rfl rfl (by decide) rfl (by decide) (Nat.le_of_ble_eq_true rfl) (Nat.le_of_ble_eq_true rfl) dX1_init_16 (fun H ad4 had hM hS => ?_)
  rw [← had (10) (List.mem_append_left _ hm)] at hl
  rw [← had (10) (List.mem_append_left _ hm)]
  have hac : ∀ x ∈ ns, ad4 x = ad x := fun x hx => (had x (List.mem_append_left _ hx)).trans (hac x hx)
  refine m_putF (10) 1 (12) hx hb hts hown hin hE oc1 hM hS (List.mem_append_left _ (List.mem_append_left _ hm)) rfl (by decide) rfl (by decide) (List.mem_append_right _ (List.mem_singleton.mpr rfl)) rfl rfl rfl rfl tb_134 dX1_init_18 (fun H locs G6 eG6 hM hS => ?_)
  subst eG6
  refine lv_aload_n hx hb dX1_init_21 rfl (lv_at hl 0 rfl) ?_
  refine lv_bipush (v := (60)) hx hb dX1_init_22 (by decide) ?_
  refine m_newi (13) (t0 := 0) hx hb hts hE hM hS hA (by simp [f2]) (by decide) rfl (by decide) rfl (fun _ _ h => h) tb_121 rfl rfl (by decide) rfl (by decide) (Nat.le_of_ble_eq_true rfl) (Nat.le_of_ble_eq_true rfl) dX1_init_24 (fun H ad7 had hM hS => ?_)
  rw [← had (10) (List.mem_append_left _ (List.mem_append_left _ hm))] at hl
  rw [← had (10) (List.mem_append_left _ (List.mem_append_left _ hm))]
  have hac : ∀ x ∈ ns, ad7 x = ad x := fun x hx => (had x (List.mem_append_left _ (List.mem_append_left _ hx))).trans (hac x hx)
  refine m_putF (10) 9 (13) hx hb hts hown hin hE oc1 hM hS (List.mem_append_left _ (List.mem_append_left _ (List.mem_append_left _ hm))) rfl (by decide) rfl (by decide) (List.mem_append_right _ (List.mem_singleton.mpr rfl)) rfl rfl rfl rfl tb_148 dX1_init_26 (fun H locs G9 eG9 hM hS => ?_)
  subst eG9
  refine lv_aload_n hx hb dX1_init_29 rfl (lv_at hl 0 rfl) ?_
  refine lv_bipush (v := (60)) hx hb dX1_init_30 (by decide) ?_
  refine m_newi (14) (t0 := 0) hx hb hts hE hM hS hA (by simp [f3]) (by decide) rfl (by decide) rfl (fun _ _ h => h) tb_121 rfl rfl (by decide) rfl (by decide) (Nat.le_of_ble_eq_true rfl) (Nat.le_of_ble_eq_true rfl) dX1_init_32 (fun H ad10 had hM hS => ?_)
  rw [← had (10) (List.mem_append_left _ (List.mem_append_left _ (List.mem_append_left _ hm)))] at hl
  rw [← had (10) (List.mem_append_left _ (List.mem_append_left _ (List.mem_append_left _ hm)))]
  have hac : ∀ x ∈ ns, ad10 x = ad x := fun x hx => (had x (List.mem_append_left _ (List.mem_append_left _ (List.mem_append_left _ hx)))).trans (hac x hx)
  refine m_putF (10) 10 (14) hx hb hts hown hin hE oc1 hM hS (List.mem_append_left _ (List.mem_append_left _ (List.mem_append_left _ (List.mem_append_left _ hm)))) rfl (by decide) rfl (by decide) (List.mem_append_right _ (List.mem_singleton.mpr rfl)) rfl rfl rfl rfl tb_149 dX1_init_34 (fun H locs G12 eG12 hM hS => ?_)
  subst eG12
  exact m_vret hx hb hr hlocks hM hS (Nat.le_of_ble_eq_true rfl) (Nat.le_of_ble_eq_true rfl) ⟨_, rfl, hac⟩ dX1_init_37
theorem dX2_init_0 : decode cX2_init 0 = .ok (.aload_n 0, 1) := by decide +kernel
theorem dX2_init_1 : decode cX2_init 1 = .ok (.invokespecial 3, 3) := by decide +kernel
theorem dX2_init_4 : decode cX2_init 4 = .ok (.aload_n 0, 1) := by decide +kernel
theorem dX2_init_5 : decode cX2_init 5 = .ok (.bipush 8, 2) := by decide +kernel
theorem dX2_init_7 : decode cX2_init 7 = .ok (.newarray .int, 2) := by decide +kernel
theorem dX2_init_9 : decode cX2_init 9 = .ok (.putfield 9, 3) := by decide +kernel
theorem dX2_init_12 : decode cX2_init 12 = .ok (.aload_n 0, 1) := by decide +kernel
theorem dX2_init_13 : decode cX2_init 13 = .ok (.bipush 64, 2) := by decide +kernel
theorem dX2_init_15 : decode cX2_init 15 = .ok (.newarray .long, 2) := by decide +kernel
theorem dX2_init_17 : decode cX2_init 17 = .ok (.putfield 15, 3) := by decide +kernel
theorem dX2_init_20 : decode cX2_init 20 = .ok (.aload_n 0, 1) := by decide +kernel
theorem dX2_init_21 : decode cX2_init 21 = .ok (.aload_n 1, 1) := by decide +kernel
theorem dX2_init_22 : decode cX2_init 22 = .ok (.putfield 19, 3) := by decide +kernel
theorem dX2_init_25 : decode cX2_init 25 = .ok (.return_, 1) := by decide +kernel
theorem ce_X2_init : CeI yX2_init cX2_init 2 1 := ⟨tb_182, tb_4, tb_183, by decide, by decide, by decide, by decide +kernel⟩
set_option maxHeartbeats 4000000 in
set_option maxRecDepth 20000 in
theorem C_X2_init (l : Launch) (D : va_G) (A : Nat → Prop) (ad : Nat → Nat) (ns : List Nat) (I : MI) (L : ML) (G : MG) (hm : 20 ∈ ns) (hr0 : 10 ∈ ns) (f0 : 21 ∉ ns) (f1 : 22 ∉ ns) : Met l yX2_init (wd yX2_init cX2_init 2 none) ({ frames := 1, cells := 2, slots := 72, locals := 12 }) (va_Pc [.ref (ad (20)), .ref (ad (10))] (PM D A ad ns I L G)) (va_Qv (fun u => ∃ ad2, u = (ad2, ((ns ++ [21]) ++ [22]), I, L, (u2 (u2 (u2 G (20) 1 (21)) (20) 2 (22)) (20) 0 (10))) ∧ ∀ x ∈ ns, ad2 x = ad x) (BM D A) A) 2 72 A := by
  refine m_ofW (by decide) (Nat.le_of_ble_eq_true rfl) ?_
  intro p e s m below meth c ls args hC hE hM hA hS hl
  obtain ⟨hx, hb, hml, hown, hts, hr, hlocks, hin⟩ := hC
  have k0 : (0 : Int32).toInt = 0 := by decide
  have k8 : (8 : Int32).toInt = 8 := by decide
  have k64 : (64 : Int32).toInt = 64 := by decide
  have hac : ∀ x ∈ ns, ad x = ad x := fun _ _ => rfl
  have hl : lv_has ls 2 [(0, .ref (ad (20))), (1, .ref (ad (10)))] := hl
  refine lv_aload_n hx hb dX2_init_0 rfl (lv_at hl 0 rfl) ?_
  refine m_objI hx hb hml hown hts hl.1 tb_184 tb_26 tb_27 dX2_init_1 (Nat.le_of_ble_eq_true rfl) (Nat.le_of_ble_eq_true rfl) ?_
  refine lv_aload_n hx hb dX2_init_4 rfl (lv_at hl 0 rfl) ?_
  refine lv_bipush (v := (8)) hx hb dX2_init_5 (by decide) ?_
  refine m_newi (21) (t0 := 0) hx hb hts hE hM hS hA (by simp [f0]) (by decide) rfl (by decide) rfl (fun _ _ h => h) tb_121 rfl rfl (by decide) rfl (by decide) (Nat.le_of_ble_eq_true rfl) (Nat.le_of_ble_eq_true rfl) dX2_init_7 (fun H ad1 had hM hS => ?_)
  rw [← had (20) hm] at hl
  rw [← had (10) hr0] at hl
  rw [← had (20) hm]
  have hac : ∀ x ∈ ns, ad1 x = ad x := fun x hx => (had x hx).trans (hac x hx)
  refine m_putF (20) 1 (21) hx hb hts hown hin hE oc2 hM hS (List.mem_append_left _ hm) rfl (by decide) rfl (by decide) (List.mem_append_right _ (List.mem_singleton.mpr rfl)) rfl rfl rfl rfl tb_186 dX2_init_9 (fun H locs G3 eG3 hM hS => ?_)
  subst eG3
  refine lv_aload_n hx hb dX2_init_12 rfl (lv_at hl 0 rfl) ?_
  refine lv_bipush (v := (64)) hx hb dX2_init_13 (by decide) ?_
  refine m_newl (22) hx hb hts hE hM hS hA (by simp [f1]) (by decide) rfl tb_198 (by decide) rfl (by decide) (Nat.le_of_ble_eq_true rfl) (Nat.le_of_ble_eq_true rfl) dX2_init_15 (fun H ad4 had hM hS => ?_)
  rw [← had (20) (List.mem_append_left _ hm)] at hl
  rw [← had (10) (List.mem_append_left _ hr0)] at hl
  rw [← had (20) (List.mem_append_left _ hm)]
  have hac : ∀ x ∈ ns, ad4 x = ad x := fun x hx => (had x (List.mem_append_left _ hx)).trans (hac x hx)
  refine m_putF (20) 2 (22) hx hb hts hown hin hE oc2 hM hS (List.mem_append_left _ (List.mem_append_left _ hm)) rfl (by decide) rfl (by decide) (List.mem_append_right _ (List.mem_singleton.mpr rfl)) rfl rfl rfl rfl tb_187 dX2_init_17 (fun H locs G6 eG6 hM hS => ?_)
  subst eG6
  refine lv_aload_n hx hb dX2_init_20 rfl (lv_at hl 0 rfl) ?_
  refine lv_aload_n hx hb dX2_init_21 rfl (lv_at hl 1 rfl) ?_
  refine m_putF (20) 0 (10) hx hb hts hown hin hE oc2 hM hS (List.mem_append_left _ (List.mem_append_left _ hm)) rfl (by decide) rfl (by decide) (List.mem_append_left _ (List.mem_append_left _ hr0)) rfl rfl rfl rfl tb_185 dX2_init_22 (fun H locs G8 eG8 hM hS => ?_)
  subst eG8
  exact m_vret hx hb hr hlocks hM hS (Nat.le_of_ble_eq_true rfl) (Nat.le_of_ble_eq_true rfl) ⟨_, rfl, hac⟩ dX2_init_25
theorem dX0_init_0 : decode cX0_init 0 = .ok (.aload_n 0, 1) := by decide +kernel
theorem dX0_init_1 : decode cX0_init 1 = .ok (.invokespecial 3, 3) := by decide +kernel
theorem dX0_init_4 : decode cX0_init 4 = .ok (.aload_n 0, 1) := by decide +kernel
theorem dX0_init_5 : decode cX0_init 5 = .ok (.iconst 4, 1) := by decide +kernel
theorem dX0_init_6 : decode cX0_init 6 = .ok (.newarray .int, 2) := by decide +kernel
theorem dX0_init_8 : decode cX0_init 8 = .ok (.putfield 9, 3) := by decide +kernel
theorem dX0_init_11 : decode cX0_init 11 = .ok (.aload_n 0, 1) := by decide +kernel
theorem dX0_init_12 : decode cX0_init 12 = .ok (.iconst 4, 1) := by decide +kernel
theorem dX0_init_13 : decode cX0_init 13 = .ok (.newarray .int, 2) := by decide +kernel
theorem dX0_init_15 : decode cX0_init 15 = .ok (.putfield 15, 3) := by decide +kernel
theorem dX0_init_18 : decode cX0_init 18 = .ok (.aload_n 0, 1) := by decide +kernel
theorem dX0_init_19 : decode cX0_init 19 = .ok (.iconst 4, 1) := by decide +kernel
theorem dX0_init_20 : decode cX0_init 20 = .ok (.newarray .int, 2) := by decide +kernel
theorem dX0_init_22 : decode cX0_init 22 = .ok (.putfield 18, 3) := by decide +kernel
theorem dX0_init_25 : decode cX0_init 25 = .ok (.aload_n 0, 1) := by decide +kernel
theorem dX0_init_26 : decode cX0_init 26 = .ok (.iconst 4, 1) := by decide +kernel
theorem dX0_init_27 : decode cX0_init 27 = .ok (.newarray .int, 2) := by decide +kernel
theorem dX0_init_29 : decode cX0_init 29 = .ok (.putfield 21, 3) := by decide +kernel
theorem dX0_init_32 : decode cX0_init 32 = .ok (.aload_n 0, 1) := by decide +kernel
theorem dX0_init_33 : decode cX0_init 33 = .ok (.aload_n 1, 1) := by decide +kernel
theorem dX0_init_34 : decode cX0_init 34 = .ok (.putfield 24, 3) := by decide +kernel
theorem dX0_init_37 : decode cX0_init 37 = .ok (.return_, 1) := by decide +kernel
theorem ce_X0_init : CeI yX0_init cX0_init 2 1 := ⟨tb_202, tb_5, tb_203, by decide, by decide, by decide, by decide +kernel⟩
set_option maxHeartbeats 4000000 in
set_option maxRecDepth 20000 in
theorem C_X0_init (l : Launch) (D : va_G) (A : Nat → Prop) (ad : Nat → Nat) (ns : List Nat) (I : MI) (L : ML) (G : MG) (hm : 30 ∈ ns) (hr0 : 10 ∈ ns) (f0 : 31 ∉ ns) (f1 : 32 ∉ ns) (f2 : 33 ∉ ns) (f3 : 34 ∉ ns) : Met l yX0_init (wd yX0_init cX0_init 2 none) ({ frames := 1, cells := 4, slots := 16, locals := 12 }) (va_Pc [.ref (ad (30)), .ref (ad (10))] (PM D A ad ns I L G)) (va_Qv (fun u => ∃ ad2, u = (ad2, ((((ns ++ [31]) ++ [32]) ++ [33]) ++ [34]), I, L, (u2 (u2 (u2 (u2 (u2 G (30) 1 (31)) (30) 2 (32)) (30) 3 (33)) (30) 4 (34)) (30) 0 (10))) ∧ ∀ x ∈ ns, ad2 x = ad x) (BM D A) A) 4 16 A := by
  refine m_ofW (by decide) (Nat.le_of_ble_eq_true rfl) ?_
  intro p e s m below meth c ls args hC hE hM hA hS hl
  obtain ⟨hx, hb, hml, hown, hts, hr, hlocks, hin⟩ := hC
  have k0 : (0 : Int32).toInt = 0 := by decide
  have k4 : (4 : Int32).toInt = 4 := by decide
  have hac : ∀ x ∈ ns, ad x = ad x := fun _ _ => rfl
  have hl : lv_has ls 2 [(0, .ref (ad (30))), (1, .ref (ad (10)))] := hl
  refine lv_aload_n hx hb dX0_init_0 rfl (lv_at hl 0 rfl) ?_
  refine m_objI hx hb hml hown hts hl.1 tb_204 tb_26 tb_27 dX0_init_1 (Nat.le_of_ble_eq_true rfl) (Nat.le_of_ble_eq_true rfl) ?_
  refine lv_aload_n hx hb dX0_init_4 rfl (lv_at hl 0 rfl) ?_
  refine lv_iconst (v := (4)) hx hb dX0_init_5 (by decide) ?_
  refine m_newi (31) (t0 := 0) hx hb hts hE hM hS hA (by simp [f0]) (by decide) rfl (by decide) rfl (fun _ _ h => h) tb_121 rfl rfl (by decide) rfl (by decide) (Nat.le_of_ble_eq_true rfl) (Nat.le_of_ble_eq_true rfl) dX0_init_6 (fun H ad1 had hM hS => ?_)
  rw [← had (30) hm] at hl
  rw [← had (10) hr0] at hl
  rw [← had (30) hm]
  have hac : ∀ x ∈ ns, ad1 x = ad x := fun x hx => (had x hx).trans (hac x hx)
  refine m_putF (30) 1 (31) hx hb hts hown hin hE oc0 hM hS (List.mem_append_left _ hm) rfl (by decide) rfl (by decide) (List.mem_append_right _ (List.mem_singleton.mpr rfl)) rfl rfl rfl rfl tb_206 dX0_init_8 (fun H locs G3 eG3 hM hS => ?_)
  subst eG3
  refine lv_aload_n hx hb dX0_init_11 rfl (lv_at hl 0 rfl) ?_
  refine lv_iconst (v := (4)) hx hb dX0_init_12 (by decide) ?_
  refine m_newi (32) (t0 := 0) hx hb hts hE hM hS hA (by simp [f1]) (by decide) rfl (by decide) rfl (fun _ _ h => h) tb_121 rfl rfl (by decide) rfl (by decide) (Nat.le_of_ble_eq_true rfl) (Nat.le_of_ble_eq_true rfl) dX0_init_13 (fun H ad4 had hM hS => ?_)
  rw [← had (30) (List.mem_append_left _ hm)] at hl
  rw [← had (10) (List.mem_append_left _ hr0)] at hl
  rw [← had (30) (List.mem_append_left _ hm)]
  have hac : ∀ x ∈ ns, ad4 x = ad x := fun x hx => (had x (List.mem_append_left _ hx)).trans (hac x hx)
  refine m_putF (30) 2 (32) hx hb hts hown hin hE oc0 hM hS (List.mem_append_left _ (List.mem_append_left _ hm)) rfl (by decide) rfl (by decide) (List.mem_append_right _ (List.mem_singleton.mpr rfl)) rfl rfl rfl rfl tb_207 dX0_init_15 (fun H locs G6 eG6 hM hS => ?_)
  subst eG6
  refine lv_aload_n hx hb dX0_init_18 rfl (lv_at hl 0 rfl) ?_
  refine lv_iconst (v := (4)) hx hb dX0_init_19 (by decide) ?_
  refine m_newi (33) (t0 := 0) hx hb hts hE hM hS hA (by simp [f2]) (by decide) rfl (by decide) rfl (fun _ _ h => h) tb_121 rfl rfl (by decide) rfl (by decide) (Nat.le_of_ble_eq_true rfl) (Nat.le_of_ble_eq_true rfl) dX0_init_20 (fun H ad7 had hM hS => ?_)
  rw [← had (30) (List.mem_append_left _ (List.mem_append_left _ hm))] at hl
  rw [← had (10) (List.mem_append_left _ (List.mem_append_left _ hr0))] at hl
  rw [← had (30) (List.mem_append_left _ (List.mem_append_left _ hm))]
  have hac : ∀ x ∈ ns, ad7 x = ad x := fun x hx => (had x (List.mem_append_left _ (List.mem_append_left _ hx))).trans (hac x hx)
  refine m_putF (30) 3 (33) hx hb hts hown hin hE oc0 hM hS (List.mem_append_left _ (List.mem_append_left _ (List.mem_append_left _ hm))) rfl (by decide) rfl (by decide) (List.mem_append_right _ (List.mem_singleton.mpr rfl)) rfl rfl rfl rfl tb_208 dX0_init_22 (fun H locs G9 eG9 hM hS => ?_)
  subst eG9
  refine lv_aload_n hx hb dX0_init_25 rfl (lv_at hl 0 rfl) ?_
  refine lv_iconst (v := (4)) hx hb dX0_init_26 (by decide) ?_
  refine m_newi (34) (t0 := 0) hx hb hts hE hM hS hA (by simp [f3]) (by decide) rfl (by decide) rfl (fun _ _ h => h) tb_121 rfl rfl (by decide) rfl (by decide) (Nat.le_of_ble_eq_true rfl) (Nat.le_of_ble_eq_true rfl) dX0_init_27 (fun H ad10 had hM hS => ?_)
  rw [← had (30) (List.mem_append_left _ (List.mem_append_left _ (List.mem_append_left _ hm)))] at hl
  rw [← had (10) (List.mem_append_left _ (List.mem_append_left _ (List.mem_append_left _ hr0)))] at hl
  rw [← had (30) (List.mem_append_left _ (List.mem_append_left _ (List.mem_append_left _ hm)))]
  have hac : ∀ x ∈ ns, ad10 x = ad x := fun x hx => (had x (List.mem_append_left _ (List.mem_append_left _ (List.mem_append_left _ hx)))).trans (hac x hx)
  refine m_putF (30) 4 (34) hx hb hts hown hin hE oc0 hM hS (List.mem_append_left _ (List.mem_append_left _ (List.mem_append_left _ (List.mem_append_left _ hm)))) rfl (by decide) rfl (by decide) (List.mem_append_right _ (List.mem_singleton.mpr rfl)) rfl rfl rfl rfl tb_209 dX0_init_29 (fun H locs G12 eG12 hM hS => ?_)
  subst eG12
  refine lv_aload_n hx hb dX0_init_32 rfl (lv_at hl 0 rfl) ?_
  refine lv_aload_n hx hb dX0_init_33 rfl (lv_at hl 1 rfl) ?_
  refine m_putF (30) 0 (10) hx hb hts hown hin hE oc0 hM hS (List.mem_append_left _ (List.mem_append_left _ (List.mem_append_left _ (List.mem_append_left _ hm)))) rfl (by decide) rfl (by decide) (List.mem_append_left _ (List.mem_append_left _ (List.mem_append_left _ (List.mem_append_left _ hr0)))) rfl rfl rfl rfl tb_205 dX0_init_34 (fun H locs G14 eG14 hM hS => ?_)
  subst eG14
  exact m_vret hx hb hr hlocks hM hS (Nat.le_of_ble_eq_true rfl) (Nat.le_of_ble_eq_true rfl) ⟨_, rfl, hac⟩ dX0_init_37
theorem dX5_init_0 : decode cX5_init 0 = .ok (.aload_n 0, 1) := by decide +kernel
theorem dX5_init_1 : decode cX5_init 1 = .ok (.invokespecial 3, 3) := by decide +kernel
theorem dX5_init_4 : decode cX5_init 4 = .ok (.aload_n 0, 1) := by decide +kernel
theorem dX5_init_5 : decode cX5_init 5 = .ok (.iconst 5, 1) := by decide +kernel
theorem dX5_init_6 : decode cX5_init 6 = .ok (.newarray .int, 2) := by decide +kernel
theorem dX5_init_8 : decode cX5_init 8 = .ok (.putfield 11, 3) := by decide +kernel
theorem dX5_init_11 : decode cX5_init 11 = .ok (.aload_n 0, 1) := by decide +kernel
theorem dX5_init_12 : decode cX5_init 12 = .ok (.bipush 8, 2) := by decide +kernel
theorem dX5_init_14 : decode cX5_init 14 = .ok (.newarray .int, 2) := by decide +kernel
theorem dX5_init_16 : decode cX5_init 16 = .ok (.putfield 15, 3) := by decide +kernel
theorem dX5_init_19 : decode cX5_init 19 = .ok (.aload_n 0, 1) := by decide +kernel
theorem dX5_init_20 : decode cX5_init 20 = .ok (.sipush 192, 3) := by decide +kernel
theorem dX5_init_23 : decode cX5_init 23 = .ok (.newarray .int, 2) := by decide +kernel
theorem dX5_init_25 : decode cX5_init 25 = .ok (.putfield 18, 3) := by decide +kernel
theorem dX5_init_28 : decode cX5_init 28 = .ok (.aload_n 0, 1) := by decide +kernel
theorem dX5_init_29 : decode cX5_init 29 = .ok (.aload_n 1, 1) := by decide +kernel
theorem dX5_init_30 : decode cX5_init 30 = .ok (.putfield 21, 3) := by decide +kernel
theorem dX5_init_33 : decode cX5_init 33 = .ok (.aload_n 0, 1) := by decide +kernel
theorem dX5_init_34 : decode cX5_init 34 = .ok (.aload_n 2, 1) := by decide +kernel
theorem dX5_init_35 : decode cX5_init 35 = .ok (.putfield 25, 3) := by decide +kernel
theorem dX5_init_38 : decode cX5_init 38 = .ok (.return_, 1) := by decide +kernel
theorem ce_X5_init : CeI yX5_init cX5_init 3 2 := ⟨tb_230, tb_6, tb_231, by decide, by decide, by decide, by decide +kernel⟩
set_option maxHeartbeats 4000000 in
set_option maxRecDepth 20000 in
theorem C_X5_init (l : Launch) (D : va_G) (A : Nat → Prop) (ad : Nat → Nat) (ns : List Nat) (I : MI) (L : ML) (G : MG) (hm : 40 ∈ ns) (hr0 : 100 ∈ ns) (hr1 : 10 ∈ ns) (f0 : 41 ∉ ns) (f1 : 42 ∉ ns) (f2 : 43 ∉ ns) : Met l yX5_init (wd yX5_init cX5_init 3 none) ({ frames := 1, cells := 3, slots := 205, locals := 12 }) (va_Pc [.ref (ad (40)), .ref (ad (100)), .ref (ad (10))] (PM D A ad ns I L G)) (va_Qv (fun u => ∃ ad2, u = (ad2, (((ns ++ [41]) ++ [42]) ++ [43]), I, L, (u2 (u2 (u2 (u2 (u2 G (40) 0 (41)) (40) 3 (42)) (40) 4 (43)) (40) 1 (100)) (40) 2 (10))) ∧ ∀ x ∈ ns, ad2 x = ad x) (BM D A) A) 3 205 A := by
  refine m_ofW (by decide) (Nat.le_of_ble_eq_true rfl) ?_
  intro p e s m below meth c ls args hC hE hM hA hS hl
  obtain ⟨hx, hb, hml, hown, hts, hr, hlocks, hin⟩ := hC
  have k0 : (0 : Int32).toInt = 0 := by decide
  have k5 : (5 : Int32).toInt = 5 := by decide
  have k8 : (8 : Int32).toInt = 8 := by decide
  have k192 : (192 : Int32).toInt = 192 := by decide
  have hac : ∀ x ∈ ns, ad x = ad x := fun _ _ => rfl
  have hl : lv_has ls 3 [(0, .ref (ad (40))), (1, .ref (ad (100))), (2, .ref (ad (10)))] := hl
  refine lv_aload_n hx hb dX5_init_0 rfl (lv_at hl 0 rfl) ?_
  refine m_objI hx hb hml hown hts hl.1 tb_232 tb_26 tb_27 dX5_init_1 (Nat.le_of_ble_eq_true rfl) (Nat.le_of_ble_eq_true rfl) ?_
  refine lv_aload_n hx hb dX5_init_4 rfl (lv_at hl 0 rfl) ?_
  refine lv_iconst (v := (5)) hx hb dX5_init_5 (by decide) ?_
  refine m_newi (41) (t0 := 0) hx hb hts hE hM hS hA (by simp [f0]) (by decide) rfl (by decide) rfl (fun _ _ h => h) tb_121 rfl rfl (by decide) rfl (by decide) (Nat.le_of_ble_eq_true rfl) (Nat.le_of_ble_eq_true rfl) dX5_init_6 (fun H ad1 had hM hS => ?_)
  rw [← had (40) hm] at hl
  rw [← had (100) hr0] at hl
  rw [← had (10) hr1] at hl
  rw [← had (40) hm]
  have hac : ∀ x ∈ ns, ad1 x = ad x := fun x hx => (had x hx).trans (hac x hx)
  refine m_putF (40) 0 (41) hx hb hts hown hin hE oc5 hM hS (List.mem_append_left _ hm) rfl (by decide) rfl (by decide) (List.mem_append_right _ (List.mem_singleton.mpr rfl)) rfl rfl rfl rfl tb_233 dX5_init_8 (fun H locs G3 eG3 hM hS => ?_)
  subst eG3
  refine lv_aload_n hx hb dX5_init_11 rfl (lv_at hl 0 rfl) ?_
  refine lv_bipush (v := (8)) hx hb dX5_init_12 (by decide) ?_
  refine m_newi (42) (t0 := 0) hx hb hts hE hM hS hA (by simp [f1]) (by decide) rfl (by decide) rfl (fun _ _ h => h) tb_121 rfl rfl (by decide) rfl (by decide) (Nat.le_of_ble_eq_true rfl) (Nat.le_of_ble_eq_true rfl) dX5_init_14 (fun H ad4 had hM hS => ?_)
  rw [← had (40) (List.mem_append_left _ hm)] at hl
  rw [← had (100) (List.mem_append_left _ hr0)] at hl
  rw [← had (10) (List.mem_append_left _ hr1)] at hl
  rw [← had (40) (List.mem_append_left _ hm)]
  have hac : ∀ x ∈ ns, ad4 x = ad x := fun x hx => (had x (List.mem_append_left _ hx)).trans (hac x hx)
  refine m_putF (40) 3 (42) hx hb hts hown hin hE oc5 hM hS (List.mem_append_left _ (List.mem_append_left _ hm)) rfl (by decide) rfl (by decide) (List.mem_append_right _ (List.mem_singleton.mpr rfl)) rfl rfl rfl rfl tb_237 dX5_init_16 (fun H locs G6 eG6 hM hS => ?_)
  subst eG6
  refine lv_aload_n hx hb dX5_init_19 rfl (lv_at hl 0 rfl) ?_
  refine lv_sipush (v := (192)) hx hb dX5_init_20 (by decide) ?_
  refine m_newi (43) (t0 := 0) hx hb hts hE hM hS hA (by simp [f2]) (by decide) rfl (by decide) rfl (fun _ _ h => h) tb_121 rfl rfl (by decide) rfl (by decide) (Nat.le_of_ble_eq_true rfl) (Nat.le_of_ble_eq_true rfl) dX5_init_23 (fun H ad7 had hM hS => ?_)
  rw [← had (40) (List.mem_append_left _ (List.mem_append_left _ hm))] at hl
  rw [← had (100) (List.mem_append_left _ (List.mem_append_left _ hr0))] at hl
  rw [← had (10) (List.mem_append_left _ (List.mem_append_left _ hr1))] at hl
  rw [← had (40) (List.mem_append_left _ (List.mem_append_left _ hm))]
  have hac : ∀ x ∈ ns, ad7 x = ad x := fun x hx => (had x (List.mem_append_left _ (List.mem_append_left _ hx))).trans (hac x hx)
  refine m_putF (40) 4 (43) hx hb hts hown hin hE oc5 hM hS (List.mem_append_left _ (List.mem_append_left _ (List.mem_append_left _ hm))) rfl (by decide) rfl (by decide) (List.mem_append_right _ (List.mem_singleton.mpr rfl)) rfl rfl rfl rfl tb_238 dX5_init_25 (fun H locs G9 eG9 hM hS => ?_)
  subst eG9
  refine lv_aload_n hx hb dX5_init_28 rfl (lv_at hl 0 rfl) ?_
  refine lv_aload_n hx hb dX5_init_29 rfl (lv_at hl 1 rfl) ?_
  refine m_putF (40) 1 (100) hx hb hts hown hin hE oc5 hM hS (List.mem_append_left _ (List.mem_append_left _ (List.mem_append_left _ hm))) rfl (by decide) rfl (by decide) (List.mem_append_left _ (List.mem_append_left _ (List.mem_append_left _ hr0))) rfl rfl rfl rfl tb_235 dX5_init_30 (fun H locs G11 eG11 hM hS => ?_)
  subst eG11
  refine lv_aload_n hx hb dX5_init_33 rfl (lv_at hl 0 rfl) ?_
  refine lv_aload_n hx hb dX5_init_34 rfl (lv_at hl 2 rfl) ?_
  refine m_putF (40) 2 (10) hx hb hts hown hin hE oc5 hM hS (List.mem_append_left _ (List.mem_append_left _ (List.mem_append_left _ hm))) rfl (by decide) rfl (by decide) (List.mem_append_left _ (List.mem_append_left _ (List.mem_append_left _ hr1))) rfl rfl rfl rfl tb_236 dX5_init_35 (fun H locs G13 eG13 hM hS => ?_)
  subst eG13
  exact m_vret hx hb hr hlocks hM hS (Nat.le_of_ble_eq_true rfl) (Nat.le_of_ble_eq_true rfl) ⟨_, rfl, hac⟩ dX5_init_38
theorem dX6_init_0 : decode cX6_init 0 = .ok (.aload_n 0, 1) := by decide +kernel
theorem dX6_init_1 : decode cX6_init 1 = .ok (.invokespecial 3, 3) := by decide +kernel
theorem dX6_init_4 : decode cX6_init 4 = .ok (.aload_n 0, 1) := by decide +kernel
theorem dX6_init_5 : decode cX6_init 5 = .ok (.aload_n 1, 1) := by decide +kernel
theorem dX6_init_6 : decode cX6_init 6 = .ok (.putfield 9, 3) := by decide +kernel
theorem dX6_init_9 : decode cX6_init 9 = .ok (.return_, 1) := by decide +kernel
theorem ce_X6_init : CeI yX6_init cX6_init 2 1 := ⟨tb_265, tb_7, tb_266, by decide, by decide, by decide, by decide +kernel⟩
set_option maxHeartbeats 4000000 in
set_option maxRecDepth 20000 in
theorem C_X6_init (l : Launch) (D : va_G) (A : Nat → Prop) (ad : Nat → Nat) (ns : List Nat) (I : MI) (L : ML) (G : MG) (hm : 50 ∈ ns) (hr0 : 10 ∈ ns) : Met l yX6_init (wd yX6_init cX6_init 2 none) ({ frames := 1, cells := 0, slots := 0, locals := 12 }) (va_Pc [.ref (ad (50)), .ref (ad (10))] (PM D A ad ns I L G)) (va_Qv (fun u => ∃ ad2, u = (ad2, ns, I, L, (u2 G (50) 3 (10))) ∧ ∀ x ∈ ns, ad2 x = ad x) (BM D A) A) 0 0 A := by
  refine m_ofW (by decide) (Nat.le_of_ble_eq_true rfl) ?_
  intro p e s m below meth c ls args hC hE hM hA hS hl
  obtain ⟨hx, hb, hml, hown, hts, hr, hlocks, hin⟩ := hC
  have k0 : (0 : Int32).toInt = 0 := by decide
  have hac : ∀ x ∈ ns, ad x = ad x := fun _ _ => rfl
  have hl : lv_has ls 2 [(0, .ref (ad (50))), (1, .ref (ad (10)))] := hl
  refine lv_aload_n hx hb dX6_init_0 rfl (lv_at hl 0 rfl) ?_
  refine m_objI hx hb hml hown hts hl.1 tb_267 tb_26 tb_27 dX6_init_1 (Nat.le_of_ble_eq_true rfl) (Nat.le_of_ble_eq_true rfl) ?_
  refine lv_aload_n hx hb dX6_init_4 rfl (lv_at hl 0 rfl) ?_
  refine lv_aload_n hx hb dX6_init_5 rfl (lv_at hl 1 rfl) ?_
  refine m_putF (50) 3 (10) hx hb hts hown hin hE oc6 hM hS hm rfl (by decide) rfl (by decide) hr0 rfl rfl rfl rfl tb_274 dX6_init_6 (fun H locs G2 eG2 hM hS => ?_)
  subst eG2
  exact m_vret hx hb hr hlocks hM hS (Nat.le_of_ble_eq_true rfl) (Nat.le_of_ble_eq_true rfl) ⟨_, rfl, hac⟩ dX6_init_9
theorem dX7_init_0 : decode cX7_init 0 = .ok (.aload_n 0, 1) := by decide +kernel
theorem dX7_init_1 : decode cX7_init 1 = .ok (.invokespecial 3, 3) := by decide +kernel
theorem dX7_init_4 : decode cX7_init 4 = .ok (.aload_n 0, 1) := by decide +kernel
theorem dX7_init_5 : decode cX7_init 5 = .ok (.bipush 24, 2) := by decide +kernel
theorem dX7_init_7 : decode cX7_init 7 = .ok (.newarray .int, 2) := by decide +kernel
theorem dX7_init_9 : decode cX7_init 9 = .ok (.putfield 9, 3) := by decide +kernel
theorem dX7_init_12 : decode cX7_init 12 = .ok (.aload_n 0, 1) := by decide +kernel
theorem dX7_init_13 : decode cX7_init 13 = .ok (.bipush 24, 2) := by decide +kernel
theorem dX7_init_15 : decode cX7_init 15 = .ok (.newarray .int, 2) := by decide +kernel
theorem dX7_init_17 : decode cX7_init 17 = .ok (.putfield 15, 3) := by decide +kernel
theorem dX7_init_20 : decode cX7_init 20 = .ok (.return_, 1) := by decide +kernel
theorem ce_X7_init : CeI yX7_init cX7_init 1 0 := ⟨tb_287, tb_8, tb_288, by decide, by decide, by decide, by decide +kernel⟩
set_option maxHeartbeats 4000000 in
set_option maxRecDepth 20000 in
theorem C_X7_init (l : Launch) (D : va_G) (A : Nat → Prop) (ad : Nat → Nat) (ns : List Nat) (I : MI) (L : ML) (G : MG) (hm : 60 ∈ ns) (f0 : 61 ∉ ns) (f1 : 62 ∉ ns) : Met l yX7_init (wd yX7_init cX7_init 1 none) ({ frames := 1, cells := 2, slots := 48, locals := 12 }) (va_Pc [.ref (ad (60))] (PM D A ad ns I L G)) (va_Qv (fun u => ∃ ad2, u = (ad2, ((ns ++ [61]) ++ [62]), I, L, (u2 (u2 G (60) 3 (61)) (60) 4 (62))) ∧ ∀ x ∈ ns, ad2 x = ad x) (BM D A) A) 2 48 A := by
  refine m_ofW (by decide) (Nat.le_of_ble_eq_true rfl) ?_
  intro p e s m below meth c ls args hC hE hM hA hS hl
  obtain ⟨hx, hb, hml, hown, hts, hr, hlocks, hin⟩ := hC
  have k0 : (0 : Int32).toInt = 0 := by decide
  have k24 : (24 : Int32).toInt = 24 := by decide
  have hac : ∀ x ∈ ns, ad x = ad x := fun _ _ => rfl
  have hl : lv_has ls 1 [(0, .ref (ad (60)))] := hl
  refine lv_aload_n hx hb dX7_init_0 rfl (lv_at hl 0 rfl) ?_
  refine m_objI hx hb hml hown hts hl.1 tb_289 tb_26 tb_27 dX7_init_1 (Nat.le_of_ble_eq_true rfl) (Nat.le_of_ble_eq_true rfl) ?_
  refine lv_aload_n hx hb dX7_init_4 rfl (lv_at hl 0 rfl) ?_
  refine lv_bipush (v := (24)) hx hb dX7_init_5 (by decide) ?_
  refine m_newi (61) (t0 := 0) hx hb hts hE hM hS hA (by simp [f0]) (by decide) rfl (by decide) rfl (fun _ _ h => h) tb_121 rfl rfl (by decide) rfl (by decide) (Nat.le_of_ble_eq_true rfl) (Nat.le_of_ble_eq_true rfl) dX7_init_7 (fun H ad1 had hM hS => ?_)
  rw [← had (60) hm] at hl
  rw [← had (60) hm]
  have hac : ∀ x ∈ ns, ad1 x = ad x := fun x hx => (had x hx).trans (hac x hx)
  refine m_putF (60) 3 (61) hx hb hts hown hin hE oc7 hM hS (List.mem_append_left _ hm) rfl (by decide) rfl (by decide) (List.mem_append_right _ (List.mem_singleton.mpr rfl)) rfl rfl rfl rfl tb_296 dX7_init_9 (fun H locs G3 eG3 hM hS => ?_)
  subst eG3
  refine lv_aload_n hx hb dX7_init_12 rfl (lv_at hl 0 rfl) ?_
  refine lv_bipush (v := (24)) hx hb dX7_init_13 (by decide) ?_
  refine m_newi (62) (t0 := 0) hx hb hts hE hM hS hA (by simp [f1]) (by decide) rfl (by decide) rfl (fun _ _ h => h) tb_121 rfl rfl (by decide) rfl (by decide) (Nat.le_of_ble_eq_true rfl) (Nat.le_of_ble_eq_true rfl) dX7_init_15 (fun H ad4 had hM hS => ?_)
  rw [← had (60) (List.mem_append_left _ hm)] at hl
  rw [← had (60) (List.mem_append_left _ hm)]
  have hac : ∀ x ∈ ns, ad4 x = ad x := fun x hx => (had x (List.mem_append_left _ hx)).trans (hac x hx)
  refine m_putF (60) 4 (62) hx hb hts hown hin hE oc7 hM hS (List.mem_append_left _ (List.mem_append_left _ hm)) rfl (by decide) rfl (by decide) (List.mem_append_right _ (List.mem_singleton.mpr rfl)) rfl rfl rfl rfl tb_297 dX7_init_17 (fun H locs G6 eG6 hM hS => ?_)
  subst eG6
  exact m_vret hx hb hr hlocks hM hS (Nat.le_of_ble_eq_true rfl) (Nat.le_of_ble_eq_true rfl) ⟨_, rfl, hac⟩ dX7_init_20
theorem dX4_init_0 : decode cX4_init 0 = .ok (.aload_n 0, 1) := by decide +kernel
theorem dX4_init_1 : decode cX4_init 1 = .ok (.invokespecial 3, 3) := by decide +kernel
theorem dX4_init_4 : decode cX4_init 4 = .ok (.aload_n 0, 1) := by decide +kernel
theorem dX4_init_5 : decode cX4_init 5 = .ok (.sipush 400, 3) := by decide +kernel
theorem dX4_init_8 : decode cX4_init 8 = .ok (.newarray .byte, 2) := by decide +kernel
theorem dX4_init_10 : decode cX4_init 10 = .ok (.putfield 9, 3) := by decide +kernel
theorem dX4_init_13 : decode cX4_init 13 = .ok (.aload_n 0, 1) := by decide +kernel
theorem dX4_init_14 : decode cX4_init 14 = .ok (.bipush 64, 2) := by decide +kernel
theorem dX4_init_16 : decode cX4_init 16 = .ok (.newarray .int, 2) := by decide +kernel
theorem dX4_init_18 : decode cX4_init 18 = .ok (.putfield 15, 3) := by decide +kernel
theorem dX4_init_21 : decode cX4_init 21 = .ok (.return_, 1) := by decide +kernel
theorem ce_X4_init : CeI yX4_init cX4_init 1 0 := ⟨tb_315, tb_9, tb_316, by decide, by decide, by decide, by decide +kernel⟩
set_option maxHeartbeats 4000000 in
set_option maxRecDepth 20000 in
theorem C_X4_init (l : Launch) (D : va_G) (A : Nat → Prop) (ad : Nat → Nat) (ns : List Nat) (I : MI) (L : ML) (G : MG) (hm : 70 ∈ ns) (f0 : 71 ∉ ns) (f1 : 72 ∉ ns) : Met l yX4_init (wd yX4_init cX4_init 1 none) ({ frames := 1, cells := 2, slots := 464, locals := 12 }) (va_Pc [.ref (ad (70))] (PM D A ad ns I L G)) (va_Qv (fun u => ∃ ad2, u = (ad2, ((ns ++ [71]) ++ [72]), I, L, (u2 (u2 G (70) 0 (71)) (70) 1 (72))) ∧ ∀ x ∈ ns, ad2 x = ad x) (BM D A) A) 2 464 A := by
  refine m_ofW (by decide) (Nat.le_of_ble_eq_true rfl) ?_
  intro p e s m below meth c ls args hC hE hM hA hS hl
  obtain ⟨hx, hb, hml, hown, hts, hr, hlocks, hin⟩ := hC
  have k0 : (0 : Int32).toInt = 0 := by decide
  have k64 : (64 : Int32).toInt = 64 := by decide
  have k400 : (400 : Int32).toInt = 400 := by decide
  have hac : ∀ x ∈ ns, ad x = ad x := fun _ _ => rfl
  have hl : lv_has ls 1 [(0, .ref (ad (70)))] := hl
  refine lv_aload_n hx hb dX4_init_0 rfl (lv_at hl 0 rfl) ?_
  refine m_objI hx hb hml hown hts hl.1 tb_317 tb_26 tb_27 dX4_init_1 (Nat.le_of_ble_eq_true rfl) (Nat.le_of_ble_eq_true rfl) ?_
  refine lv_aload_n hx hb dX4_init_4 rfl (lv_at hl 0 rfl) ?_
  refine lv_sipush (v := (400)) hx hb dX4_init_5 (by decide) ?_
  refine m_newi (71) (t0 := 1) hx hb hts hE hM hS hA (by simp [f0]) (by decide) rfl (by decide) rfl (fun _ _ h => h) tb_361 rfl rfl (by decide) rfl (by decide) (Nat.le_of_ble_eq_true rfl) (Nat.le_of_ble_eq_true rfl) dX4_init_8 (fun H ad1 had hM hS => ?_)
  rw [← had (70) hm] at hl
  rw [← had (70) hm]
  have hac : ∀ x ∈ ns, ad1 x = ad x := fun x hx => (had x hx).trans (hac x hx)
  refine m_putF (70) 0 (71) hx hb hts hown hin hE oc4 hM hS (List.mem_append_left _ hm) rfl (by decide) rfl (by decide) (List.mem_append_right _ (List.mem_singleton.mpr rfl)) rfl rfl rfl rfl tb_318 dX4_init_10 (fun H locs G3 eG3 hM hS => ?_)
  subst eG3
  refine lv_aload_n hx hb dX4_init_13 rfl (lv_at hl 0 rfl) ?_
  refine lv_bipush (v := (64)) hx hb dX4_init_14 (by decide) ?_
  refine m_newi (72) (t0 := 0) hx hb hts hE hM hS hA (by simp [f1]) (by decide) rfl (by decide) rfl (fun _ _ h => h) tb_121 rfl rfl (by decide) rfl (by decide) (Nat.le_of_ble_eq_true rfl) (Nat.le_of_ble_eq_true rfl) dX4_init_16 (fun H ad4 had hM hS => ?_)
  rw [← had (70) (List.mem_append_left _ hm)] at hl
  rw [← had (70) (List.mem_append_left _ hm)]
  have hac : ∀ x ∈ ns, ad4 x = ad x := fun x hx => (had x (List.mem_append_left _ hx)).trans (hac x hx)
  refine m_putF (70) 1 (72) hx hb hts hown hin hE oc4 hM hS (List.mem_append_left _ (List.mem_append_left _ hm)) rfl (by decide) rfl (by decide) (List.mem_append_right _ (List.mem_singleton.mpr rfl)) rfl rfl rfl rfl tb_319 dX4_init_18 (fun H locs G6 eG6 hM hS => ?_)
  subst eG6
  exact m_vret hx hb hr hlocks hM hS (Nat.le_of_ble_eq_true rfl) (Nat.le_of_ble_eq_true rfl) ⟨_, rfl, hac⟩ dX4_init_21
theorem dX9_init_0 : decode cX9_init 0 = .ok (.aload_n 0, 1) := by decide +kernel
theorem dX9_init_1 : decode cX9_init 1 = .ok (.invokespecial 1, 3) := by decide +kernel
theorem dX9_init_4 : decode cX9_init 4 = .ok (.aload_n 0, 1) := by decide +kernel
theorem dX9_init_5 : decode cX9_init 5 = .ok (.new 7, 3) := by decide +kernel
theorem dX9_init_8 : decode cX9_init 8 = .ok (.dup, 1) := by decide +kernel
theorem dX9_init_9 : decode cX9_init 9 = .ok (.invokespecial 9, 3) := by decide +kernel
theorem dX9_init_12 : decode cX9_init 12 = .ok (.putfield 10, 3) := by decide +kernel
theorem dX9_init_15 : decode cX9_init 15 = .ok (.aload_n 0, 1) := by decide +kernel
theorem dX9_init_16 : decode cX9_init 16 = .ok (.new 7, 3) := by decide +kernel
theorem dX9_init_19 : decode cX9_init 19 = .ok (.dup, 1) := by decide +kernel
theorem dX9_init_20 : decode cX9_init 20 = .ok (.invokespecial 9, 3) := by decide +kernel
theorem dX9_init_23 : decode cX9_init 23 = .ok (.putfield 16, 3) := by decide +kernel
theorem dX9_init_26 : decode cX9_init 26 = .ok (.aload_n 0, 1) := by decide +kernel
theorem dX9_init_27 : decode cX9_init 27 = .ok (.iconst 4, 1) := by decide +kernel
theorem dX9_init_28 : decode cX9_init 28 = .ok (.anewarray 7, 3) := by decide +kernel
theorem dX9_init_31 : decode cX9_init 31 = .ok (.putfield 19, 3) := by decide +kernel
theorem dX9_init_34 : decode cX9_init 34 = .ok (.aload_n 0, 1) := by decide +kernel
theorem dX9_init_35 : decode cX9_init 35 = .ok (.new 23, 3) := by decide +kernel
theorem dX9_init_38 : decode cX9_init 38 = .ok (.dup, 1) := by decide +kernel
theorem dX9_init_39 : decode cX9_init 39 = .ok (.invokespecial 25, 3) := by decide +kernel
theorem dX9_init_42 : decode cX9_init 42 = .ok (.putfield 26, 3) := by decide +kernel
theorem dX9_init_45 : decode cX9_init 45 = .ok (.aload_n 0, 1) := by decide +kernel
theorem dX9_init_46 : decode cX9_init 46 = .ok (.new 30, 3) := by decide +kernel
theorem dX9_init_49 : decode cX9_init 49 = .ok (.dup, 1) := by decide +kernel
theorem dX9_init_50 : decode cX9_init 50 = .ok (.aload_n 0, 1) := by decide +kernel
theorem dX9_init_51 : decode cX9_init 51 = .ok (.getfield 26, 3) := by decide +kernel
theorem dX9_init_54 : decode cX9_init 54 = .ok (.invokespecial 32, 3) := by decide +kernel
theorem dX9_init_57 : decode cX9_init 57 = .ok (.putfield 35, 3) := by decide +kernel
theorem dX9_init_60 : decode cX9_init 60 = .ok (.aload_n 0, 1) := by decide +kernel
theorem dX9_init_61 : decode cX9_init 61 = .ok (.new 39, 3) := by decide +kernel
theorem dX9_init_64 : decode cX9_init 64 = .ok (.dup, 1) := by decide +kernel
theorem dX9_init_65 : decode cX9_init 65 = .ok (.aload_n 0, 1) := by decide +kernel
theorem dX9_init_66 : decode cX9_init 66 = .ok (.getfield 26, 3) := by decide +kernel
theorem dX9_init_69 : decode cX9_init 69 = .ok (.invokespecial 41, 3) := by decide +kernel
theorem dX9_init_72 : decode cX9_init 72 = .ok (.putfield 42, 3) := by decide +kernel
theorem dX9_init_75 : decode cX9_init 75 = .ok (.aload_n 0, 1) := by decide +kernel
theorem dX9_init_76 : decode cX9_init 76 = .ok (.new 46, 3) := by decide +kernel
theorem dX9_init_79 : decode cX9_init 79 = .ok (.dup, 1) := by decide +kernel
theorem dX9_init_80 : decode cX9_init 80 = .ok (.aload_n 0, 1) := by decide +kernel
theorem dX9_init_81 : decode cX9_init 81 = .ok (.getfield 10, 3) := by decide +kernel
theorem dX9_init_84 : decode cX9_init 84 = .ok (.aload_n 0, 1) := by decide +kernel
theorem dX9_init_85 : decode cX9_init 85 = .ok (.getfield 26, 3) := by decide +kernel
theorem dX9_init_88 : decode cX9_init 88 = .ok (.invokespecial 48, 3) := by decide +kernel
theorem dX9_init_91 : decode cX9_init 91 = .ok (.putfield 51, 3) := by decide +kernel
theorem dX9_init_94 : decode cX9_init 94 = .ok (.aload_n 0, 1) := by decide +kernel
theorem dX9_init_95 : decode cX9_init 95 = .ok (.new 55, 3) := by decide +kernel
theorem dX9_init_98 : decode cX9_init 98 = .ok (.dup, 1) := by decide +kernel
theorem dX9_init_99 : decode cX9_init 99 = .ok (.aload_n 0, 1) := by decide +kernel
theorem dX9_init_100 : decode cX9_init 100 = .ok (.getfield 26, 3) := by decide +kernel
theorem dX9_init_103 : decode cX9_init 103 = .ok (.invokespecial 57, 3) := by decide +kernel
theorem dX9_init_106 : decode cX9_init 106 = .ok (.putfield 58, 3) := by decide +kernel
theorem dX9_init_109 : decode cX9_init 109 = .ok (.aload_n 0, 1) := by decide +kernel
theorem dX9_init_110 : decode cX9_init 110 = .ok (.new 62, 3) := by decide +kernel
theorem dX9_init_113 : decode cX9_init 113 = .ok (.dup, 1) := by decide +kernel
theorem dX9_init_114 : decode cX9_init 114 = .ok (.invokespecial 64, 3) := by decide +kernel
theorem dX9_init_117 : decode cX9_init 117 = .ok (.putfield 65, 3) := by decide +kernel
theorem dX9_init_120 : decode cX9_init 120 = .ok (.aload_n 0, 1) := by decide +kernel
theorem dX9_init_121 : decode cX9_init 121 = .ok (.new 69, 3) := by decide +kernel
theorem dX9_init_124 : decode cX9_init 124 = .ok (.dup, 1) := by decide +kernel
theorem dX9_init_125 : decode cX9_init 125 = .ok (.invokespecial 71, 3) := by decide +kernel
theorem dX9_init_128 : decode cX9_init 128 = .ok (.putfield 72, 3) := by decide +kernel
theorem dX9_init_131 : decode cX9_init 131 = .ok (.aload_n 0, 1) := by decide +kernel
theorem dX9_init_132 : decode cX9_init 132 = .ok (.bipush 6, 2) := by decide +kernel
theorem dX9_init_134 : decode cX9_init 134 = .ok (.anewarray 76, 3) := by decide +kernel
theorem dX9_init_137 : decode cX9_init 137 = .ok (.putfield 78, 3) := by decide +kernel
theorem dX9_init_140 : decode cX9_init 140 = .ok (.aload_n 0, 1) := by decide +kernel
theorem dX9_init_141 : decode cX9_init 141 = .ok (.sipush 400, 3) := by decide +kernel
theorem dX9_init_144 : decode cX9_init 144 = .ok (.newarray .byte, 2) := by decide +kernel
theorem dX9_init_146 : decode cX9_init 146 = .ok (.putfield 82, 3) := by decide +kernel
theorem dX9_init_149 : decode cX9_init 149 = .ok (.aload_n 0, 1) := by decide +kernel
theorem dX9_init_150 : decode cX9_init 150 = .ok (.bipush 8, 2) := by decide +kernel
theorem dX9_init_152 : decode cX9_init 152 = .ok (.newarray .int, 2) := by decide +kernel
theorem dX9_init_154 : decode cX9_init 154 = .ok (.putfield 86, 3) := by decide +kernel
theorem dX9_init_157 : decode cX9_init 157 = .ok (.aload_n 0, 1) := by decide +kernel
theorem dX9_init_158 : decode cX9_init 158 = .ok (.new 76, 3) := by decide +kernel
theorem dX9_init_161 : decode cX9_init 161 = .ok (.dup, 1) := by decide +kernel
theorem dX9_init_162 : decode cX9_init 162 = .ok (.invokespecial 90, 3) := by decide +kernel
theorem dX9_init_165 : decode cX9_init 165 = .ok (.putfield 91, 3) := by decide +kernel
theorem dX9_init_168 : decode cX9_init 168 = .ok (.return_, 1) := by decide +kernel
theorem ce_X9_init : CeI yX9_init cX9_init 1 0 := ⟨tb_23, tb_1, tb_24, by decide, by decide, by decide, by decide +kernel⟩
def nsC0 : List Nat := (((((((((((((((((((((((((((((((((((((((((((((((((((([0] ++ [100]) ++ [100 + 1]) ++ [100 + 2]) ++ [100 + 3]) ++ [100 + 4]) ++ [100 + 5]) ++ [100 + 6]) ++ [100 + 7]) ++ [100 + 8]) ++ [110]) ++ [110 + 1]) ++ [110 + 2]) ++ [110 + 3]) ++ [110 + 4]) ++ [110 + 5]) ++ [110 + 6]) ++ [110 + 7]) ++ [110 + 8]) ++ [1]) ++ [10]) ++ [11]) ++ [12]) ++ [13]) ++ [14]) ++ [20]) ++ [21]) ++ [22]) ++ [30]) ++ [31]) ++ [32]) ++ [33]) ++ [34]) ++ [40]) ++ [41]) ++ [42]) ++ [43]) ++ [50]) ++ [60]) ++ [61]) ++ [62]) ++ [70]) ++ [71]) ++ [72]) ++ [2]) ++ [3]) ++ [4]) ++ [200]) ++ [200 + 1]) ++ [200 + 2]) ++ [200 + 3]) ++ [200 + 4]) ++ [200 + 5])
def gC0 : MG := (u2 (u2 (u2 (u2 (u2 (u2 (u2 (u2 (u2 (u2 (u2 (u2 (u2 (u2 (u2 (u2 (u2 (u2 (u2 (u2 (u2 (u2 (u2 (u2 (u2 (u2 (u2 (u2 (u2 (u2 (u2 (u2 (u2 (u2 (u2 (u2 (u2 (u2 (u2 (u2 (u2 (u2 (u2 (u2 (u2 (u2 (u2 (u2 (u2 (u2 (u2 (u2 (u2 (u2 (u2 (u2 (u2 zG (100) 10 (100 + 1)) (100) 11 (100 + 2)) (100) 12 (100 + 3)) (100) 13 (100 + 4)) (100) 14 (100 + 5)) (100) 15 (100 + 6)) (100) 16 (100 + 7)) (100) 17 (100 + 8)) (0) 0 (100)) (110) 10 (110 + 1)) (110) 11 (110 + 2)) (110) 12 (110 + 3)) (110) 13 (110 + 4)) (110) 14 (110 + 5)) (110) 15 (110 + 6)) (110) 16 (110 + 7)) (110) 17 (110 + 8)) (0) 1 (110)) (0) 2 (1)) (10) 0 (11)) (10) 1 (12)) (10) 9 (13)) (10) 10 (14)) (0) 3 (10)) (20) 1 (21)) (20) 2 (22)) (20) 0 (10)) (0) 4 (20)) (30) 1 (31)) (30) 2 (32)) (30) 3 (33)) (30) 4 (34)) (30) 0 (10)) (0) 5 (30)) (40) 0 (41)) (40) 3 (42)) (40) 4 (43)) (40) 1 (100)) (40) 2 (10)) (0) 6 (40)) (50) 3 (10)) (0) 7 (50)) (60) 3 (61)) (60) 4 (62)) (0) 8 (60)) (70) 0 (71)) (70) 1 (72)) (0) 9 (70)) (0) 10 (2)) (0) 11 (3)) (0) 12 (4)) (200) 0 (200 + 1)) (200) 1 (200 + 2)) (200) 2 (200 + 3)) (200) 3 (200 + 4)) (200) 4 (200 + 5)) (0) 13 (200))
set_option maxHeartbeats 4000000 in
set_option maxRecDepth 20000 in
theorem C_X9_init (l : Launch) (D : va_G) (A : Nat → Prop) (ad : Nat → Nat)  : Met l yX9_init (wd yX9_init cX9_init 1 none) ({ frames := 2, cells := 52, slots := 8827, locals := 34 }) (va_Pc [.ref (ad 0)] (PM D A ad [0] zI zL zG)) (va_Qv (fun u => ∃ ad2, u = (ad2, nsC0, zI, zL, gC0) ∧ ∀ x ∈ [0], ad2 x = ad x) (BM D A) A) 52 8827 A := by
  refine m_ofW (by decide) (Nat.le_of_ble_eq_true rfl) ?_
  intro p e s m below meth c ls args hC hE hM hA hS hl
  obtain ⟨hx, hb, hml, hown, hts, hr, hlocks, hin⟩ := hC
  have k0 : (0 : Int32).toInt = 0 := by decide
  have k4 : (4 : Int32).toInt = 4 := by decide
  have k6 : (6 : Int32).toInt = 6 := by decide
  have k8 : (8 : Int32).toInt = 8 := by decide
  have k400 : (400 : Int32).toInt = 400 := by decide
  have hac : ∀ x ∈ [0], ad x = ad x := fun _ _ => rfl
  have hl : lv_has ls 1 [(0, .ref (ad (0)))] := hl
  refine lv_aload_n hx hb dX9_init_0 rfl (lv_at hl 0 rfl) ?_
  refine m_objI hx hb hml hown hts hl.1 tb_25 tb_26 tb_27 dX9_init_1 (Nat.le_of_ble_eq_true rfl) (Nat.le_of_ble_eq_true rfl) ?_
  refine lv_aload_n hx hb dX9_init_4 rfl (lv_at hl 0 rfl) ?_
  refine m_new (100) hx hb hts hown hE oc8 hM hS hA (by decide) (by decide) rfl df8 tb_28 tb_29 tb_2 (Nat.le_of_ble_eq_true rfl) (Nat.le_of_ble_eq_true rfl) dX9_init_5 (fun H ad1 had hM hS => ?_)
  rw [← had (0) (by decide)] at hl
  rw [← had (0) (by decide)]
  have hac : ∀ x ∈ [0], ad1 x = ad x := fun x hx => (had x (by simp at hx; subst hx; decide)).trans (hac x hx)
  refine lv_dup hx hb dX9_init_8 rfl ?_
  refine m_callv (m_runIN (100) (As := []) (rest := [.ref (ad1 (100)), .ref (ad1 (0))]) hx hb hml hown hts hE hM hS hA ce_X8_init (List.mem_of_getElem? (i := 0) rfl) (C_X8_init l D A ad1 ([0] ++ [100]) zI zL zG (100) (by decide) (by decide) (by decide) (by decide) (by decide) (by decide) (by decide) (by decide) (by decide) (by decide)) rfl rfl ⟨Nat.le_of_ble_eq_true rfl, Nat.le_of_ble_eq_true rfl⟩  rfl hl.1 rfl (Nat.le_of_ble_eq_true rfl) dX9_init_9 ⟨Nat.le_of_ble_eq_true rfl, Nat.le_of_ble_eq_true rfl⟩) hS (fun u H locs hw hM hS => ?_)
  obtain ⟨ad2, rfl, had⟩ := hw
  have hM : Mem D A ad2 ((((((((([0] ++ [100]) ++ [100 + 1]) ++ [100 + 2]) ++ [100 + 3]) ++ [100 + 4]) ++ [100 + 5]) ++ [100 + 6]) ++ [100 + 7]) ++ [100 + 8]) zI zL (u2 (u2 (u2 (u2 (u2 (u2 (u2 (u2 zG (100) 10 (100 + 1)) (100) 11 (100 + 2)) (100) 12 (100 + 3)) (100) 13 (100 + 4)) (100) 14 (100 + 5)) (100) 15 (100 + 6)) (100) 16 (100 + 7)) (100) 17 (100 + 8)) H := hM
  rw [← had (0) (by decide)] at hl
  rw [← had (100) (by decide)]
  rw [← had (0) (by decide)]
  have hac : ∀ x ∈ [0], ad2 x = ad x := fun x hx => (had x (by simp at hx; subst hx; decide)).trans (hac x hx)
  refine m_putF (0) 0 (100) hx hb hts hown hin hE oc9 hM hS (by decide) rfl (by decide) rfl (by decide) (by decide) rfl rfl rfl rfl tb_398 dX9_init_12 (fun H locs G4 eG4 hM hS => ?_)
  subst eG4
  refine lv_aload_n hx hb dX9_init_15 rfl (lv_at hl 0 rfl) ?_
  refine m_new (110) hx hb hts hown hE oc8 hM hS hA (by decide) (by decide) rfl df8 tb_28 tb_29 tb_2 (Nat.le_of_ble_eq_true rfl) (Nat.le_of_ble_eq_true rfl) dX9_init_16 (fun H ad5 had hM hS => ?_)
  rw [← had (0) (by decide)] at hl
  rw [← had (0) (by decide)]
  have hac : ∀ x ∈ [0], ad5 x = ad x := fun x hx => (had x (by simp at hx; subst hx; decide)).trans (hac x hx)
  refine lv_dup hx hb dX9_init_19 rfl ?_
  refine m_callv (m_runIN (110) (As := []) (rest := [.ref (ad5 (110)), .ref (ad5 (0))]) hx hb hml hown hts hE hM hS hA ce_X8_init (List.mem_of_getElem? (i := 0) rfl) (C_X8_init l D A ad5 (((((((((([0] ++ [100]) ++ [100 + 1]) ++ [100 + 2]) ++ [100 + 3]) ++ [100 + 4]) ++ [100 + 5]) ++ [100 + 6]) ++ [100 + 7]) ++ [100 + 8]) ++ [110]) zI zL (u2 (u2 (u2 (u2 (u2 (u2 (u2 (u2 (u2 zG (100) 10 (100 + 1)) (100) 11 (100 + 2)) (100) 12 (100 + 3)) (100) 13 (100 + 4)) (100) 14 (100 + 5)) (100) 15 (100 + 6)) (100) 16 (100 + 7)) (100) 17 (100 + 8)) (0) 0 (100)) (110) (by decide) (by decide) (by decide) (by decide) (by decide) (by decide) (by decide) (by decide) (by decide) (by decide)) rfl rfl ⟨Nat.le_of_ble_eq_true rfl, Nat.le_of_ble_eq_true rfl⟩  rfl hl.1 rfl (Nat.le_of_ble_eq_true rfl) dX9_init_20 ⟨Nat.le_of_ble_eq_true rfl, Nat.le_of_ble_eq_true rfl⟩) hS (fun u H locs hw hM hS => ?_)
  obtain ⟨ad6, rfl, had⟩ := hw
  have hM : Mem D A ad6 (((((((((((((((((([0] ++ [100]) ++ [100 + 1]) ++ [100 + 2]) ++ [100 + 3]) ++ [100 + 4]) ++ [100 + 5]) ++ [100 + 6]) ++ [100 + 7]) ++ [100 + 8]) ++ [110]) ++ [110 + 1]) ++ [110 + 2]) ++ [110 + 3]) ++ [110 + 4]) ++ [110 + 5]) ++ [110 + 6]) ++ [110 + 7]) ++ [110 + 8]) zI zL (u2 (u2 (u2 (u2 (u2 (u2 (u2 (u2 (u2 (u2 (u2 (u2 (u2 (u2 (u2 (u2 (u2 zG (100) 10 (100 + 1)) (100) 11 (100 + 2)) (100) 12 (100 + 3)) (100) 13 (100 + 4)) (100) 14 (100 + 5)) (100) 15 (100 + 6)) (100) 16 (100 + 7)) (100) 17 (100 + 8)) (0) 0 (100)) (110) 10 (110 + 1)) (110) 11 (110 + 2)) (110) 12 (110 + 3)) (110) 13 (110 + 4)) (110) 14 (110 + 5)) (110) 15 (110 + 6)) (110) 16 (110 + 7)) (110) 17 (110 + 8)) H := hM
  rw [← had (0) (by decide)] at hl
  rw [← had (110) (by decide)]
  rw [← had (0) (by decide)]
  have hac : ∀ x ∈ [0], ad6 x = ad x := fun x hx => (had x (by simp at hx; subst hx; decide)).trans (hac x hx)
  refine m_putF (0) 1 (110) hx hb hts hown hin hE oc9 hM hS (by decide) rfl (by decide) rfl (by decide) (by decide) rfl rfl rfl rfl tb_399 dX9_init_23 (fun H locs G8 eG8 hM hS => ?_)
  subst eG8
  refine lv_aload_n hx hb dX9_init_26 rfl (lv_at hl 0 rfl) ?_
  refine lv_iconst (v := (4)) hx hb dX9_init_27 (by decide) ?_
  refine m_newq (1) (t0 := 4) hx hb hts hown hE hM hS hA (by decide) (by decide) rfl (by decide) rfl hE.2.2.1 tb_28 (by decide) rfl (by decide) (Nat.le_of_ble_eq_true rfl) (Nat.le_of_ble_eq_true rfl) dX9_init_28 (fun H ad9 had hM hS => ?_)
  rw [← had (0) (by decide)] at hl
  rw [← had (0) (by decide)]
  have hac : ∀ x ∈ [0], ad9 x = ad x := fun x hx => (had x (by simp at hx; subst hx; decide)).trans (hac x hx)
  refine m_putF (0) 2 (1) hx hb hts hown hin hE oc9 hM hS (by decide) rfl (by decide) rfl (by decide) (by decide) rfl rfl rfl rfl tb_400 dX9_init_31 (fun H locs G11 eG11 hM hS => ?_)
  subst eG11
  refine lv_aload_n hx hb dX9_init_34 rfl (lv_at hl 0 rfl) ?_
  refine m_new (10) hx hb hts hown hE oc1 hM hS hA (by decide) (by decide) rfl df1 tb_123 tb_124 tb_3 (Nat.le_of_ble_eq_true rfl) (Nat.le_of_ble_eq_true rfl) dX9_init_35 (fun H ad12 had hM hS => ?_)
  rw [← had (0) (by decide)] at hl
  rw [← had (0) (by decide)]
  have hac : ∀ x ∈ [0], ad12 x = ad x := fun x hx => (had x (by simp at hx; subst hx; decide)).trans (hac x hx)
  refine lv_dup hx hb dX9_init_38 rfl ?_
  refine m_callv (m_runIN (10) (As := []) (rest := [.ref (ad12 (10)), .ref (ad12 (0))]) hx hb hml hown hts hE hM hS hA ce_X1_init (List.mem_of_getElem? (i := 1) rfl) (C_X1_init l D A ad12 (((((((((((((((((((([0] ++ [100]) ++ [100 + 1]) ++ [100 + 2]) ++ [100 + 3]) ++ [100 + 4]) ++ [100 + 5]) ++ [100 + 6]) ++ [100 + 7]) ++ [100 + 8]) ++ [110]) ++ [110 + 1]) ++ [110 + 2]) ++ [110 + 3]) ++ [110 + 4]) ++ [110 + 5]) ++ [110 + 6]) ++ [110 + 7]) ++ [110 + 8]) ++ [1]) ++ [10]) zI zL (u2 (u2 (u2 (u2 (u2 (u2 (u2 (u2 (u2 (u2 (u2 (u2 (u2 (u2 (u2 (u2 (u2 (u2 (u2 zG (100) 10 (100 + 1)) (100) 11 (100 + 2)) (100) 12 (100 + 3)) (100) 13 (100 + 4)) (100) 14 (100 + 5)) (100) 15 (100 + 6)) (100) 16 (100 + 7)) (100) 17 (100 + 8)) (0) 0 (100)) (110) 10 (110 + 1)) (110) 11 (110 + 2)) (110) 12 (110 + 3)) (110) 13 (110 + 4)) (110) 14 (110 + 5)) (110) 15 (110 + 6)) (110) 16 (110 + 7)) (110) 17 (110 + 8)) (0) 1 (110)) (0) 2 (1)) (by decide) (by decide) (by decide) (by decide) (by decide)) rfl rfl ⟨Nat.le_of_ble_eq_true rfl, Nat.le_of_ble_eq_true rfl⟩  rfl hl.1 rfl (Nat.le_of_ble_eq_true rfl) dX9_init_39 ⟨Nat.le_of_ble_eq_true rfl, Nat.le_of_ble_eq_true rfl⟩) hS (fun u H locs hw hM hS => ?_)
  obtain ⟨ad13, rfl, had⟩ := hw
  have hM : Mem D A ad13 (((((((((((((((((((((((([0] ++ [100]) ++ [100 + 1]) ++ [100 + 2]) ++ [100 + 3]) ++ [100 + 4]) ++ [100 + 5]) ++ [100 + 6]) ++ [100 + 7]) ++ [100 + 8]) ++ [110]) ++ [110 + 1]) ++ [110 + 2]) ++ [110 + 3]) ++ [110 + 4]) ++ [110 + 5]) ++ [110 + 6]) ++ [110 + 7]) ++ [110 + 8]) ++ [1]) ++ [10]) ++ [11]) ++ [12]) ++ [13]) ++ [14]) zI zL (u2 (u2 (u2 (u2 (u2 (u2 (u2 (u2 (u2 (u2 (u2 (u2 (u2 (u2 (u2 (u2 (u2 (u2 (u2 (u2 (u2 (u2 (u2 zG (100) 10 (100 + 1)) (100) 11 (100 + 2)) (100) 12 (100 + 3)) (100) 13 (100 + 4)) (100) 14 (100 + 5)) (100) 15 (100 + 6)) (100) 16 (100 + 7)) (100) 17 (100 + 8)) (0) 0 (100)) (110) 10 (110 + 1)) (110) 11 (110 + 2)) (110) 12 (110 + 3)) (110) 13 (110 + 4)) (110) 14 (110 + 5)) (110) 15 (110 + 6)) (110) 16 (110 + 7)) (110) 17 (110 + 8)) (0) 1 (110)) (0) 2 (1)) (10) 0 (11)) (10) 1 (12)) (10) 9 (13)) (10) 10 (14)) H := hM
  rw [← had (0) (by decide)] at hl
  rw [← had (10) (by decide)]
  rw [← had (0) (by decide)]
  have hac : ∀ x ∈ [0], ad13 x = ad x := fun x hx => (had x (by simp at hx; subst hx; decide)).trans (hac x hx)
  refine m_putF (0) 3 (10) hx hb hts hown hin hE oc9 hM hS (by decide) rfl (by decide) rfl (by decide) (by decide) rfl rfl rfl rfl tb_401 dX9_init_42 (fun H locs G15 eG15 hM hS => ?_)
  subst eG15
  refine lv_aload_n hx hb dX9_init_45 rfl (lv_at hl 0 rfl) ?_
  refine m_new (20) hx hb hts hown hE oc2 hM hS hA (by decide) (by decide) rfl df2 tb_179 tb_180 tb_4 (Nat.le_of_ble_eq_true rfl) (Nat.le_of_ble_eq_true rfl) dX9_init_46 (fun H ad16 had hM hS => ?_)
  rw [← had (0) (by decide)] at hl
  rw [← had (0) (by decide)]
  have hac : ∀ x ∈ [0], ad16 x = ad x := fun x hx => (had x (by simp at hx; subst hx; decide)).trans (hac x hx)
  refine lv_dup hx hb dX9_init_49 rfl ?_
  refine lv_aload_n hx hb dX9_init_50 rfl (lv_at hl 0 rfl) ?_
  refine m_getr (0) 3 (10) hx hb hts hown hE oc9 hM (by decide) rfl (by decide) rfl (by decide) (by decide) tb_401 dX9_init_51 ?_
  refine m_callv (m_runI (20) (As := [.ref (ad16 (10))]) (rest := [.ref (ad16 (20)), .ref (ad16 (0))]) hx hb hml hown hts hE hM hS hA ce_X2_init tb_181 (C_X2_init l D A ad16 ((((((((((((((((((((((((([0] ++ [100]) ++ [100 + 1]) ++ [100 + 2]) ++ [100 + 3]) ++ [100 + 4]) ++ [100 + 5]) ++ [100 + 6]) ++ [100 + 7]) ++ [100 + 8]) ++ [110]) ++ [110 + 1]) ++ [110 + 2]) ++ [110 + 3]) ++ [110 + 4]) ++ [110 + 5]) ++ [110 + 6]) ++ [110 + 7]) ++ [110 + 8]) ++ [1]) ++ [10]) ++ [11]) ++ [12]) ++ [13]) ++ [14]) ++ [20]) zI zL (u2 (u2 (u2 (u2 (u2 (u2 (u2 (u2 (u2 (u2 (u2 (u2 (u2 (u2 (u2 (u2 (u2 (u2 (u2 (u2 (u2 (u2 (u2 (u2 zG (100) 10 (100 + 1)) (100) 11 (100 + 2)) (100) 12 (100 + 3)) (100) 13 (100 + 4)) (100) 14 (100 + 5)) (100) 15 (100 + 6)) (100) 16 (100 + 7)) (100) 17 (100 + 8)) (0) 0 (100)) (110) 10 (110 + 1)) (110) 11 (110 + 2)) (110) 12 (110 + 3)) (110) 13 (110 + 4)) (110) 14 (110 + 5)) (110) 15 (110 + 6)) (110) 16 (110 + 7)) (110) 17 (110 + 8)) (0) 1 (110)) (0) 2 (1)) (10) 0 (11)) (10) 1 (12)) (10) 9 (13)) (10) 10 (14)) (0) 3 (10)) (by decide) (by decide) (by decide) (by decide)) rfl rfl ⟨Nat.le_of_ble_eq_true rfl, Nat.le_of_ble_eq_true rfl⟩  rfl hl.1 rfl (Nat.le_of_ble_eq_true rfl) dX9_init_54 ⟨Nat.le_of_ble_eq_true rfl, Nat.le_of_ble_eq_true rfl⟩) hS (fun u H locs hw hM hS => ?_)
  obtain ⟨ad17, rfl, had⟩ := hw
  have hM : Mem D A ad17 ((((((((((((((((((((((((((([0] ++ [100]) ++ [100 + 1]) ++ [100 + 2]) ++ [100 + 3]) ++ [100 + 4]) ++ [100 + 5]) ++ [100 + 6]) ++ [100 + 7]) ++ [100 + 8]) ++ [110]) ++ [110 + 1]) ++ [110 + 2]) ++ [110 + 3]) ++ [110 + 4]) ++ [110 + 5]) ++ [110 + 6]) ++ [110 + 7]) ++ [110 + 8]) ++ [1]) ++ [10]) ++ [11]) ++ [12]) ++ [13]) ++ [14]) ++ [20]) ++ [21]) ++ [22]) zI zL (u2 (u2 (u2 (u2 (u2 (u2 (u2 (u2 (u2 (u2 (u2 (u2 (u2 (u2 (u2 (u2 (u2 (u2 (u2 (u2 (u2 (u2 (u2 (u2 (u2 (u2 (u2 zG (100) 10 (100 + 1)) (100) 11 (100 + 2)) (100) 12 (100 + 3)) (100) 13 (100 + 4)) (100) 14 (100 + 5)) (100) 15 (100 + 6)) (100) 16 (100 + 7)) (100) 17 (100 + 8)) (0) 0 (100)) (110) 10 (110 + 1)) (110) 11 (110 + 2)) (110) 12 (110 + 3)) (110) 13 (110 + 4)) (110) 14 (110 + 5)) (110) 15 (110 + 6)) (110) 16 (110 + 7)) (110) 17 (110 + 8)) (0) 1 (110)) (0) 2 (1)) (10) 0 (11)) (10) 1 (12)) (10) 9 (13)) (10) 10 (14)) (0) 3 (10)) (20) 1 (21)) (20) 2 (22)) (20) 0 (10)) H := hM
  rw [← had (0) (by decide)] at hl
  rw [← had (20) (by decide)]
  rw [← had (0) (by decide)]
  have hac : ∀ x ∈ [0], ad17 x = ad x := fun x hx => (had x (by simp at hx; subst hx; decide)).trans (hac x hx)
  refine m_putF (0) 4 (20) hx hb hts hown hin hE oc9 hM hS (by decide) rfl (by decide) rfl (by decide) (by decide) rfl rfl rfl rfl tb_402 dX9_init_57 (fun H locs G19 eG19 hM hS => ?_)
  subst eG19
  refine lv_aload_n hx hb dX9_init_60 rfl (lv_at hl 0 rfl) ?_
  refine m_new (30) hx hb hts hown hE oc0 hM hS hA (by decide) (by decide) rfl df0 tb_199 tb_200 tb_5 (Nat.le_of_ble_eq_true rfl) (Nat.le_of_ble_eq_true rfl) dX9_init_61 (fun H ad20 had hM hS => ?_)
  rw [← had (0) (by decide)] at hl
  rw [← had (0) (by decide)]
  have hac : ∀ x ∈ [0], ad20 x = ad x := fun x hx => (had x (by simp at hx; subst hx; decide)).trans (hac x hx)
  refine lv_dup hx hb dX9_init_64 rfl ?_
  refine lv_aload_n hx hb dX9_init_65 rfl (lv_at hl 0 rfl) ?_
  refine m_getr (0) 3 (10) hx hb hts hown hE oc9 hM (by decide) rfl (by decide) rfl (by decide) (by decide) tb_401 dX9_init_66 ?_
  refine m_callv (m_runI (30) (As := [.ref (ad20 (10))]) (rest := [.ref (ad20 (30)), .ref (ad20 (0))]) hx hb hml hown hts hE hM hS hA ce_X0_init tb_201 (C_X0_init l D A ad20 (((((((((((((((((((((((((((([0] ++ [100]) ++ [100 + 1]) ++ [100 + 2]) ++ [100 + 3]) ++ [100 + 4]) ++ [100 + 5]) ++ [100 + 6]) ++ [100 + 7]) ++ [100 + 8]) ++ [110]) ++ [110 + 1]) ++ [110 + 2]) ++ [110 + 3]) ++ [110 + 4]) ++ [110 + 5]) ++ [110 + 6]) ++ [110 + 7]) ++ [110 + 8]) ++ [1]) ++ [10]) ++ [11]) ++ [12]) ++ [13]) ++ [14]) ++ [20]) ++ [21]) ++ [22]) ++ [30]) zI zL (u2 (u2 (u2 (u2 (u2 (u2 (u2 (u2 (u2 (u2 (u2 (u2 (u2 (u2 (u2 (u2 (u2 (u2 (u2 (u2 (u2 (u2 (u2 (u2 (u2 (u2 (u2 (u2 zG (100) 10 (100 + 1)) (100) 11 (100 + 2)) (100) 12 (100 + 3)) (100) 13 (100 + 4)) (100) 14 (100 + 5)) (100) 15 (100 + 6)) (100) 16 (100 + 7)) (100) 17 (100 + 8)) (0) 0 (100)) (110) 10 (110 + 1)) (110) 11 (110 + 2)) (110) 12 (110 + 3)) (110) 13 (110 + 4)) (110) 14 (110 + 5)) (110) 15 (110 + 6)) (110) 16 (110 + 7)) (110) 17 (110 + 8)) (0) 1 (110)) (0) 2 (1)) (10) 0 (11)) (10) 1 (12)) (10) 9 (13)) (10) 10 (14)) (0) 3 (10)) (20) 1 (21)) (20) 2 (22)) (20) 0 (10)) (0) 4 (20)) (by decide) (by decide) (by decide) (by decide) (by decide) (by decide)) rfl rfl ⟨Nat.le_of_ble_eq_true rfl, Nat.le_of_ble_eq_true rfl⟩  rfl hl.1 rfl (Nat.le_of_ble_eq_true rfl) dX9_init_69 ⟨Nat.le_of_ble_eq_true rfl, Nat.le_of_ble_eq_true rfl⟩) hS (fun u H locs hw hM hS => ?_)
  obtain ⟨ad21, rfl, had⟩ := hw
  have hM : Mem D A ad21 (((((((((((((((((((((((((((((((([0] ++ [100]) ++ [100 + 1]) ++ [100 + 2]) ++ [100 + 3]) ++ [100 + 4]) ++ [100 + 5]) ++ [100 + 6]) ++ [100 + 7]) ++ [100 + 8]) ++ [110]) ++ [110 + 1]) ++ [110 + 2]) ++ [110 + 3]) ++ [110 + 4]) ++ [110 + 5]) ++ [110 + 6]) ++ [110 + 7]) ++ [110 + 8]) ++ [1]) ++ [10]) ++ [11]) ++ [12]) ++ [13]) ++ [14]) ++ [20]) ++ [21]) ++ [22]) ++ [30]) ++ [31]) ++ [32]) ++ [33]) ++ [34]) zI zL (u2 (u2 (u2 (u2 (u2 (u2 (u2 (u2 (u2 (u2 (u2 (u2 (u2 (u2 (u2 (u2 (u2 (u2 (u2 (u2 (u2 (u2 (u2 (u2 (u2 (u2 (u2 (u2 (u2 (u2 (u2 (u2 (u2 zG (100) 10 (100 + 1)) (100) 11 (100 + 2)) (100) 12 (100 + 3)) (100) 13 (100 + 4)) (100) 14 (100 + 5)) (100) 15 (100 + 6)) (100) 16 (100 + 7)) (100) 17 (100 + 8)) (0) 0 (100)) (110) 10 (110 + 1)) (110) 11 (110 + 2)) (110) 12 (110 + 3)) (110) 13 (110 + 4)) (110) 14 (110 + 5)) (110) 15 (110 + 6)) (110) 16 (110 + 7)) (110) 17 (110 + 8)) (0) 1 (110)) (0) 2 (1)) (10) 0 (11)) (10) 1 (12)) (10) 9 (13)) (10) 10 (14)) (0) 3 (10)) (20) 1 (21)) (20) 2 (22)) (20) 0 (10)) (0) 4 (20)) (30) 1 (31)) (30) 2 (32)) (30) 3 (33)) (30) 4 (34)) (30) 0 (10)) H := hM
  rw [← had (0) (by decide)] at hl
  rw [← had (30) (by decide)]
  rw [← had (0) (by decide)]
  have hac : ∀ x ∈ [0], ad21 x = ad x := fun x hx => (had x (by simp at hx; subst hx; decide)).trans (hac x hx)
  refine m_putF (0) 5 (30) hx hb hts hown hin hE oc9 hM hS (by decide) rfl (by decide) rfl (by decide) (by decide) rfl rfl rfl rfl tb_403 dX9_init_72 (fun H locs G23 eG23 hM hS => ?_)
  subst eG23
  refine lv_aload_n hx hb dX9_init_75 rfl (lv_at hl 0 rfl) ?_
  refine m_new (40) hx hb hts hown hE oc5 hM hS hA (by decide) (by decide) rfl df5 tb_227 tb_228 tb_6 (Nat.le_of_ble_eq_true rfl) (Nat.le_of_ble_eq_true rfl) dX9_init_76 (fun H ad24 had hM hS => ?_)
  rw [← had (0) (by decide)] at hl
  rw [← had (0) (by decide)]
  have hac : ∀ x ∈ [0], ad24 x = ad x := fun x hx => (had x (by simp at hx; subst hx; decide)).trans (hac x hx)
  refine lv_dup hx hb dX9_init_79 rfl ?_
  refine lv_aload_n hx hb dX9_init_80 rfl (lv_at hl 0 rfl) ?_
  refine m_getr (0) 0 (100) hx hb hts hown hE oc9 hM (by decide) rfl (by decide) rfl (by decide) (by decide) tb_398 dX9_init_81 ?_
  refine lv_aload_n hx hb dX9_init_84 rfl (lv_at hl 0 rfl) ?_
  refine m_getr (0) 3 (10) hx hb hts hown hE oc9 hM (by decide) rfl (by decide) rfl (by decide) (by decide) tb_401 dX9_init_85 ?_
  refine m_callv (m_runI (40) (As := [.ref (ad24 (100)), .ref (ad24 (10))]) (rest := [.ref (ad24 (40)), .ref (ad24 (0))]) hx hb hml hown hts hE hM hS hA ce_X5_init tb_229 (C_X5_init l D A ad24 ((((((((((((((((((((((((((((((((([0] ++ [100]) ++ [100 + 1]) ++ [100 + 2]) ++ [100 + 3]) ++ [100 + 4]) ++ [100 + 5]) ++ [100 + 6]) ++ [100 + 7]) ++ [100 + 8]) ++ [110]) ++ [110 + 1]) ++ [110 + 2]) ++ [110 + 3]) ++ [110 + 4]) ++ [110 + 5]) ++ [110 + 6]) ++ [110 + 7]) ++ [110 + 8]) ++ [1]) ++ [10]) ++ [11]) ++ [12]) ++ [13]) ++ [14]) ++ [20]) ++ [21]) ++ [22]) ++ [30]) ++ [31]) ++ [32]) ++ [33]) ++ [34]) ++ [40]) zI zL (u2 (u2 (u2 (u2 (u2 (u2 (u2 (u2 (u2 (u2 (u2 (u2 (u2 (u2 (u2 (u2 (u2 (u2 (u2 (u2 (u2 (u2 (u2 (u2 (u2 (u2 (u2 (u2 (u2 (u2 (u2 (u2 (u2 (u2 zG (100) 10 (100 + 1)) (100) 11 (100 + 2)) (100) 12 (100 + 3)) (100) 13 (100 + 4)) (100) 14 (100 + 5)) (100) 15 (100 + 6)) (100) 16 (100 + 7)) (100) 17 (100 + 8)) (0) 0 (100)) (110) 10 (110 + 1)) (110) 11 (110 + 2)) (110) 12 (110 + 3)) (110) 13 (110 + 4)) (110) 14 (110 + 5)) (110) 15 (110 + 6)) (110) 16 (110 + 7)) (110) 17 (110 + 8)) (0) 1 (110)) (0) 2 (1)) (10) 0 (11)) (10) 1 (12)) (10) 9 (13)) (10) 10 (14)) (0) 3 (10)) (20) 1 (21)) (20) 2 (22)) (20) 0 (10)) (0) 4 (20)) (30) 1 (31)) (30) 2 (32)) (30) 3 (33)) (30) 4 (34)) (30) 0 (10)) (0) 5 (30)) (by decide) (by decide) (by decide) (by decide) (by decide) (by decide)) rfl rfl ⟨Nat.le_of_ble_eq_true rfl, Nat.le_of_ble_eq_true rfl⟩  rfl hl.1 rfl (Nat.le_of_ble_eq_true rfl) dX9_init_88 ⟨Nat.le_of_ble_eq_true rfl, Nat.le_of_ble_eq_true rfl⟩) hS (fun u H locs hw hM hS => ?_)
  obtain ⟨ad25, rfl, had⟩ := hw
  have hM : Mem D A ad25 (((((((((((((((((((((((((((((((((((([0] ++ [100]) ++ [100 + 1]) ++ [100 + 2]) ++ [100 + 3]) ++ [100 + 4]) ++ [100 + 5]) ++ [100 + 6]) ++ [100 + 7]) ++ [100 + 8]) ++ [110]) ++ [110 + 1]) ++ [110 + 2]) ++ [110 + 3]) ++ [110 + 4]) ++ [110 + 5]) ++ [110 + 6]) ++ [110 + 7]) ++ [110 + 8]) ++ [1]) ++ [10]) ++ [11]) ++ [12]) ++ [13]) ++ [14]) ++ [20]) ++ [21]) ++ [22]) ++ [30]) ++ [31]) ++ [32]) ++ [33]) ++ [34]) ++ [40]) ++ [41]) ++ [42]) ++ [43]) zI zL (u2 (u2 (u2 (u2 (u2 (u2 (u2 (u2 (u2 (u2 (u2 (u2 (u2 (u2 (u2 (u2 (u2 (u2 (u2 (u2 (u2 (u2 (u2 (u2 (u2 (u2 (u2 (u2 (u2 (u2 (u2 (u2 (u2 (u2 (u2 (u2 (u2 (u2 (u2 zG (100) 10 (100 + 1)) (100) 11 (100 + 2)) (100) 12 (100 + 3)) (100) 13 (100 + 4)) (100) 14 (100 + 5)) (100) 15 (100 + 6)) (100) 16 (100 + 7)) (100) 17 (100 + 8)) (0) 0 (100)) (110) 10 (110 + 1)) (110) 11 (110 + 2)) (110) 12 (110 + 3)) (110) 13 (110 + 4)) (110) 14 (110 + 5)) (110) 15 (110 + 6)) (110) 16 (110 + 7)) (110) 17 (110 + 8)) (0) 1 (110)) (0) 2 (1)) (10) 0 (11)) (10) 1 (12)) (10) 9 (13)) (10) 10 (14)) (0) 3 (10)) (20) 1 (21)) (20) 2 (22)) (20) 0 (10)) (0) 4 (20)) (30) 1 (31)) (30) 2 (32)) (30) 3 (33)) (30) 4 (34)) (30) 0 (10)) (0) 5 (30)) (40) 0 (41)) (40) 3 (42)) (40) 4 (43)) (40) 1 (100)) (40) 2 (10)) H := hM
  rw [← had (0) (by decide)] at hl
  rw [← had (40) (by decide)]
  rw [← had (0) (by decide)]
  have hac : ∀ x ∈ [0], ad25 x = ad x := fun x hx => (had x (by simp at hx; subst hx; decide)).trans (hac x hx)
  refine m_putF (0) 6 (40) hx hb hts hown hin hE oc9 hM hS (by decide) rfl (by decide) rfl (by decide) (by decide) rfl rfl rfl rfl tb_404 dX9_init_91 (fun H locs G27 eG27 hM hS => ?_)
  subst eG27
  refine lv_aload_n hx hb dX9_init_94 rfl (lv_at hl 0 rfl) ?_
  refine m_new (50) hx hb hts hown hE oc6 hM hS hA (by decide) (by decide) rfl df6 tb_262 tb_263 tb_7 (Nat.le_of_ble_eq_true rfl) (Nat.le_of_ble_eq_true rfl) dX9_init_95 (fun H ad28 had hM hS => ?_)
  rw [← had (0) (by decide)] at hl
  rw [← had (0) (by decide)]
  have hac : ∀ x ∈ [0], ad28 x = ad x := fun x hx => (had x (by simp at hx; subst hx; decide)).trans (hac x hx)
  refine lv_dup hx hb dX9_init_98 rfl ?_
  refine lv_aload_n hx hb dX9_init_99 rfl (lv_at hl 0 rfl) ?_
  refine m_getr (0) 3 (10) hx hb hts hown hE oc9 hM (by decide) rfl (by decide) rfl (by decide) (by decide) tb_401 dX9_init_100 ?_
  refine m_callv (m_runI (50) (As := [.ref (ad28 (10))]) (rest := [.ref (ad28 (50)), .ref (ad28 (0))]) hx hb hml hown hts hE hM hS hA ce_X6_init tb_264 (C_X6_init l D A ad28 ((((((((((((((((((((((((((((((((((((([0] ++ [100]) ++ [100 + 1]) ++ [100 + 2]) ++ [100 + 3]) ++ [100 + 4]) ++ [100 + 5]) ++ [100 + 6]) ++ [100 + 7]) ++ [100 + 8]) ++ [110]) ++ [110 + 1]) ++ [110 + 2]) ++ [110 + 3]) ++ [110 + 4]) ++ [110 + 5]) ++ [110 + 6]) ++ [110 + 7]) ++ [110 + 8]) ++ [1]) ++ [10]) ++ [11]) ++ [12]) ++ [13]) ++ [14]) ++ [20]) ++ [21]) ++ [22]) ++ [30]) ++ [31]) ++ [32]) ++ [33]) ++ [34]) ++ [40]) ++ [41]) ++ [42]) ++ [43]) ++ [50]) zI zL (u2 (u2 (u2 (u2 (u2 (u2 (u2 (u2 (u2 (u2 (u2 (u2 (u2 (u2 (u2 (u2 (u2 (u2 (u2 (u2 (u2 (u2 (u2 (u2 (u2 (u2 (u2 (u2 (u2 (u2 (u2 (u2 (u2 (u2 (u2 (u2 (u2 (u2 (u2 (u2 zG (100) 10 (100 + 1)) (100) 11 (100 + 2)) (100) 12 (100 + 3)) (100) 13 (100 + 4)) (100) 14 (100 + 5)) (100) 15 (100 + 6)) (100) 16 (100 + 7)) (100) 17 (100 + 8)) (0) 0 (100)) (110) 10 (110 + 1)) (110) 11 (110 + 2)) (110) 12 (110 + 3)) (110) 13 (110 + 4)) (110) 14 (110 + 5)) (110) 15 (110 + 6)) (110) 16 (110 + 7)) (110) 17 (110 + 8)) (0) 1 (110)) (0) 2 (1)) (10) 0 (11)) (10) 1 (12)) (10) 9 (13)) (10) 10 (14)) (0) 3 (10)) (20) 1 (21)) (20) 2 (22)) (20) 0 (10)) (0) 4 (20)) (30) 1 (31)) (30) 2 (32)) (30) 3 (33)) (30) 4 (34)) (30) 0 (10)) (0) 5 (30)) (40) 0 (41)) (40) 3 (42)) (40) 4 (43)) (40) 1 (100)) (40) 2 (10)) (0) 6 (40)) (by decide) (by decide)) rfl rfl ⟨Nat.le_of_ble_eq_true rfl, Nat.le_of_ble_eq_true rfl⟩  rfl hl.1 rfl (Nat.le_of_ble_eq_true rfl) dX9_init_103 ⟨Nat.le_of_ble_eq_true rfl, Nat.le_of_ble_eq_true rfl⟩) hS (fun u H locs hw hM hS => ?_)
  obtain ⟨ad29, rfl, had⟩ := hw
  have hM : Mem D A ad29 ((((((((((((((((((((((((((((((((((((([0] ++ [100]) ++ [100 + 1]) ++ [100 + 2]) ++ [100 + 3]) ++ [100 + 4]) ++ [100 + 5]) ++ [100 + 6]) ++ [100 + 7]) ++ [100 + 8]) ++ [110]) ++ [110 + 1]) ++ [110 + 2]) ++ [110 + 3]) ++ [110 + 4]) ++ [110 + 5]) ++ [110 + 6]) ++ [110 + 7]) ++ [110 + 8]) ++ [1]) ++ [10]) ++ [11]) ++ [12]) ++ [13]) ++ [14]) ++ [20]) ++ [21]) ++ [22]) ++ [30]) ++ [31]) ++ [32]) ++ [33]) ++ [34]) ++ [40]) ++ [41]) ++ [42]) ++ [43]) ++ [50]) zI zL (u2 (u2 (u2 (u2 (u2 (u2 (u2 (u2 (u2 (u2 (u2 (u2 (u2 (u2 (u2 (u2 (u2 (u2 (u2 (u2 (u2 (u2 (u2 (u2 (u2 (u2 (u2 (u2 (u2 (u2 (u2 (u2 (u2 (u2 (u2 (u2 (u2 (u2 (u2 (u2 (u2 zG (100) 10 (100 + 1)) (100) 11 (100 + 2)) (100) 12 (100 + 3)) (100) 13 (100 + 4)) (100) 14 (100 + 5)) (100) 15 (100 + 6)) (100) 16 (100 + 7)) (100) 17 (100 + 8)) (0) 0 (100)) (110) 10 (110 + 1)) (110) 11 (110 + 2)) (110) 12 (110 + 3)) (110) 13 (110 + 4)) (110) 14 (110 + 5)) (110) 15 (110 + 6)) (110) 16 (110 + 7)) (110) 17 (110 + 8)) (0) 1 (110)) (0) 2 (1)) (10) 0 (11)) (10) 1 (12)) (10) 9 (13)) (10) 10 (14)) (0) 3 (10)) (20) 1 (21)) (20) 2 (22)) (20) 0 (10)) (0) 4 (20)) (30) 1 (31)) (30) 2 (32)) (30) 3 (33)) (30) 4 (34)) (30) 0 (10)) (0) 5 (30)) (40) 0 (41)) (40) 3 (42)) (40) 4 (43)) (40) 1 (100)) (40) 2 (10)) (0) 6 (40)) (50) 3 (10)) H := hM
  rw [← had (0) (by decide)] at hl
  rw [← had (50) (by decide)]
  rw [← had (0) (by decide)]
  have hac : ∀ x ∈ [0], ad29 x = ad x := fun x hx => (had x (by simp at hx; subst hx; decide)).trans (hac x hx)
  refine m_putF (0) 7 (50) hx hb hts hown hin hE oc9 hM hS (by decide) rfl (by decide) rfl (by decide) (by decide) rfl rfl rfl rfl tb_405 dX9_init_106 (fun H locs G31 eG31 hM hS => ?_)
  subst eG31
  refine lv_aload_n hx hb dX9_init_109 rfl (lv_at hl 0 rfl) ?_
  refine m_new (60) hx hb hts hown hE oc7 hM hS hA (by decide) (by decide) rfl df7 tb_284 tb_285 tb_8 (Nat.le_of_ble_eq_true rfl) (Nat.le_of_ble_eq_true rfl) dX9_init_110 (fun H ad32 had hM hS => ?_)
  rw [← had (0) (by decide)] at hl
  rw [← had (0) (by decide)]
  have hac : ∀ x ∈ [0], ad32 x = ad x := fun x hx => (had x (by simp at hx; subst hx; decide)).trans (hac x hx)
  refine lv_dup hx hb dX9_init_113 rfl ?_
  refine m_callv (m_runIN (60) (As := []) (rest := [.ref (ad32 (60)), .ref (ad32 (0))]) hx hb hml hown hts hE hM hS hA ce_X7_init (List.mem_of_getElem? (i := 2) rfl) (C_X7_init l D A ad32 (((((((((((((((((((((((((((((((((((((([0] ++ [100]) ++ [100 + 1]) ++ [100 + 2]) ++ [100 + 3]) ++ [100 + 4]) ++ [100 + 5]) ++ [100 + 6]) ++ [100 + 7]) ++ [100 + 8]) ++ [110]) ++ [110 + 1]) ++ [110 + 2]) ++ [110 + 3]) ++ [110 + 4]) ++ [110 + 5]) ++ [110 + 6]) ++ [110 + 7]) ++ [110 + 8]) ++ [1]) ++ [10]) ++ [11]) ++ [12]) ++ [13]) ++ [14]) ++ [20]) ++ [21]) ++ [22]) ++ [30]) ++ [31]) ++ [32]) ++ [33]) ++ [34]) ++ [40]) ++ [41]) ++ [42]) ++ [43]) ++ [50]) ++ [60]) zI zL (u2 (u2 (u2 (u2 (u2 (u2 (u2 (u2 (u2 (u2 (u2 (u2 (u2 (u2 (u2 (u2 (u2 (u2 (u2 (u2 (u2 (u2 (u2 (u2 (u2 (u2 (u2 (u2 (u2 (u2 (u2 (u2 (u2 (u2 (u2 (u2 (u2 (u2 (u2 (u2 (u2 (u2 zG (100) 10 (100 + 1)) (100) 11 (100 + 2)) (100) 12 (100 + 3)) (100) 13 (100 + 4)) (100) 14 (100 + 5)) (100) 15 (100 + 6)) (100) 16 (100 + 7)) (100) 17 (100 + 8)) (0) 0 (100)) (110) 10 (110 + 1)) (110) 11 (110 + 2)) (110) 12 (110 + 3)) (110) 13 (110 + 4)) (110) 14 (110 + 5)) (110) 15 (110 + 6)) (110) 16 (110 + 7)) (110) 17 (110 + 8)) (0) 1 (110)) (0) 2 (1)) (10) 0 (11)) (10) 1 (12)) (10) 9 (13)) (10) 10 (14)) (0) 3 (10)) (20) 1 (21)) (20) 2 (22)) (20) 0 (10)) (0) 4 (20)) (30) 1 (31)) (30) 2 (32)) (30) 3 (33)) (30) 4 (34)) (30) 0 (10)) (0) 5 (30)) (40) 0 (41)) (40) 3 (42)) (40) 4 (43)) (40) 1 (100)) (40) 2 (10)) (0) 6 (40)) (50) 3 (10)) (0) 7 (50)) (by decide) (by decide) (by decide)) rfl rfl ⟨Nat.le_of_ble_eq_true rfl, Nat.le_of_ble_eq_true rfl⟩  rfl hl.1 rfl (Nat.le_of_ble_eq_true rfl) dX9_init_114 ⟨Nat.le_of_ble_eq_true rfl, Nat.le_of_ble_eq_true rfl⟩) hS (fun u H locs hw hM hS => ?_)
  obtain ⟨ad33, rfl, had⟩ := hw
  have hM : Mem D A ad33 (((((((((((((((((((((((((((((((((((((((([0] ++ [100]) ++ [100 + 1]) ++ [100 + 2]) ++ [100 + 3]) ++ [100 + 4]) ++ [100 + 5]) ++ [100 + 6]) ++ [100 + 7]) ++ [100 + 8]) ++ [110]) ++ [110 + 1]) ++ [110 + 2]) ++ [110 + 3]) ++ [110 + 4]) ++ [110 + 5]) ++ [110 + 6]) ++ [110 + 7]) ++ [110 + 8]) ++ [1]) ++ [10]) ++ [11]) ++ [12]) ++ [13]) ++ [14]) ++ [20]) ++ [21]) ++ [22]) ++ [30]) ++ [31]) ++ [32]) ++ [33]) ++ [34]) ++ [40]) ++ [41]) ++ [42]) ++ [43]) ++ [50]) ++ [60]) ++ [61]) ++ [62]) zI zL (u2 (u2 (u2 (u2 (u2 (u2 (u2 (u2 (u2 (u2 (u2 (u2 (u2 (u2 (u2 (u2 (u2 (u2 (u2 (u2 (u2 (u2 (u2 (u2 (u2 (u2 (u2 (u2 (u2 (u2 (u2 (u2 (u2 (u2 (u2 (u2 (u2 (u2 (u2 (u2 (u2 (u2 (u2 (u2 zG (100) 10 (100 + 1)) (100) 11 (100 + 2)) (100) 12 (100 + 3)) (100) 13 (100 + 4)) (100) 14 (100 + 5)) (100) 15 (100 + 6)) (100) 16 (100 + 7)) (100) 17 (100 + 8)) (0) 0 (100)) (110) 10 (110 + 1)) (110) 11 (110 + 2)) (110) 12 (110 + 3)) (110) 13 (110 + 4)) (110) 14 (110 + 5)) (110) 15 (110 + 6)) (110) 16 (110 + 7)) (110) 17 (110 + 8)) (0) 1 (110)) (0) 2 (1)) (10) 0 (11)) (10) 1 (12)) (10) 9 (13)) (10) 10 (14)) (0) 3 (10)) (20) 1 (21)) (20) 2 (22)) (20) 0 (10)) (0) 4 (20)) (30) 1 (31)) (30) 2 (32)) (30) 3 (33)) (30) 4 (34)) (30) 0 (10)) (0) 5 (30)) (40) 0 (41)) (40) 3 (42)) (40) 4 (43)) (40) 1 (100)) (40) 2 (10)) (0) 6 (40)) (50) 3 (10)) (0) 7 (50)) (60) 3 (61)) (60) 4 (62)) H := hM
  rw [← had (0) (by decide)] at hl
  rw [← had (60) (by decide)]
  rw [← had (0) (by decide)]
  have hac : ∀ x ∈ [0], ad33 x = ad x := fun x hx => (had x (by simp at hx; subst hx; decide)).trans (hac x hx)
  refine m_putF (0) 8 (60) hx hb hts hown hin hE oc9 hM hS (by decide) rfl (by decide) rfl (by decide) (by decide) rfl rfl rfl rfl tb_406 dX9_init_117 (fun H locs G35 eG35 hM hS => ?_)
  subst eG35
  refine lv_aload_n hx hb dX9_init_120 rfl (lv_at hl 0 rfl) ?_
  refine m_new (70) hx hb hts hown hE oc4 hM hS hA (by decide) (by decide) rfl df4 tb_312 tb_313 tb_9 (Nat.le_of_ble_eq_true rfl) (Nat.le_of_ble_eq_true rfl) dX9_init_121 (fun H ad36 had hM hS => ?_)
  rw [← had (0) (by decide)] at hl
  rw [← had (0) (by decide)]
  have hac : ∀ x ∈ [0], ad36 x = ad x := fun x hx => (had x (by simp at hx; subst hx; decide)).trans (hac x hx)
  refine lv_dup hx hb dX9_init_124 rfl ?_
  refine m_callv (m_runIN (70) (As := []) (rest := [.ref (ad36 (70)), .ref (ad36 (0))]) hx hb hml hown hts hE hM hS hA ce_X4_init (List.mem_of_getElem? (i := 3) rfl) (C_X4_init l D A ad36 ((((((((((((((((((((((((((((((((((((((((([0] ++ [100]) ++ [100 + 1]) ++ [100 + 2]) ++ [100 + 3]) ++ [100 + 4]) ++ [100 + 5]) ++ [100 + 6]) ++ [100 + 7]) ++ [100 + 8]) ++ [110]) ++ [110 + 1]) ++ [110 + 2]) ++ [110 + 3]) ++ [110 + 4]) ++ [110 + 5]) ++ [110 + 6]) ++ [110 + 7]) ++ [110 + 8]) ++ [1]) ++ [10]) ++ [11]) ++ [12]) ++ [13]) ++ [14]) ++ [20]) ++ [21]) ++ [22]) ++ [30]) ++ [31]) ++ [32]) ++ [33]) ++ [34]) ++ [40]) ++ [41]) ++ [42]) ++ [43]) ++ [50]) ++ [60]) ++ [61]) ++ [62]) ++ [70]) zI zL (u2 (u2 (u2 (u2 (u2 (u2 (u2 (u2 (u2 (u2 (u2 (u2 (u2 (u2 (u2 (u2 (u2 (u2 (u2 (u2 (u2 (u2 (u2 (u2 (u2 (u2 (u2 (u2 (u2 (u2 (u2 (u2 (u2 (u2 (u2 (u2 (u2 (u2 (u2 (u2 (u2 (u2 (u2 (u2 (u2 zG (100) 10 (100 + 1)) (100) 11 (100 + 2)) (100) 12 (100 + 3)) (100) 13 (100 + 4)) (100) 14 (100 + 5)) (100) 15 (100 + 6)) (100) 16 (100 + 7)) (100) 17 (100 + 8)) (0) 0 (100)) (110) 10 (110 + 1)) (110) 11 (110 + 2)) (110) 12 (110 + 3)) (110) 13 (110 + 4)) (110) 14 (110 + 5)) (110) 15 (110 + 6)) (110) 16 (110 + 7)) (110) 17 (110 + 8)) (0) 1 (110)) (0) 2 (1)) (10) 0 (11)) (10) 1 (12)) (10) 9 (13)) (10) 10 (14)) (0) 3 (10)) (20) 1 (21)) (20) 2 (22)) (20) 0 (10)) (0) 4 (20)) (30) 1 (31)) (30) 2 (32)) (30) 3 (33)) (30) 4 (34)) (30) 0 (10)) (0) 5 (30)) (40) 0 (41)) (40) 3 (42)) (40) 4 (43)) (40) 1 (100)) (40) 2 (10)) (0) 6 (40)) (50) 3 (10)) (0) 7 (50)) (60) 3 (61)) (60) 4 (62)) (0) 8 (60)) (by decide) (by decide) (by decide)) rfl rfl ⟨Nat.le_of_ble_eq_true rfl, Nat.le_of_ble_eq_true rfl⟩  rfl hl.1 rfl (Nat.le_of_ble_eq_true rfl) dX9_init_125 ⟨Nat.le_of_ble_eq_true rfl, Nat.le_of_ble_eq_true rfl⟩) hS (fun u H locs hw hM hS => ?_)
  obtain ⟨ad37, rfl, had⟩ := hw
  have hM : Mem D A ad37 ((((((((((((((((((((((((((((((((((((((((((([0] ++ [100]) ++ [100 + 1]) ++ [100 + 2]) ++ [100 + 3]) ++ [100 + 4]) ++ [100 + 5]) ++ [100 + 6]) ++ [100 + 7]) ++ [100 + 8]) ++ [110]) ++ [110 + 1]) ++ [110 + 2]) ++ [110 + 3]) ++ [110 + 4]) ++ [110 + 5]) ++ [110 + 6]) ++ [110 + 7]) ++ [110 + 8]) ++ [1]) ++ [10]) ++ [11]) ++ [12]) ++ [13]) ++ [14]) ++ [20]) ++ [21]) ++ [22]) ++ [30]) ++ [31]) ++ [32]) ++ [33]) ++ [34]) ++ [40]) ++ [41]) ++ [42]) ++ [43]) ++ [50]) ++ [60]) ++ [61]) ++ [62]) ++ [70]) ++ [71]) ++ [72]) zI zL (u2 (u2 (u2 (u2 (u2 (u2 (u2 (u2 (u2 (u2 (u2 (u2 (u2 (u2 (u2 (u2 (u2 (u2 (u2 (u2 (u2 (u2 (u2 (u2 (u2 (u2 (u2 (u2 (u2 (u2 (u2 (u2 (u2 (u2 (u2 (u2 (u2 (u2 (u2 (u2 (u2 (u2 (u2 (u2 (u2 (u2 (u2 zG (100) 10 (100 + 1)) (100) 11 (100 + 2)) (100) 12 (100 + 3)) (100) 13 (100 + 4)) (100) 14 (100 + 5)) (100) 15 (100 + 6)) (100) 16 (100 + 7)) (100) 17 (100 + 8)) (0) 0 (100)) (110) 10 (110 + 1)) (110) 11 (110 + 2)) (110) 12 (110 + 3)) (110) 13 (110 + 4)) (110) 14 (110 + 5)) (110) 15 (110 + 6)) (110) 16 (110 + 7)) (110) 17 (110 + 8)) (0) 1 (110)) (0) 2 (1)) (10) 0 (11)) (10) 1 (12)) (10) 9 (13)) (10) 10 (14)) (0) 3 (10)) (20) 1 (21)) (20) 2 (22)) (20) 0 (10)) (0) 4 (20)) (30) 1 (31)) (30) 2 (32)) (30) 3 (33)) (30) 4 (34)) (30) 0 (10)) (0) 5 (30)) (40) 0 (41)) (40) 3 (42)) (40) 4 (43)) (40) 1 (100)) (40) 2 (10)) (0) 6 (40)) (50) 3 (10)) (0) 7 (50)) (60) 3 (61)) (60) 4 (62)) (0) 8 (60)) (70) 0 (71)) (70) 1 (72)) H := hM
  rw [← had (0) (by decide)] at hl
  rw [← had (70) (by decide)]
  rw [← had (0) (by decide)]
  have hac : ∀ x ∈ [0], ad37 x = ad x := fun x hx => (had x (by simp at hx; subst hx; decide)).trans (hac x hx)
  refine m_putF (0) 9 (70) hx hb hts hown hin hE oc9 hM hS (by decide) rfl (by decide) rfl (by decide) (by decide) rfl rfl rfl rfl tb_407 dX9_init_128 (fun H locs G39 eG39 hM hS => ?_)
  subst eG39
  refine lv_aload_n hx hb dX9_init_131 rfl (lv_at hl 0 rfl) ?_
  refine lv_bipush (v := (6)) hx hb dX9_init_132 (by decide) ?_
  refine m_newq (2) (t0 := 5) hx hb hts hown hE hM hS hA (by decide) (by decide) rfl (by decide) rfl hE.2.2.2.1 tb_362 (by decide) rfl (by decide) (Nat.le_of_ble_eq_true rfl) (Nat.le_of_ble_eq_true rfl) dX9_init_134 (fun H ad40 had hM hS => ?_)
  rw [← had (0) (by decide)] at hl
  rw [← had (0) (by decide)]
  have hac : ∀ x ∈ [0], ad40 x = ad x := fun x hx => (had x (by simp at hx; subst hx; decide)).trans (hac x hx)
  refine m_putF (0) 10 (2) hx hb hts hown hin hE oc9 hM hS (by decide) rfl (by decide) rfl (by decide) (by decide) rfl rfl rfl rfl tb_408 dX9_init_137 (fun H locs G42 eG42 hM hS => ?_)
  subst eG42
  refine lv_aload_n hx hb dX9_init_140 rfl (lv_at hl 0 rfl) ?_
  refine lv_sipush (v := (400)) hx hb dX9_init_141 (by decide) ?_
  refine m_newi (3) (t0 := 1) hx hb hts hE hM hS hA (by decide) (by decide) rfl (by decide) rfl (fun _ _ h => h) tb_361 rfl rfl (by decide) rfl (by decide) (Nat.le_of_ble_eq_true rfl) (Nat.le_of_ble_eq_true rfl) dX9_init_144 (fun H ad43 had hM hS => ?_)
  rw [← had (0) (by decide)] at hl
  rw [← had (0) (by decide)]
  have hac : ∀ x ∈ [0], ad43 x = ad x := fun x hx => (had x (by simp at hx; subst hx; decide)).trans (hac x hx)
  refine m_putF (0) 11 (3) hx hb hts hown hin hE oc9 hM hS (by decide) rfl (by decide) rfl (by decide) (by decide) rfl rfl rfl rfl tb_409 dX9_init_146 (fun H locs G45 eG45 hM hS => ?_)
  subst eG45
  refine lv_aload_n hx hb dX9_init_149 rfl (lv_at hl 0 rfl) ?_
  refine lv_bipush (v := (8)) hx hb dX9_init_150 (by decide) ?_
  refine m_newi (4) (t0 := 0) hx hb hts hE hM hS hA (by decide) (by decide) rfl (by decide) rfl (fun _ _ h => h) tb_121 rfl rfl (by decide) rfl (by decide) (Nat.le_of_ble_eq_true rfl) (Nat.le_of_ble_eq_true rfl) dX9_init_152 (fun H ad46 had hM hS => ?_)
  rw [← had (0) (by decide)] at hl
  rw [← had (0) (by decide)]
  have hac : ∀ x ∈ [0], ad46 x = ad x := fun x hx => (had x (by simp at hx; subst hx; decide)).trans (hac x hx)
  refine m_putF (0) 12 (4) hx hb hts hown hin hE oc9 hM hS (by decide) rfl (by decide) rfl (by decide) (by decide) rfl rfl rfl rfl tb_410 dX9_init_154 (fun H locs G48 eG48 hM hS => ?_)
  subst eG48
  refine lv_aload_n hx hb dX9_init_157 rfl (lv_at hl 0 rfl) ?_
  refine m_new (200) hx hb hts hown hE oc3 hM hS hA (by decide) (by decide) rfl df3 tb_362 tb_364 tb_10 (Nat.le_of_ble_eq_true rfl) (Nat.le_of_ble_eq_true rfl) dX9_init_158 (fun H ad49 had hM hS => ?_)
  rw [← had (0) (by decide)] at hl
  rw [← had (0) (by decide)]
  have hac : ∀ x ∈ [0], ad49 x = ad x := fun x hx => (had x (by simp at hx; subst hx; decide)).trans (hac x hx)
  refine lv_dup hx hb dX9_init_161 rfl ?_
  refine m_callv (m_runIN (200) (As := []) (rest := [.ref (ad49 (200)), .ref (ad49 (0))]) hx hb hml hown hts hE hM hS hA ce_X3_init (List.mem_of_getElem? (i := 4) rfl) (C_X3_init l D A ad49 ((((((((((((((((((((((((((((((((((((((((((((((([0] ++ [100]) ++ [100 + 1]) ++ [100 + 2]) ++ [100 + 3]) ++ [100 + 4]) ++ [100 + 5]) ++ [100 + 6]) ++ [100 + 7]) ++ [100 + 8]) ++ [110]) ++ [110 + 1]) ++ [110 + 2]) ++ [110 + 3]) ++ [110 + 4]) ++ [110 + 5]) ++ [110 + 6]) ++ [110 + 7]) ++ [110 + 8]) ++ [1]) ++ [10]) ++ [11]) ++ [12]) ++ [13]) ++ [14]) ++ [20]) ++ [21]) ++ [22]) ++ [30]) ++ [31]) ++ [32]) ++ [33]) ++ [34]) ++ [40]) ++ [41]) ++ [42]) ++ [43]) ++ [50]) ++ [60]) ++ [61]) ++ [62]) ++ [70]) ++ [71]) ++ [72]) ++ [2]) ++ [3]) ++ [4]) ++ [200]) zI zL (u2 (u2 (u2 (u2 (u2 (u2 (u2 (u2 (u2 (u2 (u2 (u2 (u2 (u2 (u2 (u2 (u2 (u2 (u2 (u2 (u2 (u2 (u2 (u2 (u2 (u2 (u2 (u2 (u2 (u2 (u2 (u2 (u2 (u2 (u2 (u2 (u2 (u2 (u2 (u2 (u2 (u2 (u2 (u2 (u2 (u2 (u2 (u2 (u2 (u2 (u2 zG (100) 10 (100 + 1)) (100) 11 (100 + 2)) (100) 12 (100 + 3)) (100) 13 (100 + 4)) (100) 14 (100 + 5)) (100) 15 (100 + 6)) (100) 16 (100 + 7)) (100) 17 (100 + 8)) (0) 0 (100)) (110) 10 (110 + 1)) (110) 11 (110 + 2)) (110) 12 (110 + 3)) (110) 13 (110 + 4)) (110) 14 (110 + 5)) (110) 15 (110 + 6)) (110) 16 (110 + 7)) (110) 17 (110 + 8)) (0) 1 (110)) (0) 2 (1)) (10) 0 (11)) (10) 1 (12)) (10) 9 (13)) (10) 10 (14)) (0) 3 (10)) (20) 1 (21)) (20) 2 (22)) (20) 0 (10)) (0) 4 (20)) (30) 1 (31)) (30) 2 (32)) (30) 3 (33)) (30) 4 (34)) (30) 0 (10)) (0) 5 (30)) (40) 0 (41)) (40) 3 (42)) (40) 4 (43)) (40) 1 (100)) (40) 2 (10)) (0) 6 (40)) (50) 3 (10)) (0) 7 (50)) (60) 3 (61)) (60) 4 (62)) (0) 8 (60)) (70) 0 (71)) (70) 1 (72)) (0) 9 (70)) (0) 10 (2)) (0) 11 (3)) (0) 12 (4)) (200) (by decide) (by decide) (by decide) (by decide) (by decide) (by decide) (by decide)) rfl rfl ⟨Nat.le_of_ble_eq_true rfl, Nat.le_of_ble_eq_true rfl⟩  rfl hl.1 rfl (Nat.le_of_ble_eq_true rfl) dX9_init_162 ⟨Nat.le_of_ble_eq_true rfl, Nat.le_of_ble_eq_true rfl⟩) hS (fun u H locs hw hM hS => ?_)
  obtain ⟨ad50, rfl, had⟩ := hw
  have hM : Mem D A ad50 (((((((((((((((((((((((((((((((((((((((((((((((((((([0] ++ [100]) ++ [100 + 1]) ++ [100 + 2]) ++ [100 + 3]) ++ [100 + 4]) ++ [100 + 5]) ++ [100 + 6]) ++ [100 + 7]) ++ [100 + 8]) ++ [110]) ++ [110 + 1]) ++ [110 + 2]) ++ [110 + 3]) ++ [110 + 4]) ++ [110 + 5]) ++ [110 + 6]) ++ [110 + 7]) ++ [110 + 8]) ++ [1]) ++ [10]) ++ [11]) ++ [12]) ++ [13]) ++ [14]) ++ [20]) ++ [21]) ++ [22]) ++ [30]) ++ [31]) ++ [32]) ++ [33]) ++ [34]) ++ [40]) ++ [41]) ++ [42]) ++ [43]) ++ [50]) ++ [60]) ++ [61]) ++ [62]) ++ [70]) ++ [71]) ++ [72]) ++ [2]) ++ [3]) ++ [4]) ++ [200]) ++ [200 + 1]) ++ [200 + 2]) ++ [200 + 3]) ++ [200 + 4]) ++ [200 + 5]) zI zL (u2 (u2 (u2 (u2 (u2 (u2 (u2 (u2 (u2 (u2 (u2 (u2 (u2 (u2 (u2 (u2 (u2 (u2 (u2 (u2 (u2 (u2 (u2 (u2 (u2 (u2 (u2 (u2 (u2 (u2 (u2 (u2 (u2 (u2 (u2 (u2 (u2 (u2 (u2 (u2 (u2 (u2 (u2 (u2 (u2 (u2 (u2 (u2 (u2 (u2 (u2 (u2 (u2 (u2 (u2 (u2 zG (100) 10 (100 + 1)) (100) 11 (100 + 2)) (100) 12 (100 + 3)) (100) 13 (100 + 4)) (100) 14 (100 + 5)) (100) 15 (100 + 6)) (100) 16 (100 + 7)) (100) 17 (100 + 8)) (0) 0 (100)) (110) 10 (110 + 1)) (110) 11 (110 + 2)) (110) 12 (110 + 3)) (110) 13 (110 + 4)) (110) 14 (110 + 5)) (110) 15 (110 + 6)) (110) 16 (110 + 7)) (110) 17 (110 + 8)) (0) 1 (110)) (0) 2 (1)) (10) 0 (11)) (10) 1 (12)) (10) 9 (13)) (10) 10 (14)) (0) 3 (10)) (20) 1 (21)) (20) 2 (22)) (20) 0 (10)) (0) 4 (20)) (30) 1 (31)) (30) 2 (32)) (30) 3 (33)) (30) 4 (34)) (30) 0 (10)) (0) 5 (30)) (40) 0 (41)) (40) 3 (42)) (40) 4 (43)) (40) 1 (100)) (40) 2 (10)) (0) 6 (40)) (50) 3 (10)) (0) 7 (50)) (60) 3 (61)) (60) 4 (62)) (0) 8 (60)) (70) 0 (71)) (70) 1 (72)) (0) 9 (70)) (0) 10 (2)) (0) 11 (3)) (0) 12 (4)) (200) 0 (200 + 1)) (200) 1 (200 + 2)) (200) 2 (200 + 3)) (200) 3 (200 + 4)) (200) 4 (200 + 5)) H := hM
  rw [← had (0) (by decide)] at hl
  rw [← had (200) (by decide)]
  rw [← had (0) (by decide)]
  have hac : ∀ x ∈ [0], ad50 x = ad x := fun x hx => (had x (by simp at hx; subst hx; decide)).trans (hac x hx)
  refine m_putr (0) 13 (200) hx hb hts hown hE oc9 hM hS (by decide) rfl (by decide) rfl (by decide) (by decide) rfl rfl rfl tb_411 dX9_init_165 (fun H locs G52 eG52 hM hS => ?_)
  subst eG52
  exact m_vret hx hb hr hlocks hM hS (Nat.le_of_ble_eq_true rfl) (Nat.le_of_ble_eq_true rfl) ⟨_, rfl, hac⟩ dX9_init_168
theorem dX10_init_0 : decode cX10_init 0 = .ok (.aload_n 0, 1) := by decide +kernel
theorem dX10_init_1 : decode cX10_init 1 = .ok (.invokespecial 1, 3) := by decide +kernel
theorem dX10_init_4 : decode cX10_init 4 = .ok (.aload_n 0, 1) := by decide +kernel
theorem dX10_init_5 : decode cX10_init 5 = .ok (.bipush 10, 2) := by decide +kernel
theorem dX10_init_7 : decode cX10_init 7 = .ok (.newarray .int, 2) := by decide +kernel
theorem dX10_init_9 : decode cX10_init 9 = .ok (.putfield 7, 3) := by decide +kernel
theorem dX10_init_12 : decode cX10_init 12 = .ok (.aload_n 0, 1) := by decide +kernel
theorem dX10_init_13 : decode cX10_init 13 = .ok (.sipush 576, 3) := by decide +kernel
theorem dX10_init_16 : decode cX10_init 16 = .ok (.newarray .int, 2) := by decide +kernel
theorem dX10_init_18 : decode cX10_init 18 = .ok (.putfield 13, 3) := by decide +kernel
theorem dX10_init_21 : decode cX10_init 21 = .ok (.aload_n 0, 1) := by decide +kernel
theorem dX10_init_22 : decode cX10_init 22 = .ok (.sipush 576, 3) := by decide +kernel
theorem dX10_init_25 : decode cX10_init 25 = .ok (.newarray .int, 2) := by decide +kernel
theorem dX10_init_27 : decode cX10_init 27 = .ok (.putfield 16, 3) := by decide +kernel
theorem dX10_init_30 : decode cX10_init 30 = .ok (.aload_n 0, 1) := by decide +kernel
theorem dX10_init_31 : decode cX10_init 31 = .ok (.sipush 288, 3) := by decide +kernel
theorem dX10_init_34 : decode cX10_init 34 = .ok (.newarray .int, 2) := by decide +kernel
theorem dX10_init_36 : decode cX10_init 36 = .ok (.putfield 19, 3) := by decide +kernel
theorem dX10_init_39 : decode cX10_init 39 = .ok (.aload_n 0, 1) := by decide +kernel
theorem dX10_init_40 : decode cX10_init 40 = .ok (.sipush 288, 3) := by decide +kernel
theorem dX10_init_43 : decode cX10_init 43 = .ok (.newarray .int, 2) := by decide +kernel
theorem dX10_init_45 : decode cX10_init 45 = .ok (.putfield 22, 3) := by decide +kernel
theorem dX10_init_48 : decode cX10_init 48 = .ok (.aload_n 0, 1) := by decide +kernel
theorem dX10_init_49 : decode cX10_init 49 = .ok (.sipush 576, 3) := by decide +kernel
theorem dX10_init_52 : decode cX10_init 52 = .ok (.newarray .int, 2) := by decide +kernel
theorem dX10_init_54 : decode cX10_init 54 = .ok (.putfield 25, 3) := by decide +kernel
theorem dX10_init_57 : decode cX10_init 57 = .ok (.aload_n 0, 1) := by decide +kernel
theorem dX10_init_58 : decode cX10_init 58 = .ok (.bipush 24, 2) := by decide +kernel
theorem dX10_init_60 : decode cX10_init 60 = .ok (.newarray .int, 2) := by decide +kernel
theorem dX10_init_62 : decode cX10_init 62 = .ok (.putfield 28, 3) := by decide +kernel
theorem dX10_init_65 : decode cX10_init 65 = .ok (.aload_n 0, 1) := by decide +kernel
theorem dX10_init_66 : decode cX10_init 66 = .ok (.bipush 24, 2) := by decide +kernel
theorem dX10_init_68 : decode cX10_init 68 = .ok (.newarray .int, 2) := by decide +kernel
theorem dX10_init_70 : decode cX10_init 70 = .ok (.putfield 31, 3) := by decide +kernel
theorem dX10_init_73 : decode cX10_init 73 = .ok (.aload_n 0, 1) := by decide +kernel
theorem dX10_init_74 : decode cX10_init 74 = .ok (.bipush 24, 2) := by decide +kernel
theorem dX10_init_76 : decode cX10_init 76 = .ok (.newarray .int, 2) := by decide +kernel
theorem dX10_init_78 : decode cX10_init 78 = .ok (.putfield 34, 3) := by decide +kernel
theorem dX10_init_81 : decode cX10_init 81 = .ok (.aload_n 0, 1) := by decide +kernel
theorem dX10_init_82 : decode cX10_init 82 = .ok (.bipush 24, 2) := by decide +kernel
theorem dX10_init_84 : decode cX10_init 84 = .ok (.newarray .int, 2) := by decide +kernel
theorem dX10_init_86 : decode cX10_init 86 = .ok (.putfield 37, 3) := by decide +kernel
theorem dX10_init_89 : decode cX10_init 89 = .ok (.aload_n 0, 1) := by decide +kernel
theorem dX10_init_90 : decode cX10_init 90 = .ok (.bipush 24, 2) := by decide +kernel
theorem dX10_init_92 : decode cX10_init 92 = .ok (.newarray .int, 2) := by decide +kernel
theorem dX10_init_94 : decode cX10_init 94 = .ok (.putfield 40, 3) := by decide +kernel
theorem dX10_init_97 : decode cX10_init 97 = .ok (.aload_n 0, 1) := by decide +kernel
theorem dX10_init_98 : decode cX10_init 98 = .ok (.bipush 24, 2) := by decide +kernel
theorem dX10_init_100 : decode cX10_init 100 = .ok (.newarray .int, 2) := by decide +kernel
theorem dX10_init_102 : decode cX10_init 102 = .ok (.putfield 43, 3) := by decide +kernel
theorem dX10_init_105 : decode cX10_init 105 = .ok (.aload_n 0, 1) := by decide +kernel
theorem dX10_init_106 : decode cX10_init 106 = .ok (.bipush 24, 2) := by decide +kernel
theorem dX10_init_108 : decode cX10_init 108 = .ok (.newarray .int, 2) := by decide +kernel
theorem dX10_init_110 : decode cX10_init 110 = .ok (.putfield 46, 3) := by decide +kernel
theorem dX10_init_113 : decode cX10_init 113 = .ok (.aload_n 0, 1) := by decide +kernel
theorem dX10_init_114 : decode cX10_init 114 = .ok (.bipush 24, 2) := by decide +kernel
theorem dX10_init_116 : decode cX10_init 116 = .ok (.newarray .int, 2) := by decide +kernel
theorem dX10_init_118 : decode cX10_init 118 = .ok (.putfield 49, 3) := by decide +kernel
theorem dX10_init_121 : decode cX10_init 121 = .ok (.aload_n 0, 1) := by decide +kernel
theorem dX10_init_122 : decode cX10_init 122 = .ok (.bipush 24, 2) := by decide +kernel
theorem dX10_init_124 : decode cX10_init 124 = .ok (.newarray .int, 2) := by decide +kernel
theorem dX10_init_126 : decode cX10_init 126 = .ok (.putfield 52, 3) := by decide +kernel
theorem dX10_init_129 : decode cX10_init 129 = .ok (.aload_n 0, 1) := by decide +kernel
theorem dX10_init_130 : decode cX10_init 130 = .ok (.bipush 24, 2) := by decide +kernel
theorem dX10_init_132 : decode cX10_init 132 = .ok (.newarray .int, 2) := by decide +kernel
theorem dX10_init_134 : decode cX10_init 134 = .ok (.putfield 55, 3) := by decide +kernel
theorem dX10_init_137 : decode cX10_init 137 = .ok (.aload_n 0, 1) := by decide +kernel
theorem dX10_init_138 : decode cX10_init 138 = .ok (.bipush 8, 2) := by decide +kernel
theorem dX10_init_140 : decode cX10_init 140 = .ok (.newarray .int, 2) := by decide +kernel
theorem dX10_init_142 : decode cX10_init 142 = .ok (.putfield 58, 3) := by decide +kernel
theorem dX10_init_145 : decode cX10_init 145 = .ok (.aload_n 0, 1) := by decide +kernel
theorem dX10_init_146 : decode cX10_init 146 = .ok (.bipush 8, 2) := by decide +kernel
theorem dX10_init_148 : decode cX10_init 148 = .ok (.newarray .int, 2) := by decide +kernel
theorem dX10_init_150 : decode cX10_init 150 = .ok (.putfield 61, 3) := by decide +kernel
theorem dX10_init_153 : decode cX10_init 153 = .ok (.aload_n 0, 1) := by decide +kernel
theorem dX10_init_154 : decode cX10_init 154 = .ok (.bipush 8, 2) := by decide +kernel
theorem dX10_init_156 : decode cX10_init 156 = .ok (.newarray .int, 2) := by decide +kernel
theorem dX10_init_158 : decode cX10_init 158 = .ok (.putfield 64, 3) := by decide +kernel
theorem dX10_init_161 : decode cX10_init 161 = .ok (.aload_n 0, 1) := by decide +kernel
theorem dX10_init_162 : decode cX10_init 162 = .ok (.bipush 8, 2) := by decide +kernel
theorem dX10_init_164 : decode cX10_init 164 = .ok (.newarray .int, 2) := by decide +kernel
theorem dX10_init_166 : decode cX10_init 166 = .ok (.putfield 67, 3) := by decide +kernel
theorem dX10_init_169 : decode cX10_init 169 = .ok (.aload_n 0, 1) := by decide +kernel
theorem dX10_init_170 : decode cX10_init 170 = .ok (.bipush 8, 2) := by decide +kernel
theorem dX10_init_172 : decode cX10_init 172 = .ok (.newarray .int, 2) := by decide +kernel
theorem dX10_init_174 : decode cX10_init 174 = .ok (.putfield 70, 3) := by decide +kernel
theorem dX10_init_177 : decode cX10_init 177 = .ok (.aload_n 0, 1) := by decide +kernel
theorem dX10_init_178 : decode cX10_init 178 = .ok (.bipush 8, 2) := by decide +kernel
theorem dX10_init_180 : decode cX10_init 180 = .ok (.newarray .int, 2) := by decide +kernel
theorem dX10_init_182 : decode cX10_init 182 = .ok (.putfield 73, 3) := by decide +kernel
theorem dX10_init_185 : decode cX10_init 185 = .ok (.aload_n 0, 1) := by decide +kernel
theorem dX10_init_186 : decode cX10_init 186 = .ok (.bipush 8, 2) := by decide +kernel
theorem dX10_init_188 : decode cX10_init 188 = .ok (.newarray .int, 2) := by decide +kernel
theorem dX10_init_190 : decode cX10_init 190 = .ok (.putfield 76, 3) := by decide +kernel
theorem dX10_init_193 : decode cX10_init 193 = .ok (.aload_n 0, 1) := by decide +kernel
theorem dX10_init_194 : decode cX10_init 194 = .ok (.bipush 13, 2) := by decide +kernel
theorem dX10_init_196 : decode cX10_init 196 = .ok (.putfield 79, 3) := by decide +kernel
theorem dX10_init_199 : decode cX10_init 199 = .ok (.aload_n 0, 1) := by decide +kernel
theorem dX10_init_200 : decode cX10_init 200 = .ok (.sipush 400, 3) := by decide +kernel
theorem dX10_init_203 : decode cX10_init 203 = .ok (.newarray .byte, 2) := by decide +kernel
theorem dX10_init_205 : decode cX10_init 205 = .ok (.putfield 83, 3) := by decide +kernel
theorem dX10_init_208 : decode cX10_init 208 = .ok (.aload_n 0, 1) := by decide +kernel
theorem dX10_init_209 : decode cX10_init 209 = .ok (.sipush 1800, 3) := by decide +kernel
theorem dX10_init_212 : decode cX10_init 212 = .ok (.newarray .int, 2) := by decide +kernel
theorem dX10_init_214 : decode cX10_init 214 = .ok (.putfield 87, 3) := by decide +kernel
theorem dX10_init_217 : decode cX10_init 217 = .ok (.aload_n 0, 1) := by decide +kernel
theorem dX10_init_218 : decode cX10_init 218 = .ok (.sipush 1800, 3) := by decide +kernel
theorem dX10_init_221 : decode cX10_init 221 = .ok (.newarray .int, 2) := by decide +kernel
theorem dX10_init_223 : decode cX10_init 223 = .ok (.putfield 90, 3) := by decide +kernel
theorem dX10_init_226 : decode cX10_init 226 = .ok (.aload_n 0, 1) := by decide +kernel
theorem dX10_init_227 : decode cX10_init 227 = .ok (.bipush 6, 2) := by decide +kernel
theorem dX10_init_229 : decode cX10_init 229 = .ok (.newarray .int, 2) := by decide +kernel
theorem dX10_init_231 : decode cX10_init 231 = .ok (.putfield 93, 3) := by decide +kernel
theorem dX10_init_234 : decode cX10_init 234 = .ok (.aload_n 0, 1) := by decide +kernel
theorem dX10_init_235 : decode cX10_init 235 = .ok (.bipush 72, 2) := by decide +kernel
theorem dX10_init_237 : decode cX10_init 237 = .ok (.newarray .int, 2) := by decide +kernel
theorem dX10_init_239 : decode cX10_init 239 = .ok (.putfield 96, 3) := by decide +kernel
theorem dX10_init_242 : decode cX10_init 242 = .ok (.aload_n 0, 1) := by decide +kernel
theorem dX10_init_243 : decode cX10_init 243 = .ok (.bipush 72, 2) := by decide +kernel
theorem dX10_init_245 : decode cX10_init 245 = .ok (.newarray .int, 2) := by decide +kernel
theorem dX10_init_247 : decode cX10_init 247 = .ok (.putfield 99, 3) := by decide +kernel
theorem dX10_init_250 : decode cX10_init 250 = .ok (.aload_n 0, 1) := by decide +kernel
theorem dX10_init_251 : decode cX10_init 251 = .ok (.bipush 72, 2) := by decide +kernel
theorem dX10_init_253 : decode cX10_init 253 = .ok (.newarray .int, 2) := by decide +kernel
theorem dX10_init_255 : decode cX10_init 255 = .ok (.putfield 102, 3) := by decide +kernel
theorem dX10_init_258 : decode cX10_init 258 = .ok (.aload_n 0, 1) := by decide +kernel
theorem dX10_init_259 : decode cX10_init 259 = .ok (.bipush 72, 2) := by decide +kernel
theorem dX10_init_261 : decode cX10_init 261 = .ok (.newarray .int, 2) := by decide +kernel
theorem dX10_init_263 : decode cX10_init 263 = .ok (.putfield 105, 3) := by decide +kernel
theorem dX10_init_266 : decode cX10_init 266 = .ok (.aload_n 0, 1) := by decide +kernel
theorem dX10_init_267 : decode cX10_init 267 = .ok (.sipush 402, 3) := by decide +kernel
theorem dX10_init_270 : decode cX10_init 270 = .ok (.newarray .int, 2) := by decide +kernel
theorem dX10_init_272 : decode cX10_init 272 = .ok (.putfield 108, 3) := by decide +kernel
theorem dX10_init_275 : decode cX10_init 275 = .ok (.aload_n 0, 1) := by decide +kernel
theorem dX10_init_276 : decode cX10_init 276 = .ok (.bipush 13, 2) := by decide +kernel
theorem dX10_init_278 : decode cX10_init 278 = .ok (.newarray .long, 2) := by decide +kernel
theorem dX10_init_280 : decode cX10_init 280 = .ok (.putfield 111, 3) := by decide +kernel
theorem dX10_init_283 : decode cX10_init 283 = .ok (.aload_n 0, 1) := by decide +kernel
theorem dX10_init_284 : decode cX10_init 284 = .ok (.sipush 300, 3) := by decide +kernel
theorem dX10_init_287 : decode cX10_init 287 = .ok (.newarray .long, 2) := by decide +kernel
theorem dX10_init_289 : decode cX10_init 289 = .ok (.putfield 115, 3) := by decide +kernel
theorem dX10_init_292 : decode cX10_init 292 = .ok (.aload_n 0, 1) := by decide +kernel
theorem dX10_init_293 : decode cX10_init 293 = .ok (.bipush 60, 2) := by decide +kernel
theorem dX10_init_295 : decode cX10_init 295 = .ok (.newarray .int, 2) := by decide +kernel
theorem dX10_init_297 : decode cX10_init 297 = .ok (.putfield 118, 3) := by decide +kernel
theorem dX10_init_300 : decode cX10_init 300 = .ok (.aload_n 0, 1) := by decide +kernel
theorem dX10_init_301 : decode cX10_init 301 = .ok (.bipush 60, 2) := by decide +kernel
theorem dX10_init_303 : decode cX10_init 303 = .ok (.newarray .int, 2) := by decide +kernel
theorem dX10_init_305 : decode cX10_init 305 = .ok (.putfield 121, 3) := by decide +kernel
theorem dX10_init_308 : decode cX10_init 308 = .ok (.aload_n 0, 1) := by decide +kernel
theorem dX10_init_309 : decode cX10_init 309 = .ok (.bipush 60, 2) := by decide +kernel
theorem dX10_init_311 : decode cX10_init 311 = .ok (.newarray .int, 2) := by decide +kernel
theorem dX10_init_313 : decode cX10_init 313 = .ok (.putfield 124, 3) := by decide +kernel
theorem dX10_init_316 : decode cX10_init 316 = .ok (.aload_n 0, 1) := by decide +kernel
theorem dX10_init_317 : decode cX10_init 317 = .ok (.bipush 60, 2) := by decide +kernel
theorem dX10_init_319 : decode cX10_init 319 = .ok (.newarray .int, 2) := by decide +kernel
theorem dX10_init_321 : decode cX10_init 321 = .ok (.putfield 127, 3) := by decide +kernel
theorem dX10_init_324 : decode cX10_init 324 = .ok (.aload_n 0, 1) := by decide +kernel
theorem dX10_init_325 : decode cX10_init 325 = .ok (.sipush 576, 3) := by decide +kernel
theorem dX10_init_328 : decode cX10_init 328 = .ok (.newarray .int, 2) := by decide +kernel
theorem dX10_init_330 : decode cX10_init 330 = .ok (.putfield 130, 3) := by decide +kernel
theorem dX10_init_333 : decode cX10_init 333 = .ok (.aload_n 0, 1) := by decide +kernel
theorem dX10_init_334 : decode cX10_init 334 = .ok (.bipush 8, 2) := by decide +kernel
theorem dX10_init_336 : decode cX10_init 336 = .ok (.newarray .int, 2) := by decide +kernel
theorem dX10_init_338 : decode cX10_init 338 = .ok (.putfield 133, 3) := by decide +kernel
theorem dX10_init_341 : decode cX10_init 341 = .ok (.aload_n 0, 1) := by decide +kernel
theorem dX10_init_342 : decode cX10_init 342 = .ok (.iconst (-1), 1) := by decide +kernel
theorem dX10_init_343 : decode cX10_init 343 = .ok (.putfield 136, 3) := by decide +kernel
theorem dX10_init_346 : decode cX10_init 346 = .ok (.aload_n 0, 1) := by decide +kernel
theorem dX10_init_347 : decode cX10_init 347 = .ok (.bipush 24, 2) := by decide +kernel
theorem dX10_init_349 : decode cX10_init 349 = .ok (.newarray .boolean, 2) := by decide +kernel
theorem dX10_init_351 : decode cX10_init 351 = .ok (.putfield 139, 3) := by decide +kernel
theorem dX10_init_354 : decode cX10_init 354 = .ok (.aload_n 0, 1) := by decide +kernel
theorem dX10_init_355 : decode cX10_init 355 = .ok (.bipush 24, 2) := by decide +kernel
theorem dX10_init_357 : decode cX10_init 357 = .ok (.newarray .int, 2) := by decide +kernel
theorem dX10_init_359 : decode cX10_init 359 = .ok (.putfield 143, 3) := by decide +kernel
theorem dX10_init_362 : decode cX10_init 362 = .ok (.aload_n 0, 1) := by decide +kernel
theorem dX10_init_363 : decode cX10_init 363 = .ok (.bipush 24, 2) := by decide +kernel
theorem dX10_init_365 : decode cX10_init 365 = .ok (.newarray .int, 2) := by decide +kernel
theorem dX10_init_367 : decode cX10_init 367 = .ok (.putfield 146, 3) := by decide +kernel
theorem dX10_init_370 : decode cX10_init 370 = .ok (.aload_n 0, 1) := by decide +kernel
theorem dX10_init_371 : decode cX10_init 371 = .ok (.bipush 24, 2) := by decide +kernel
theorem dX10_init_373 : decode cX10_init 373 = .ok (.newarray .int, 2) := by decide +kernel
theorem dX10_init_375 : decode cX10_init 375 = .ok (.putfield 149, 3) := by decide +kernel
theorem dX10_init_378 : decode cX10_init 378 = .ok (.aload_n 0, 1) := by decide +kernel
theorem dX10_init_379 : decode cX10_init 379 = .ok (.bipush 8, 2) := by decide +kernel
theorem dX10_init_381 : decode cX10_init 381 = .ok (.newarray .int, 2) := by decide +kernel
theorem dX10_init_383 : decode cX10_init 383 = .ok (.putfield 152, 3) := by decide +kernel
theorem dX10_init_386 : decode cX10_init 386 = .ok (.aload_n 0, 1) := by decide +kernel
theorem dX10_init_387 : decode cX10_init 387 = .ok (.bipush 8, 2) := by decide +kernel
theorem dX10_init_389 : decode cX10_init 389 = .ok (.newarray .int, 2) := by decide +kernel
theorem dX10_init_391 : decode cX10_init 391 = .ok (.putfield 155, 3) := by decide +kernel
theorem dX10_init_394 : decode cX10_init 394 = .ok (.aload_n 0, 1) := by decide +kernel
theorem dX10_init_395 : decode cX10_init 395 = .ok (.bipush 24, 2) := by decide +kernel
theorem dX10_init_397 : decode cX10_init 397 = .ok (.newarray .int, 2) := by decide +kernel
theorem dX10_init_399 : decode cX10_init 399 = .ok (.putfield 158, 3) := by decide +kernel
theorem dX10_init_402 : decode cX10_init 402 = .ok (.aload_n 0, 1) := by decide +kernel
theorem dX10_init_403 : decode cX10_init 403 = .ok (.bipush 24, 2) := by decide +kernel
theorem dX10_init_405 : decode cX10_init 405 = .ok (.newarray .int, 2) := by decide +kernel
theorem dX10_init_407 : decode cX10_init 407 = .ok (.putfield 161, 3) := by decide +kernel
theorem dX10_init_410 : decode cX10_init 410 = .ok (.aload_n 0, 1) := by decide +kernel
theorem dX10_init_411 : decode cX10_init 411 = .ok (.bipush 24, 2) := by decide +kernel
theorem dX10_init_413 : decode cX10_init 413 = .ok (.newarray .int, 2) := by decide +kernel
theorem dX10_init_415 : decode cX10_init 415 = .ok (.putfield 164, 3) := by decide +kernel
theorem dX10_init_418 : decode cX10_init 418 = .ok (.aload_n 0, 1) := by decide +kernel
theorem dX10_init_419 : decode cX10_init 419 = .ok (.bipush 8, 2) := by decide +kernel
theorem dX10_init_421 : decode cX10_init 421 = .ok (.newarray .int, 2) := by decide +kernel
theorem dX10_init_423 : decode cX10_init 423 = .ok (.putfield 167, 3) := by decide +kernel
theorem dX10_init_426 : decode cX10_init 426 = .ok (.aload_n 0, 1) := by decide +kernel
theorem dX10_init_427 : decode cX10_init 427 = .ok (.iconst 4, 1) := by decide +kernel
theorem dX10_init_428 : decode cX10_init 428 = .ok (.newarray .int, 2) := by decide +kernel
theorem dX10_init_430 : decode cX10_init 430 = .ok (.putfield 170, 3) := by decide +kernel
theorem dX10_init_433 : decode cX10_init 433 = .ok (.aload_n 0, 1) := by decide +kernel
theorem dX10_init_434 : decode cX10_init 434 = .ok (.iconst 4, 1) := by decide +kernel
theorem dX10_init_435 : decode cX10_init 435 = .ok (.newarray .int, 2) := by decide +kernel
theorem dX10_init_437 : decode cX10_init 437 = .ok (.putfield 173, 3) := by decide +kernel
theorem dX10_init_440 : decode cX10_init 440 = .ok (.aload_n 0, 1) := by decide +kernel
theorem dX10_init_441 : decode cX10_init 441 = .ok (.iconst 5, 1) := by decide +kernel
theorem dX10_init_442 : decode cX10_init 442 = .ok (.newarray .int, 2) := by decide +kernel
theorem dX10_init_444 : decode cX10_init 444 = .ok (.putfield 176, 3) := by decide +kernel
theorem dX10_init_447 : decode cX10_init 447 = .ok (.aload_n 0, 1) := by decide +kernel
theorem dX10_init_448 : decode cX10_init 448 = .ok (.sipush 10880, 3) := by decide +kernel
theorem dX10_init_451 : decode cX10_init 451 = .ok (.newarray .int, 2) := by decide +kernel
theorem dX10_init_453 : decode cX10_init 453 = .ok (.putfield 179, 3) := by decide +kernel
theorem dX10_init_456 : decode cX10_init 456 = .ok (.aload_n 0, 1) := by decide +kernel
theorem dX10_init_457 : decode cX10_init 457 = .ok (.iconst 4, 1) := by decide +kernel
theorem dX10_init_458 : decode cX10_init 458 = .ok (.newarray .boolean, 2) := by decide +kernel
theorem dX10_init_460 : decode cX10_init 460 = .ok (.putfield 182, 3) := by decide +kernel
theorem dX10_init_463 : decode cX10_init 463 = .ok (.return_, 1) := by decide +kernel
theorem ce_X10_init : CeI yX10_init cX10_init 1 0 := ⟨tb_1175, tb_11, tb_1176, by decide, by decide, by decide, by decide +kernel⟩
def nsA0 : List Nat := ((((((((((((((((((((((((((((((((((((((((((((((((((((((((nsC0 ++ [1000]) ++ [1001]) ++ [1002]) ++ [1003]) ++ [1004]) ++ [1005]) ++ [1006]) ++ [1007]) ++ [1008]) ++ [1009]) ++ [1010]) ++ [1011]) ++ [1012]) ++ [1013]) ++ [1014]) ++ [1015]) ++ [1016]) ++ [1017]) ++ [1018]) ++ [1019]) ++ [1020]) ++ [1021]) ++ [1022]) ++ [1023]) ++ [1034]) ++ [1035]) ++ [1036]) ++ [1037]) ++ [1038]) ++ [1039]) ++ [1040]) ++ [1041]) ++ [1042]) ++ [1043]) ++ [1044]) ++ [1045]) ++ [1046]) ++ [1047]) ++ [1048]) ++ [1049]) ++ [1050]) ++ [1058]) ++ [1060]) ++ [1061]) ++ [1062]) ++ [1064]) ++ [1066]) ++ [1067]) ++ [1068]) ++ [1069]) ++ [1070]) ++ [1071]) ++ [1072]) ++ [1073]) ++ [1076]) ++ [1077])
def gA0 : MG := (u2 (u2 (u2 (u2 (u2 (u2 (u2 (u2 (u2 (u2 (u2 (u2 (u2 (u2 (u2 (u2 (u2 (u2 (u2 (u2 (u2 (u2 (u2 (u2 (u2 (u2 (u2 (u2 (u2 (u2 (u2 (u2 (u2 (u2 (u2 (u2 (u2 (u2 (u2 (u2 (u2 (u2 (u2 (u2 (u2 (u2 (u2 (u2 (u2 (u2 (u2 (u2 (u2 (u2 (u2 gC0 (1000) 1 (1001)) (1000) 2 (1002)) (1000) 3 (1003)) (1000) 4 (1004)) (1000) 5 (1005)) (1000) 6 (1006)) (1000) 7 (1007)) (1000) 8 (1008)) (1000) 9 (1009)) (1000) 10 (1010)) (1000) 11 (1011)) (1000) 12 (1012)) (1000) 13 (1013)) (1000) 14 (1014)) (1000) 15 (1015)) (1000) 16 (1016)) (1000) 17 (1017)) (1000) 18 (1018)) (1000) 19 (1019)) (1000) 20 (1020)) (1000) 21 (1021)) (1000) 22 (1022)) (1000) 23 (1023)) (1000) 34 (1034)) (1000) 35 (1035)) (1000) 36 (1036)) (1000) 37 (1037)) (1000) 38 (1038)) (1000) 39 (1039)) (1000) 40 (1040)) (1000) 41 (1041)) (1000) 42 (1042)) (1000) 43 (1043)) (1000) 44 (1044)) (1000) 45 (1045)) (1000) 46 (1046)) (1000) 47 (1047)) (1000) 48 (1048)) (1000) 49 (1049)) (1000) 50 (1050)) (1000) 58 (1058)) (1000) 60 (1060)) (1000) 61 (1061)) (1000) 62 (1062)) (1000) 64 (1064)) (1000) 66 (1066)) (1000) 67 (1067)) (1000) 68 (1068)) (1000) 69 (1069)) (1000) 70 (1070)) (1000) 71 (1071)) (1000) 72 (1072)) (1000) 73 (1073)) (1000) 76 (1076)) (1000) 77 (1077))
def iA0 : MI := (u2 (u2 zI (1000) 33 (13)) (1000) 57 ((-1 : Int32)))
set_option maxHeartbeats 4000000 in
set_option maxRecDepth 20000 in
theorem C_X10_init (l : Launch) (D : va_G) (A : Nat → Prop) (ad : Nat → Nat)  : Met l yX10_init (wd yX10_init cX10_init 1 none) ({ frames := 1, cells := 55, slots := 19532, locals := 12 }) (va_Pc [.ref (ad 1000)] (PM D A ad (nsC0 ++ [1000]) zI zL gC0)) (va_Qv (fun u => ∃ ad2, u = (ad2, nsA0, iA0, zL, gA0) ∧ ∀ x ∈ (nsC0 ++ [1000]), ad2 x = ad x) (BM D A) A) 55 19532 A := by
  refine m_ofW (by decide) (Nat.le_of_ble_eq_true rfl) ?_
  intro p e s m below meth c ls args hC hE hM hA hS hl
  obtain ⟨hx, hb, hml, hown, hts, hr, hlocks, hin⟩ := hC
  have km1 : (-1 : Int32).toInt = -1 := by decide
  have k0 : (0 : Int32).toInt = 0 := by decide
  have k4 : (4 : Int32).toInt = 4 := by decide
  have k5 : (5 : Int32).toInt = 5 := by decide
  have k6 : (6 : Int32).toInt = 6 := by decide
  have k8 : (8 : Int32).toInt = 8 := by decide
  have k10 : (10 : Int32).toInt = 10 := by decide
  have k13 : (13 : Int32).toInt = 13 := by decide
  have k24 : (24 : Int32).toInt = 24 := by decide
  have k60 : (60 : Int32).toInt = 60 := by decide
  have k72 : (72 : Int32).toInt = 72 := by decide
  have k288 : (288 : Int32).toInt = 288 := by decide
  have k300 : (300 : Int32).toInt = 300 := by decide
  have k400 : (400 : Int32).toInt = 400 := by decide
  have k402 : (402 : Int32).toInt = 402 := by decide
  have k576 : (576 : Int32).toInt = 576 := by decide
  have k1800 : (1800 : Int32).toInt = 1800 := by decide
  have k10880 : (10880 : Int32).toInt = 10880 := by decide
  have hac : ∀ x ∈ (nsC0 ++ [1000]), ad x = ad x := fun _ _ => rfl
  have hl : lv_has ls 1 [(0, .ref (ad (1000)))] := hl
  refine lv_aload_n hx hb dX10_init_0 rfl (lv_at hl 0 rfl) ?_
  refine m_objI hx hb hml hown hts hl.1 tb_1177 tb_26 tb_27 dX10_init_1 (Nat.le_of_ble_eq_true rfl) (Nat.le_of_ble_eq_true rfl) ?_
  refine lv_aload_n hx hb dX10_init_4 rfl (lv_at hl 0 rfl) ?_
  refine lv_bipush (v := (10)) hx hb dX10_init_5 (by decide) ?_
  refine m_newi (1001) (t0 := 0) hx hb hts hE hM hS hA (by decide) (by decide) rfl (by decide) rfl (fun _ _ h => h) tb_121 rfl rfl (by decide) rfl (by decide) (Nat.le_of_ble_eq_true rfl) (Nat.le_of_ble_eq_true rfl) dX10_init_7 (fun H ad1 had hM hS => ?_)
  rw [← had (1000) (by decide)] at hl
  rw [← had (1000) (by decide)]
  have hac : ∀ x ∈ (nsC0 ++ [1000]), ad1 x = ad x := fun x hx => (had x hx).trans (hac x hx)
  refine m_putF (1000) 1 (1001) hx hb hts hown hin hE oc10 hM hS (by decide) rfl (by decide) rfl (by decide) (by decide) rfl rfl rfl rfl tb_1178 dX10_init_9 (fun H locs G3 eG3 hM hS => ?_)
  subst eG3
  refine lv_aload_n hx hb dX10_init_12 rfl (lv_at hl 0 rfl) ?_
  refine lv_sipush (v := (576)) hx hb dX10_init_13 (by decide) ?_
  refine m_newi (1002) (t0 := 0) hx hb hts hE hM hS hA (by decide) (by decide) rfl (by decide) rfl (fun _ _ h => h) tb_121 rfl rfl (by decide) rfl (by decide) (Nat.le_of_ble_eq_true rfl) (Nat.le_of_ble_eq_true rfl) dX10_init_16 (fun H ad4 had hM hS => ?_)
  rw [← had (1000) (by decide)] at hl
  rw [← had (1000) (by decide)]
  have hac : ∀ x ∈ (nsC0 ++ [1000]), ad4 x = ad x := fun x hx => (had x (List.mem_append_left _ hx)).trans (hac x hx)
  refine m_putF (1000) 2 (1002) hx hb hts hown hin hE oc10 hM hS (by decide) rfl (by decide) rfl (by decide) (by decide) rfl rfl rfl rfl tb_1179 dX10_init_18 (fun H locs G6 eG6 hM hS => ?_)
  subst eG6
  refine lv_aload_n hx hb dX10_init_21 rfl (lv_at hl 0 rfl) ?_
  refine lv_sipush (v := (576)) hx hb dX10_init_22 (by decide) ?_
  refine m_newi (1003) (t0 := 0) hx hb hts hE hM hS hA (by decide) (by decide) rfl (by decide) rfl (fun _ _ h => h) tb_121 rfl rfl (by decide) rfl (by decide) (Nat.le_of_ble_eq_true rfl) (Nat.le_of_ble_eq_true rfl) dX10_init_25 (fun H ad7 had hM hS => ?_)
  rw [← had (1000) (by decide)] at hl
  rw [← had (1000) (by decide)]
  have hac : ∀ x ∈ (nsC0 ++ [1000]), ad7 x = ad x := fun x hx => (had x (List.mem_append_left _ (List.mem_append_left _ hx))).trans (hac x hx)
  refine m_putF (1000) 3 (1003) hx hb hts hown hin hE oc10 hM hS (by decide) rfl (by decide) rfl (by decide) (by decide) rfl rfl rfl rfl tb_1180 dX10_init_27 (fun H locs G9 eG9 hM hS => ?_)
  subst eG9
  refine lv_aload_n hx hb dX10_init_30 rfl (lv_at hl 0 rfl) ?_
  refine lv_sipush (v := (288)) hx hb dX10_init_31 (by decide) ?_
  refine m_newi (1004) (t0 := 0) hx hb hts hE hM hS hA (by decide) (by decide) rfl (by decide) rfl (fun _ _ h => h) tb_121 rfl rfl (by decide) rfl (by decide) (Nat.le_of_ble_eq_true rfl) (Nat.le_of_ble_eq_true rfl) dX10_init_34 (fun H ad10 had hM hS => ?_)
  rw [← had (1000) (by decide)] at hl
  rw [← had (1000) (by decide)]
  have hac : ∀ x ∈ (nsC0 ++ [1000]), ad10 x = ad x := fun x hx => (had x (List.mem_append_left _ (List.mem_append_left _ (List.mem_append_left _ hx)))).trans (hac x hx)
  refine m_putF (1000) 4 (1004) hx hb hts hown hin hE oc10 hM hS (by decide) rfl (by decide) rfl (by decide) (by decide) rfl rfl rfl rfl tb_1181 dX10_init_36 (fun H locs G12 eG12 hM hS => ?_)
  subst eG12
  refine lv_aload_n hx hb dX10_init_39 rfl (lv_at hl 0 rfl) ?_
  refine lv_sipush (v := (288)) hx hb dX10_init_40 (by decide) ?_
  refine m_newi (1005) (t0 := 0) hx hb hts hE hM hS hA (by decide) (by decide) rfl (by decide) rfl (fun _ _ h => h) tb_121 rfl rfl (by decide) rfl (by decide) (Nat.le_of_ble_eq_true rfl) (Nat.le_of_ble_eq_true rfl) dX10_init_43 (fun H ad13 had hM hS => ?_)
  rw [← had (1000) (by decide)] at hl
  rw [← had (1000) (by decide)]
  have hac : ∀ x ∈ (nsC0 ++ [1000]), ad13 x = ad x := fun x hx => (had x (List.mem_append_left _ (List.mem_append_left _ (List.mem_append_left _ (List.mem_append_left _ hx))))).trans (hac x hx)
  refine m_putF (1000) 5 (1005) hx hb hts hown hin hE oc10 hM hS (by decide) rfl (by decide) rfl (by decide) (by decide) rfl rfl rfl rfl tb_1182 dX10_init_45 (fun H locs G15 eG15 hM hS => ?_)
  subst eG15
  refine lv_aload_n hx hb dX10_init_48 rfl (lv_at hl 0 rfl) ?_
  refine lv_sipush (v := (576)) hx hb dX10_init_49 (by decide) ?_
  refine m_newi (1006) (t0 := 0) hx hb hts hE hM hS hA (by decide) (by decide) rfl (by decide) rfl (fun _ _ h => h) tb_121 rfl rfl (by decide) rfl (by decide) (Nat.le_of_ble_eq_true rfl) (Nat.le_of_ble_eq_true rfl) dX10_init_52 (fun H ad16 had hM hS => ?_)
  rw [← had (1000) (by decide)] at hl
  rw [← had (1000) (by decide)]
  have hac : ∀ x ∈ (nsC0 ++ [1000]), ad16 x = ad x := fun x hx => (had x (List.mem_append_left _ (List.mem_append_left _ (List.mem_append_left _ (List.mem_append_left _ (List.mem_append_left _ hx)))))).trans (hac x hx)
  refine m_putF (1000) 6 (1006) hx hb hts hown hin hE oc10 hM hS (by decide) rfl (by decide) rfl (by decide) (by decide) rfl rfl rfl rfl tb_1183 dX10_init_54 (fun H locs G18 eG18 hM hS => ?_)
  subst eG18
  refine lv_aload_n hx hb dX10_init_57 rfl (lv_at hl 0 rfl) ?_
  refine lv_bipush (v := (24)) hx hb dX10_init_58 (by decide) ?_
  refine m_newi (1007) (t0 := 0) hx hb hts hE hM hS hA (by decide) (by decide) rfl (by decide) rfl (fun _ _ h => h) tb_121 rfl rfl (by decide) rfl (by decide) (Nat.le_of_ble_eq_true rfl) (Nat.le_of_ble_eq_true rfl) dX10_init_60 (fun H ad19 had hM hS => ?_)
  rw [← had (1000) (by decide)] at hl
  rw [← had (1000) (by decide)]
  have hac : ∀ x ∈ (nsC0 ++ [1000]), ad19 x = ad x := fun x hx => (had x (List.mem_append_left _ (List.mem_append_left _ (List.mem_append_left _ (List.mem_append_left _ (List.mem_append_left _ (List.mem_append_left _ hx))))))).trans (hac x hx)
  refine m_putF (1000) 7 (1007) hx hb hts hown hin hE oc10 hM hS (by decide) rfl (by decide) rfl (by decide) (by decide) rfl rfl rfl rfl tb_1184 dX10_init_62 (fun H locs G21 eG21 hM hS => ?_)
  subst eG21
  refine lv_aload_n hx hb dX10_init_65 rfl (lv_at hl 0 rfl) ?_
  refine lv_bipush (v := (24)) hx hb dX10_init_66 (by decide) ?_
  refine m_newi (1008) (t0 := 0) hx hb hts hE hM hS hA (by decide) (by decide) rfl (by decide) rfl (fun _ _ h => h) tb_121 rfl rfl (by decide) rfl (by decide) (Nat.le_of_ble_eq_true rfl) (Nat.le_of_ble_eq_true rfl) dX10_init_68 (fun H ad22 had hM hS => ?_)
  rw [← had (1000) (by decide)] at hl
  rw [← had (1000) (by decide)]
  have hac : ∀ x ∈ (nsC0 ++ [1000]), ad22 x = ad x := fun x hx => (had x (List.mem_append_left _ (List.mem_append_left _ (List.mem_append_left _ (List.mem_append_left _ (List.mem_append_left _ (List.mem_append_left _ (List.mem_append_left _ hx)))))))).trans (hac x hx)
  refine m_putF (1000) 8 (1008) hx hb hts hown hin hE oc10 hM hS (by decide) rfl (by decide) rfl (by decide) (by decide) rfl rfl rfl rfl tb_1185 dX10_init_70 (fun H locs G24 eG24 hM hS => ?_)
  subst eG24
  refine lv_aload_n hx hb dX10_init_73 rfl (lv_at hl 0 rfl) ?_
  refine lv_bipush (v := (24)) hx hb dX10_init_74 (by decide) ?_
  refine m_newi (1009) (t0 := 0) hx hb hts hE hM hS hA (by decide) (by decide) rfl (by decide) rfl (fun _ _ h => h) tb_121 rfl rfl (by decide) rfl (by decide) (Nat.le_of_ble_eq_true rfl) (Nat.le_of_ble_eq_true rfl) dX10_init_76 (fun H ad25 had hM hS => ?_)
  rw [← had (1000) (by decide)] at hl
  rw [← had (1000) (by decide)]
  have hac : ∀ x ∈ (nsC0 ++ [1000]), ad25 x = ad x := fun x hx => (had x (List.mem_append_left _ (List.mem_append_left _ (List.mem_append_left _ (List.mem_append_left _ (List.mem_append_left _ (List.mem_append_left _ (List.mem_append_left _ (List.mem_append_left _ hx))))))))).trans (hac x hx)
  refine m_putF (1000) 9 (1009) hx hb hts hown hin hE oc10 hM hS (by decide) rfl (by decide) rfl (by decide) (by decide) rfl rfl rfl rfl tb_1186 dX10_init_78 (fun H locs G27 eG27 hM hS => ?_)
  subst eG27
  refine lv_aload_n hx hb dX10_init_81 rfl (lv_at hl 0 rfl) ?_
  refine lv_bipush (v := (24)) hx hb dX10_init_82 (by decide) ?_
  refine m_newi (1010) (t0 := 0) hx hb hts hE hM hS hA (by decide) (by decide) rfl (by decide) rfl (fun _ _ h => h) tb_121 rfl rfl (by decide) rfl (by decide) (Nat.le_of_ble_eq_true rfl) (Nat.le_of_ble_eq_true rfl) dX10_init_84 (fun H ad28 had hM hS => ?_)
  rw [← had (1000) (by decide)] at hl
  rw [← had (1000) (by decide)]
  have hac : ∀ x ∈ (nsC0 ++ [1000]), ad28 x = ad x := fun x hx => (had x (List.mem_append_left _ (List.mem_append_left _ (List.mem_append_left _ (List.mem_append_left _ (List.mem_append_left _ (List.mem_append_left _ (List.mem_append_left _ (List.mem_append_left _ (List.mem_append_left _ hx)))))))))).trans (hac x hx)
  refine m_putF (1000) 10 (1010) hx hb hts hown hin hE oc10 hM hS (by decide) rfl (by decide) rfl (by decide) (by decide) rfl rfl rfl rfl tb_1187 dX10_init_86 (fun H locs G30 eG30 hM hS => ?_)
  subst eG30
  refine lv_aload_n hx hb dX10_init_89 rfl (lv_at hl 0 rfl) ?_
  refine lv_bipush (v := (24)) hx hb dX10_init_90 (by decide) ?_
  refine m_newi (1011) (t0 := 0) hx hb hts hE hM hS hA (by decide) (by decide) rfl (by decide) rfl (fun _ _ h => h) tb_121 rfl rfl (by decide) rfl (by decide) (Nat.le_of_ble_eq_true rfl) (Nat.le_of_ble_eq_true rfl) dX10_init_92 (fun H ad31 had hM hS => ?_)
  rw [← had (1000) (by decide)] at hl
  rw [← had (1000) (by decide)]
  have hac : ∀ x ∈ (nsC0 ++ [1000]), ad31 x = ad x := fun x hx => (had x (List.mem_append_left _ (List.mem_append_left _ (List.mem_append_left _ (List.mem_append_left _ (List.mem_append_left _ (List.mem_append_left _ (List.mem_append_left _ (List.mem_append_left _ (List.mem_append_left _ (List.mem_append_left _ hx))))))))))).trans (hac x hx)
  refine m_putF (1000) 11 (1011) hx hb hts hown hin hE oc10 hM hS (by decide) rfl (by decide) rfl (by decide) (by decide) rfl rfl rfl rfl tb_1188 dX10_init_94 (fun H locs G33 eG33 hM hS => ?_)
  subst eG33
  refine lv_aload_n hx hb dX10_init_97 rfl (lv_at hl 0 rfl) ?_
  refine lv_bipush (v := (24)) hx hb dX10_init_98 (by decide) ?_
  refine m_newi (1012) (t0 := 0) hx hb hts hE hM hS hA (by decide) (by decide) rfl (by decide) rfl (fun _ _ h => h) tb_121 rfl rfl (by decide) rfl (by decide) (Nat.le_of_ble_eq_true rfl) (Nat.le_of_ble_eq_true rfl) dX10_init_100 (fun H ad34 had hM hS => ?_)
  rw [← had (1000) (by decide)] at hl
  rw [← had (1000) (by decide)]
  have hac : ∀ x ∈ (nsC0 ++ [1000]), ad34 x = ad x := fun x hx => (had x (List.mem_append_left _ (List.mem_append_left _ (List.mem_append_left _ (List.mem_append_left _ (List.mem_append_left _ (List.mem_append_left _ (List.mem_append_left _ (List.mem_append_left _ (List.mem_append_left _ (List.mem_append_left _ (List.mem_append_left _ hx)))))))))))).trans (hac x hx)
  refine m_putF (1000) 12 (1012) hx hb hts hown hin hE oc10 hM hS (by decide) rfl (by decide) rfl (by decide) (by decide) rfl rfl rfl rfl tb_1189 dX10_init_102 (fun H locs G36 eG36 hM hS => ?_)
  subst eG36
  refine lv_aload_n hx hb dX10_init_105 rfl (lv_at hl 0 rfl) ?_
  refine lv_bipush (v := (24)) hx hb dX10_init_106 (by decide) ?_
  refine m_newi (1013) (t0 := 0) hx hb hts hE hM hS hA (by decide) (by decide) rfl (by decide) rfl (fun _ _ h => h) tb_121 rfl rfl (by decide) rfl (by decide) (Nat.le_of_ble_eq_true rfl) (Nat.le_of_ble_eq_true rfl) dX10_init_108 (fun H ad37 had hM hS => ?_)
  rw [← had (1000) (by decide)] at hl
  rw [← had (1000) (by decide)]
  have hac : ∀ x ∈ (nsC0 ++ [1000]), ad37 x = ad x := fun x hx => (had x (List.mem_append_left _ (List.mem_append_left _ (List.mem_append_left _ (List.mem_append_left _ (List.mem_append_left _ (List.mem_append_left _ (List.mem_append_left _ (List.mem_append_left _ (List.mem_append_left _ (List.mem_append_left _ (List.mem_append_left _ (List.mem_append_left _ hx))))))))))))).trans (hac x hx)
  refine m_putF (1000) 13 (1013) hx hb hts hown hin hE oc10 hM hS (by decide) rfl (by decide) rfl (by decide) (by decide) rfl rfl rfl rfl tb_1190 dX10_init_110 (fun H locs G39 eG39 hM hS => ?_)
  subst eG39
  refine lv_aload_n hx hb dX10_init_113 rfl (lv_at hl 0 rfl) ?_
  refine lv_bipush (v := (24)) hx hb dX10_init_114 (by decide) ?_
  refine m_newi (1014) (t0 := 0) hx hb hts hE hM hS hA (by decide) (by decide) rfl (by decide) rfl (fun _ _ h => h) tb_121 rfl rfl (by decide) rfl (by decide) (Nat.le_of_ble_eq_true rfl) (Nat.le_of_ble_eq_true rfl) dX10_init_116 (fun H ad40 had hM hS => ?_)
  rw [← had (1000) (by decide)] at hl
  rw [← had (1000) (by decide)]
  have hac : ∀ x ∈ (nsC0 ++ [1000]), ad40 x = ad x := fun x hx => (had x (List.mem_append_left _ (List.mem_append_left _ (List.mem_append_left _ (List.mem_append_left _ (List.mem_append_left _ (List.mem_append_left _ (List.mem_append_left _ (List.mem_append_left _ (List.mem_append_left _ (List.mem_append_left _ (List.mem_append_left _ (List.mem_append_left _ (List.mem_append_left _ hx)))))))))))))).trans (hac x hx)
  refine m_putF (1000) 14 (1014) hx hb hts hown hin hE oc10 hM hS (by decide) rfl (by decide) rfl (by decide) (by decide) rfl rfl rfl rfl tb_1191 dX10_init_118 (fun H locs G42 eG42 hM hS => ?_)
  subst eG42
  refine lv_aload_n hx hb dX10_init_121 rfl (lv_at hl 0 rfl) ?_
  refine lv_bipush (v := (24)) hx hb dX10_init_122 (by decide) ?_
  refine m_newi (1015) (t0 := 0) hx hb hts hE hM hS hA (by decide) (by decide) rfl (by decide) rfl (fun _ _ h => h) tb_121 rfl rfl (by decide) rfl (by decide) (Nat.le_of_ble_eq_true rfl) (Nat.le_of_ble_eq_true rfl) dX10_init_124 (fun H ad43 had hM hS => ?_)
  rw [← had (1000) (by decide)] at hl
  rw [← had (1000) (by decide)]
  have hac : ∀ x ∈ (nsC0 ++ [1000]), ad43 x = ad x := fun x hx => (had x (List.mem_append_left _ (List.mem_append_left _ (List.mem_append_left _ (List.mem_append_left _ (List.mem_append_left _ (List.mem_append_left _ (List.mem_append_left _ (List.mem_append_left _ (List.mem_append_left _ (List.mem_append_left _ (List.mem_append_left _ (List.mem_append_left _ (List.mem_append_left _ (List.mem_append_left _ hx))))))))))))))).trans (hac x hx)
  refine m_putF (1000) 15 (1015) hx hb hts hown hin hE oc10 hM hS (by decide) rfl (by decide) rfl (by decide) (by decide) rfl rfl rfl rfl tb_1192 dX10_init_126 (fun H locs G45 eG45 hM hS => ?_)
  subst eG45
  refine lv_aload_n hx hb dX10_init_129 rfl (lv_at hl 0 rfl) ?_
  refine lv_bipush (v := (24)) hx hb dX10_init_130 (by decide) ?_
  refine m_newi (1016) (t0 := 0) hx hb hts hE hM hS hA (by decide) (by decide) rfl (by decide) rfl (fun _ _ h => h) tb_121 rfl rfl (by decide) rfl (by decide) (Nat.le_of_ble_eq_true rfl) (Nat.le_of_ble_eq_true rfl) dX10_init_132 (fun H ad46 had hM hS => ?_)
  rw [← had (1000) (by decide)] at hl
  rw [← had (1000) (by decide)]
  have hac : ∀ x ∈ (nsC0 ++ [1000]), ad46 x = ad x := fun x hx => (had x (List.mem_append_left _ (List.mem_append_left _ (List.mem_append_left _ (List.mem_append_left _ (List.mem_append_left _ (List.mem_append_left _ (List.mem_append_left _ (List.mem_append_left _ (List.mem_append_left _ (List.mem_append_left _ (List.mem_append_left _ (List.mem_append_left _ (List.mem_append_left _ (List.mem_append_left _ (List.mem_append_left _ hx)))))))))))))))).trans (hac x hx)
  refine m_putF (1000) 16 (1016) hx hb hts hown hin hE oc10 hM hS (by decide) rfl (by decide) rfl (by decide) (by decide) rfl rfl rfl rfl tb_1193 dX10_init_134 (fun H locs G48 eG48 hM hS => ?_)
  subst eG48
  refine lv_aload_n hx hb dX10_init_137 rfl (lv_at hl 0 rfl) ?_
  refine lv_bipush (v := (8)) hx hb dX10_init_138 (by decide) ?_
  refine m_newi (1017) (t0 := 0) hx hb hts hE hM hS hA (by decide) (by decide) rfl (by decide) rfl (fun _ _ h => h) tb_121 rfl rfl (by decide) rfl (by decide) (Nat.le_of_ble_eq_true rfl) (Nat.le_of_ble_eq_true rfl) dX10_init_140 (fun H ad49 had hM hS => ?_)
  rw [← had (1000) (by decide)] at hl
  rw [← had (1000) (by decide)]
  have hac : ∀ x ∈ (nsC0 ++ [1000]), ad49 x = ad x := fun x hx => (had x (List.mem_append_left _ (List.mem_append_left _ (List.mem_append_left _ (List.mem_append_left _ (List.mem_append_left _ (List.mem_append_left _ (List.mem_append_left _ (List.mem_append_left _ (List.mem_append_left _ (List.mem_append_left _ (List.mem_append_left _ (List.mem_append_left _ (List.mem_append_left _ (List.mem_append_left _ (List.mem_append_left _ (List.mem_append_left _ hx))))))))))))))))).trans (hac x hx)
  refine m_putF (1000) 17 (1017) hx hb hts hown hin hE oc10 hM hS (by decide) rfl (by decide) rfl (by decide) (by decide) rfl rfl rfl rfl tb_1194 dX10_init_142 (fun H locs G51 eG51 hM hS => ?_)
  subst eG51
  refine lv_aload_n hx hb dX10_init_145 rfl (lv_at hl 0 rfl) ?_
  refine lv_bipush (v := (8)) hx hb dX10_init_146 (by decide) ?_
  refine m_newi (1018) (t0 := 0) hx hb hts hE hM hS hA (by decide) (by decide) rfl (by decide) rfl (fun _ _ h => h) tb_121 rfl rfl (by decide) rfl (by decide) (Nat.le_of_ble_eq_true rfl) (Nat.le_of_ble_eq_true rfl) dX10_init_148 (fun H ad52 had hM hS => ?_)
  rw [← had (1000) (by decide)] at hl
  rw [← had (1000) (by decide)]
  have hac : ∀ x ∈ (nsC0 ++ [1000]), ad52 x = ad x := fun x hx => (had x (List.mem_append_left _ (List.mem_append_left _ (List.mem_append_left _ (List.mem_append_left _ (List.mem_append_left _ (List.mem_append_left _ (List.mem_append_left _ (List.mem_append_left _ (List.mem_append_left _ (List.mem_append_left _ (List.mem_append_left _ (List.mem_append_left _ (List.mem_append_left _ (List.mem_append_left _ (List.mem_append_left _ (List.mem_append_left _ (List.mem_append_left _ hx)))))))))))))))))).trans (hac x hx)
  refine m_putF (1000) 18 (1018) hx hb hts hown hin hE oc10 hM hS (by decide) rfl (by decide) rfl (by decide) (by decide) rfl rfl rfl rfl tb_1195 dX10_init_150 (fun H locs G54 eG54 hM hS => ?_)
  subst eG54
  refine lv_aload_n hx hb dX10_init_153 rfl (lv_at hl 0 rfl) ?_
  refine lv_bipush (v := (8)) hx hb dX10_init_154 (by decide) ?_
  refine m_newi (1019) (t0 := 0) hx hb hts hE hM hS hA (by decide) (by decide) rfl (by decide) rfl (fun _ _ h => h) tb_121 rfl rfl (by decide) rfl (by decide) (Nat.le_of_ble_eq_true rfl) (Nat.le_of_ble_eq_true rfl) dX10_init_156 (fun H ad55 had hM hS => ?_)
  rw [← had (1000) (by decide)] at hl
  rw [← had (1000) (by decide)]
  have hac : ∀ x ∈ (nsC0 ++ [1000]), ad55 x = ad x := fun x hx => (had x (List.mem_append_left _ (List.mem_append_left _ (List.mem_append_left _ (List.mem_append_left _ (List.mem_append_left _ (List.mem_append_left _ (List.mem_append_left _ (List.mem_append_left _ (List.mem_append_left _ (List.mem_append_left _ (List.mem_append_left _ (List.mem_append_left _ (List.mem_append_left _ (List.mem_append_left _ (List.mem_append_left _ (List.mem_append_left _ (List.mem_append_left _ (List.mem_append_left _ hx))))))))))))))))))).trans (hac x hx)
  refine m_putF (1000) 19 (1019) hx hb hts hown hin hE oc10 hM hS (by decide) rfl (by decide) rfl (by decide) (by decide) rfl rfl rfl rfl tb_1196 dX10_init_158 (fun H locs G57 eG57 hM hS => ?_)
  subst eG57
  refine lv_aload_n hx hb dX10_init_161 rfl (lv_at hl 0 rfl) ?_
  refine lv_bipush (v := (8)) hx hb dX10_init_162 (by decide) ?_
  refine m_newi (1020) (t0 := 0) hx hb hts hE hM hS hA (by decide) (by decide) rfl (by decide) rfl (fun _ _ h => h) tb_121 rfl rfl (by decide) rfl (by decide) (Nat.le_of_ble_eq_true rfl) (Nat.le_of_ble_eq_true rfl) dX10_init_164 (fun H ad58 had hM hS => ?_)
  rw [← had (1000) (by decide)] at hl
  rw [← had (1000) (by decide)]
  have hac : ∀ x ∈ (nsC0 ++ [1000]), ad58 x = ad x := fun x hx => (had x (List.mem_append_left _ (List.mem_append_left _ (List.mem_append_left _ (List.mem_append_left _ (List.mem_append_left _ (List.mem_append_left _ (List.mem_append_left _ (List.mem_append_left _ (List.mem_append_left _ (List.mem_append_left _ (List.mem_append_left _ (List.mem_append_left _ (List.mem_append_left _ (List.mem_append_left _ (List.mem_append_left _ (List.mem_append_left _ (List.mem_append_left _ (List.mem_append_left _ (List.mem_append_left _ hx)))))))))))))))))))).trans (hac x hx)
  refine m_putF (1000) 20 (1020) hx hb hts hown hin hE oc10 hM hS (by decide) rfl (by decide) rfl (by decide) (by decide) rfl rfl rfl rfl tb_1197 dX10_init_166 (fun H locs G60 eG60 hM hS => ?_)
  subst eG60
  refine lv_aload_n hx hb dX10_init_169 rfl (lv_at hl 0 rfl) ?_
  refine lv_bipush (v := (8)) hx hb dX10_init_170 (by decide) ?_
  refine m_newi (1021) (t0 := 0) hx hb hts hE hM hS hA (by decide) (by decide) rfl (by decide) rfl (fun _ _ h => h) tb_121 rfl rfl (by decide) rfl (by decide) (Nat.le_of_ble_eq_true rfl) (Nat.le_of_ble_eq_true rfl) dX10_init_172 (fun H ad61 had hM hS => ?_)
  rw [← had (1000) (by decide)] at hl
  rw [← had (1000) (by decide)]
  have hac : ∀ x ∈ (nsC0 ++ [1000]), ad61 x = ad x := fun x hx => (had x (List.mem_append_left _ (List.mem_append_left _ (List.mem_append_left _ (List.mem_append_left _ (List.mem_append_left _ (List.mem_append_left _ (List.mem_append_left _ (List.mem_append_left _ (List.mem_append_left _ (List.mem_append_left _ (List.mem_append_left _ (List.mem_append_left _ (List.mem_append_left _ (List.mem_append_left _ (List.mem_append_left _ (List.mem_append_left _ (List.mem_append_left _ (List.mem_append_left _ (List.mem_append_left _ (List.mem_append_left _ hx))))))))))))))))))))).trans (hac x hx)
  refine m_putF (1000) 21 (1021) hx hb hts hown hin hE oc10 hM hS (by decide) rfl (by decide) rfl (by decide) (by decide) rfl rfl rfl rfl tb_1198 dX10_init_174 (fun H locs G63 eG63 hM hS => ?_)
  subst eG63
  refine lv_aload_n hx hb dX10_init_177 rfl (lv_at hl 0 rfl) ?_
  refine lv_bipush (v := (8)) hx hb dX10_init_178 (by decide) ?_
  refine m_newi (1022) (t0 := 0) hx hb hts hE hM hS hA (by decide) (by decide) rfl (by decide) rfl (fun _ _ h => h) tb_121 rfl rfl (by decide) rfl (by decide) (Nat.le_of_ble_eq_true rfl) (Nat.le_of_ble_eq_true rfl) dX10_init_180 (fun H ad64 had hM hS => ?_)
  rw [← had (1000) (by decide)] at hl
  rw [← had (1000) (by decide)]
  have hac : ∀ x ∈ (nsC0 ++ [1000]), ad64 x = ad x := fun x hx => (had x (List.mem_append_left _ (List.mem_append_left _ (List.mem_append_left _ (List.mem_append_left _ (List.mem_append_left _ (List.mem_append_left _ (List.mem_append_left _ (List.mem_append_left _ (List.mem_append_left _ (List.mem_append_left _ (List.mem_append_left _ (List.mem_append_left _ (List.mem_append_left _ (List.mem_append_left _ (List.mem_append_left _ (List.mem_append_left _ (List.mem_append_left _ (List.mem_append_left _ (List.mem_append_left _ (List.mem_append_left _ (List.mem_append_left _ hx)))))))))))))))))))))).trans (hac x hx)
  refine m_putF (1000) 22 (1022) hx hb hts hown hin hE oc10 hM hS (by decide) rfl (by decide) rfl (by decide) (by decide) rfl rfl rfl rfl tb_1199 dX10_init_182 (fun H locs G66 eG66 hM hS => ?_)
  subst eG66
  refine lv_aload_n hx hb dX10_init_185 rfl (lv_at hl 0 rfl) ?_
  refine lv_bipush (v := (8)) hx hb dX10_init_186 (by decide) ?_
  refine m_newi (1023) (t0 := 0) hx hb hts hE hM hS hA (by decide) (by decide) rfl (by decide) rfl (fun _ _ h => h) tb_121 rfl rfl (by decide) rfl (by decide) (Nat.le_of_ble_eq_true rfl) (Nat.le_of_ble_eq_true rfl) dX10_init_188 (fun H ad67 had hM hS => ?_)
  rw [← had (1000) (by decide)] at hl
  rw [← had (1000) (by decide)]
  have hac : ∀ x ∈ (nsC0 ++ [1000]), ad67 x = ad x := fun x hx => (had x (List.mem_append_left _ (List.mem_append_left _ (List.mem_append_left _ (List.mem_append_left _ (List.mem_append_left _ (List.mem_append_left _ (List.mem_append_left _ (List.mem_append_left _ (List.mem_append_left _ (List.mem_append_left _ (List.mem_append_left _ (List.mem_append_left _ (List.mem_append_left _ (List.mem_append_left _ (List.mem_append_left _ (List.mem_append_left _ (List.mem_append_left _ (List.mem_append_left _ (List.mem_append_left _ (List.mem_append_left _ (List.mem_append_left _ (List.mem_append_left _ hx))))))))))))))))))))))).trans (hac x hx)
  refine m_putF (1000) 23 (1023) hx hb hts hown hin hE oc10 hM hS (by decide) rfl (by decide) rfl (by decide) (by decide) rfl rfl rfl rfl tb_1200 dX10_init_190 (fun H locs G69 eG69 hM hS => ?_)
  subst eG69
  refine lv_aload_n hx hb dX10_init_193 rfl (lv_at hl 0 rfl) ?_
  refine lv_bipush (v := (13)) hx hb dX10_init_194 (by decide) ?_
  refine m_puti (1000) 33 hx hb hts hown hE oc10 hM hS (by decide) rfl (by decide) rfl rfl rfl rfl tb_1210 dX10_init_196 (fun H locs I70 eI70 hM hS => ?_)
  subst eI70
  refine lv_aload_n hx hb dX10_init_199 rfl (lv_at hl 0 rfl) ?_
  refine lv_sipush (v := (400)) hx hb dX10_init_200 (by decide) ?_
  refine m_newi (1034) (t0 := 1) hx hb hts hE hM hS hA (by decide) (by decide) rfl (by decide) rfl (fun _ _ h => h) tb_361 rfl rfl (by decide) rfl (by decide) (Nat.le_of_ble_eq_true rfl) (Nat.le_of_ble_eq_true rfl) dX10_init_203 (fun H ad71 had hM hS => ?_)
  rw [← had (1000) (by decide)] at hl
  rw [← had (1000) (by decide)]
  have hac : ∀ x ∈ (nsC0 ++ [1000]), ad71 x = ad x := fun x hx => (had x (List.mem_append_left _ (List.mem_append_left _ (List.mem_append_left _ (List.mem_append_left _ (List.mem_append_left _ (List.mem_append_left _ (List.mem_append_left _ (List.mem_append_left _ (List.mem_append_left _ (List.mem_append_left _ (List.mem_append_left _ (List.mem_append_left _ (List.mem_append_left _ (List.mem_append_left _ (List.mem_append_left _ (List.mem_append_left _ (List.mem_append_left _ (List.mem_append_left _ (List.mem_append_left _ (List.mem_append_left _ (List.mem_append_left _ (List.mem_append_left _ (List.mem_append_left _ hx)))))))))))))))))))))))).trans (hac x hx)
  refine m_putF (1000) 34 (1034) hx hb hts hown hin hE oc10 hM hS (by decide) rfl (by decide) rfl (by decide) (by decide) rfl rfl rfl rfl tb_1211 dX10_init_205 (fun H locs G73 eG73 hM hS => ?_)
  subst eG73
  refine lv_aload_n hx hb dX10_init_208 rfl (lv_at hl 0 rfl) ?_
  refine lv_sipush (v := (1800)) hx hb dX10_init_209 (by decide) ?_
  refine m_newi (1035) (t0 := 0) hx hb hts hE hM hS hA (by decide) (by decide) rfl (by decide) rfl (fun _ _ h => h) tb_121 rfl rfl (by decide) rfl (by decide) (Nat.le_of_ble_eq_true rfl) (Nat.le_of_ble_eq_true rfl) dX10_init_212 (fun H ad74 had hM hS => ?_)
  rw [← had (1000) (by decide)] at hl
  rw [← had (1000) (by decide)]
  have hac : ∀ x ∈ (nsC0 ++ [1000]), ad74 x = ad x := fun x hx => (had x (List.mem_append_left _ (List.mem_append_left _ (List.mem_append_left _ (List.mem_append_left _ (List.mem_append_left _ (List.mem_append_left _ (List.mem_append_left _ (List.mem_append_left _ (List.mem_append_left _ (List.mem_append_left _ (List.mem_append_left _ (List.mem_append_left _ (List.mem_append_left _ (List.mem_append_left _ (List.mem_append_left _ (List.mem_append_left _ (List.mem_append_left _ (List.mem_append_left _ (List.mem_append_left _ (List.mem_append_left _ (List.mem_append_left _ (List.mem_append_left _ (List.mem_append_left _ (List.mem_append_left _ hx))))))))))))))))))))))))).trans (hac x hx)
  refine m_putF (1000) 35 (1035) hx hb hts hown hin hE oc10 hM hS (by decide) rfl (by decide) rfl (by decide) (by decide) rfl rfl rfl rfl tb_1212 dX10_init_214 (fun H locs G76 eG76 hM hS => ?_)
  subst eG76
  refine lv_aload_n hx hb dX10_init_217 rfl (lv_at hl 0 rfl) ?_
  refine lv_sipush (v := (1800)) hx hb dX10_init_218 (by decide) ?_
  refine m_newi (1036) (t0 := 0) hx hb hts hE hM hS hA (by decide) (by decide) rfl (by decide) rfl (fun _ _ h => h) tb_121 rfl rfl (by decide) rfl (by decide) (Nat.le_of_ble_eq_true rfl) (Nat.le_of_ble_eq_true rfl) dX10_init_221 (fun H ad77 had hM hS => ?_)
  rw [← had (1000) (by decide)] at hl
  rw [← had (1000) (by decide)]
  have hac : ∀ x ∈ (nsC0 ++ [1000]), ad77 x = ad x := fun x hx => (had x (List.mem_append_left _ (List.mem_append_left _ (List.mem_append_left _ (List.mem_append_left _ (List.mem_append_left _ (List.mem_append_left _ (List.mem_append_left _ (List.mem_append_left _ (List.mem_append_left _ (List.mem_append_left _ (List.mem_append_left _ (List.mem_append_left _ (List.mem_append_left _ (List.mem_append_left _ (List.mem_append_left _ (List.mem_append_left _ (List.mem_append_left _ (List.mem_append_left _ (List.mem_append_left _ (List.mem_append_left _ (List.mem_append_left _ (List.mem_append_left _ (List.mem_append_left _ (List.mem_append_left _ (List.mem_append_left _ hx)))))))))))))))))))))))))).trans (hac x hx)
  refine m_putF (1000) 36 (1036) hx hb hts hown hin hE oc10 hM hS (by decide) rfl (by decide) rfl (by decide) (by decide) rfl rfl rfl rfl tb_1213 dX10_init_223 (fun H locs G79 eG79 hM hS => ?_)
  subst eG79
  refine lv_aload_n hx hb dX10_init_226 rfl (lv_at hl 0 rfl) ?_
  refine lv_bipush (v := (6)) hx hb dX10_init_227 (by decide) ?_
  refine m_newi (1037) (t0 := 0) hx hb hts hE hM hS hA (by decide) (by decide) rfl (by decide) rfl (fun _ _ h => h) tb_121 rfl rfl (by decide) rfl (by decide) (Nat.le_of_ble_eq_true rfl) (Nat.le_of_ble_eq_true rfl) dX10_init_229 (fun H ad80 had hM hS => ?_)
  rw [← had (1000) (by decide)] at hl
  rw [← had (1000) (by decide)]
  have hac : ∀ x ∈ (nsC0 ++ [1000]), ad80 x = ad x := fun x hx => (had x (List.mem_append_left _ (List.mem_append_left _ (List.mem_append_left _ (List.mem_append_left _ (List.mem_append_left _ (List.mem_append_left _ (List.mem_append_left _ (List.mem_append_left _ (List.mem_append_left _ (List.mem_append_left _ (List.mem_append_left _ (List.mem_append_left _ (List.mem_append_left _ (List.mem_append_left _ (List.mem_append_left _ (List.mem_append_left _ (List.mem_append_left _ (List.mem_append_left _ (List.mem_append_left _ (List.mem_append_left _ (List.mem_append_left _ (List.mem_append_left _ (List.mem_append_left _ (List.mem_append_left _ (List.mem_append_left _ (List.mem_append_left _ hx))))))))))))))))))))))))))).trans (hac x hx)
  refine m_putF (1000) 37 (1037) hx hb hts hown hin hE oc10 hM hS (by decide) rfl (by decide) rfl (by decide) (by decide) rfl rfl rfl rfl tb_1214 dX10_init_231 (fun H locs G82 eG82 hM hS => ?_)
  subst eG82
  refine lv_aload_n hx hb dX10_init_234 rfl (lv_at hl 0 rfl) ?_
  refine lv_bipush (v := (72)) hx hb dX10_init_235 (by decide) ?_
  refine m_newi (1038) (t0 := 0) hx hb hts hE hM hS hA (by decide) (by decide) rfl (by decide) rfl (fun _ _ h => h) tb_121 rfl rfl (by decide) rfl (by decide) (Nat.le_of_ble_eq_true rfl) (Nat.le_of_ble_eq_true rfl) dX10_init_237 (fun H ad83 had hM hS => ?_)
  rw [← had (1000) (by decide)] at hl
  rw [← had (1000) (by decide)]
  have hac : ∀ x ∈ (nsC0 ++ [1000]), ad83 x = ad x := fun x hx => (had x (List.mem_append_left _ (List.mem_append_left _ (List.mem_append_left _ (List.mem_append_left _ (List.mem_append_left _ (List.mem_append_left _ (List.mem_append_left _ (List.mem_append_left _ (List.mem_append_left _ (List.mem_append_left _ (List.mem_append_left _ (List.mem_append_left _ (List.mem_append_left _ (List.mem_append_left _ (List.mem_append_left _ (List.mem_append_left _ (List.mem_append_left _ (List.mem_append_left _ (List.mem_append_left _ (List.mem_append_left _ (List.mem_append_left _ (List.mem_append_left _ (List.mem_append_left _ (List.mem_append_left _ (List.mem_append_left _ (List.mem_append_left _ (List.mem_append_left _ hx)))))))))))))))))))))))))))).trans (hac x hx)
  refine m_putF (1000) 38 (1038) hx hb hts hown hin hE oc10 hM hS (by decide) rfl (by decide) rfl (by decide) (by decide) rfl rfl rfl rfl tb_1215 dX10_init_239 (fun H locs G85 eG85 hM hS => ?_)
  subst eG85
  refine lv_aload_n hx hb dX10_init_242 rfl (lv_at hl 0 rfl) ?_
  refine lv_bipush (v := (72)) hx hb dX10_init_243 (by decide) ?_
  refine m_newi (1039) (t0 := 0) hx hb hts hE hM hS hA (by decide) (by decide) rfl (by decide) rfl (fun _ _ h => h) tb_121 rfl rfl (by decide) rfl (by decide) (Nat.le_of_ble_eq_true rfl) (Nat.le_of_ble_eq_true rfl) dX10_init_245 (fun H ad86 had hM hS => ?_)
  rw [← had (1000) (by decide)] at hl
  rw [← had (1000) (by decide)]
  have hac : ∀ x ∈ (nsC0 ++ [1000]), ad86 x = ad x := fun x hx => (had x (List.mem_append_left _ (List.mem_append_left _ (List.mem_append_left _ (List.mem_append_left _ (List.mem_append_left _ (List.mem_append_left _ (List.mem_append_left _ (List.mem_append_left _ (List.mem_append_left _ (List.mem_append_left _ (List.mem_append_left _ (List.mem_append_left _ (List.mem_append_left _ (List.mem_append_left _ (List.mem_append_left _ (List.mem_append_left _ (List.mem_append_left _ (List.mem_append_left _ (List.mem_append_left _ (List.mem_append_left _ (List.mem_append_left _ (List.mem_append_left _ (List.mem_append_left _ (List.mem_append_left _ (List.mem_append_left _ (List.mem_append_left _ (List.mem_append_left _ (List.mem_append_left _ hx))))))))))))))))))))))))))))).trans (hac x hx)
  refine m_putF (1000) 39 (1039) hx hb hts hown hin hE oc10 hM hS (by decide) rfl (by decide) rfl (by decide) (by decide) rfl rfl rfl rfl tb_1216 dX10_init_247 (fun H locs G88 eG88 hM hS => ?_)
  subst eG88
  refine lv_aload_n hx hb dX10_init_250 rfl (lv_at hl 0 rfl) ?_
  refine lv_bipush (v := (72)) hx hb dX10_init_251 (by decide) ?_
  refine m_newi (1040) (t0 := 0) hx hb hts hE hM hS hA (by decide) (by decide) rfl (by decide) rfl (fun _ _ h => h) tb_121 rfl rfl (by decide) rfl (by decide) (Nat.le_of_ble_eq_true rfl) (Nat.le_of_ble_eq_true rfl) dX10_init_253 (fun H ad89 had hM hS => ?_)
  rw [← had (1000) (by decide)] at hl
  rw [← had (1000) (by decide)]
  have hac : ∀ x ∈ (nsC0 ++ [1000]), ad89 x = ad x := fun x hx => (had x (List.mem_append_left _ (List.mem_append_left _ (List.mem_append_left _ (List.mem_append_left _ (List.mem_append_left _ (List.mem_append_left _ (List.mem_append_left _ (List.mem_append_left _ (List.mem_append_left _ (List.mem_append_left _ (List.mem_append_left _ (List.mem_append_left _ (List.mem_append_left _ (List.mem_append_left _ (List.mem_append_left _ (List.mem_append_left _ (List.mem_append_left _ (List.mem_append_left _ (List.mem_append_left _ (List.mem_append_left _ (List.mem_append_left _ (List.mem_append_left _ (List.mem_append_left _ (List.mem_append_left _ (List.mem_append_left _ (List.mem_append_left _ (List.mem_append_left _ (List.mem_append_left _ (List.mem_append_left _ hx)))))))))))))))))))))))))))))).trans (hac x hx)
  refine m_putF (1000) 40 (1040) hx hb hts hown hin hE oc10 hM hS (by decide) rfl (by decide) rfl (by decide) (by decide) rfl rfl rfl rfl tb_1217 dX10_init_255 (fun H locs G91 eG91 hM hS => ?_)
  subst eG91
  refine lv_aload_n hx hb dX10_init_258 rfl (lv_at hl 0 rfl) ?_
  refine lv_bipush (v := (72)) hx hb dX10_init_259 (by decide) ?_
  refine m_newi (1041) (t0 := 0) hx hb hts hE hM hS hA (by decide) (by decide) rfl (by decide) rfl (fun _ _ h => h) tb_121 rfl rfl (by decide) rfl (by decide) (Nat.le_of_ble_eq_true rfl) (Nat.le_of_ble_eq_true rfl) dX10_init_261 (fun H ad92 had hM hS => ?_)
  rw [← had (1000) (by decide)] at hl
  rw [← had (1000) (by decide)]
  have hac : ∀ x ∈ (nsC0 ++ [1000]), ad92 x = ad x := fun x hx => (had x (List.mem_append_left _ (List.mem_append_left _ (List.mem_append_left _ (List.mem_append_left _ (List.mem_append_left _ (List.mem_append_left _ (List.mem_append_left _ (List.mem_append_left _ (List.mem_append_left _ (List.mem_append_left _ (List.mem_append_left _ (List.mem_append_left _ (List.mem_append_left _ (List.mem_append_left _ (List.mem_append_left _ (List.mem_append_left _ (List.mem_append_left _ (List.mem_append_left _ (List.mem_append_left _ (List.mem_append_left _ (List.mem_append_left _ (List.mem_append_left _ (List.mem_append_left _ (List.mem_append_left _ (List.mem_append_left _ (List.mem_append_left _ (List.mem_append_left _ (List.mem_append_left _ (List.mem_append_left _ (List.mem_append_left _ hx))))))))))))))))))))))))))))))).trans (hac x hx)
  refine m_putF (1000) 41 (1041) hx hb hts hown hin hE oc10 hM hS (by decide) rfl (by decide) rfl (by decide) (by decide) rfl rfl rfl rfl tb_1218 dX10_init_263 (fun H locs G94 eG94 hM hS => ?_)
  subst eG94
  refine lv_aload_n hx hb dX10_init_266 rfl (lv_at hl 0 rfl) ?_
  refine lv_sipush (v := (402)) hx hb dX10_init_267 (by decide) ?_
  refine m_newi (1042) (t0 := 0) hx hb hts hE hM hS hA (by decide) (by decide) rfl (by decide) rfl (fun _ _ h => h) tb_121 rfl rfl (by decide) rfl (by decide) (Nat.le_of_ble_eq_true rfl) (Nat.le_of_ble_eq_true rfl) dX10_init_270 (fun H ad95 had hM hS => ?_)
  rw [← had (1000) (by decide)] at hl
  rw [← had (1000) (by decide)]
  have hac : ∀ x ∈ (nsC0 ++ [1000]), ad95 x = ad x := fun x hx => (had x (List.mem_append_left _ (List.mem_append_left _ (List.mem_append_left _ (List.mem_append_left _ (List.mem_append_left _ (List.mem_append_left _ (List.mem_append_left _ (List.mem_append_left _ (List.mem_append_left _ (List.mem_append_left _ (List.mem_append_left _ (List.mem_append_left _ (List.mem_append_left _ (List.mem_append_left _ (List.mem_append_left _ (List.mem_append_left _ (List.mem_append_left _ (List.mem_append_left _ (List.mem_append_left _ (List.mem_append_left _ (List.mem_append_left _ (List.mem_append_left _ (List.mem_append_left _ (List.mem_append_left _ (List.mem_append_left _ (List.mem_append_left _ (List.mem_append_left _ (List.mem_append_left _ (List.mem_append_left _ (List.mem_append_left _ (List.mem_append_left _ hx)))))))))))))))))))))))))))))))).trans (hac x hx)
  refine m_putF (1000) 42 (1042) hx hb hts hown hin hE oc10 hM hS (by decide) rfl (by decide) rfl (by decide) (by decide) rfl rfl rfl rfl tb_1219 dX10_init_272 (fun H locs G97 eG97 hM hS => ?_)
  subst eG97
  refine lv_aload_n hx hb dX10_init_275 rfl (lv_at hl 0 rfl) ?_
  refine lv_bipush (v := (13)) hx hb dX10_init_276 (by decide) ?_
  refine m_newl (1043) hx hb hts hE hM hS hA (by decide) (by decide) rfl tb_198 (by decide) rfl (by decide) (Nat.le_of_ble_eq_true rfl) (Nat.le_of_ble_eq_true rfl) dX10_init_278 (fun H ad98 had hM hS => ?_)
  rw [← had (1000) (by decide)] at hl
  rw [← had (1000) (by decide)]
  have hac : ∀ x ∈ (nsC0 ++ [1000]), ad98 x = ad x := fun x hx => (had x (List.mem_append_left _ (List.mem_append_left _ (List.mem_append_left _ (List.mem_append_left _ (List.mem_append_left _ (List.mem_append_left _ (List.mem_append_left _ (List.mem_append_left _ (List.mem_append_left _ (List.mem_append_left _ (List.mem_append_left _ (List.mem_append_left _ (List.mem_append_left _ (List.mem_append_left _ (List.mem_append_left _ (List.mem_append_left _ (List.mem_append_left _ (List.mem_append_left _ (List.mem_append_left _ (List.mem_append_left _ (List.mem_append_left _ (List.mem_append_left _ (List.mem_append_left _ (List.mem_append_left _ (List.mem_append_left _ (List.mem_append_left _ (List.mem_append_left _ (List.mem_append_left _ (List.mem_append_left _ (List.mem_append_left _ (List.mem_append_left _ (List.mem_append_left _ hx))))))))))))))))))))))))))))))))).trans (hac x hx)
  refine m_putF (1000) 43 (1043) hx hb hts hown hin hE oc10 hM hS (by decide) rfl (by decide) rfl (by decide) (by decide) rfl rfl rfl rfl tb_1220 dX10_init_280 (fun H locs G100 eG100 hM hS => ?_)
  subst eG100
  refine lv_aload_n hx hb dX10_init_283 rfl (lv_at hl 0 rfl) ?_
  refine lv_sipush (v := (300)) hx hb dX10_init_284 (by decide) ?_
  refine m_newl (1044) hx hb hts hE hM hS hA (by decide) (by decide) rfl tb_198 (by decide) rfl (by decide) (Nat.le_of_ble_eq_true rfl) (Nat.le_of_ble_eq_true rfl) dX10_init_287 (fun H ad101 had hM hS => ?_)
  rw [← had (1000) (by decide)] at hl
  rw [← had (1000) (by decide)]
  have hac : ∀ x ∈ (nsC0 ++ [1000]), ad101 x = ad x := fun x hx => (had x (List.mem_append_left _ (List.mem_append_left _ (List.mem_append_left _ (List.mem_append_left _ (List.mem_append_left _ (List.mem_append_left _ (List.mem_append_left _ (List.mem_append_left _ (List.mem_append_left _ (List.mem_append_left _ (List.mem_append_left _ (List.mem_append_left _ (List.mem_append_left _ (List.mem_append_left _ (List.mem_append_left _ (List.mem_append_left _ (List.mem_append_left _ (List.mem_append_left _ (List.mem_append_left _ (List.mem_append_left _ (List.mem_append_left _ (List.mem_append_left _ (List.mem_append_left _ (List.mem_append_left _ (List.mem_append_left _ (List.mem_append_left _ (List.mem_append_left _ (List.mem_append_left _ (List.mem_append_left _ (List.mem_append_left _ (List.mem_append_left _ (List.mem_append_left _ (List.mem_append_left _ hx)))))))))))))))))))))))))))))))))).trans (hac x hx)
  refine m_putF (1000) 44 (1044) hx hb hts hown hin hE oc10 hM hS (by decide) rfl (by decide) rfl (by decide) (by decide) rfl rfl rfl rfl tb_1221 dX10_init_289 (fun H locs G103 eG103 hM hS => ?_)
  subst eG103
  refine lv_aload_n hx hb dX10_init_292 rfl (lv_at hl 0 rfl) ?_
  refine lv_bipush (v := (60)) hx hb dX10_init_293 (by decide) ?_
  refine m_newi (1045) (t0 := 0) hx hb hts hE hM hS hA (by decide) (by decide) rfl (by decide) rfl (fun _ _ h => h) tb_121 rfl rfl (by decide) rfl (by decide) (Nat.le_of_ble_eq_true rfl) (Nat.le_of_ble_eq_true rfl) dX10_init_295 (fun H ad104 had hM hS => ?_)
  rw [← had (1000) (by decide)] at hl
  rw [← had (1000) (by decide)]
  have hac : ∀ x ∈ (nsC0 ++ [1000]), ad104 x = ad x := fun x hx => (had x (List.mem_append_left _ (List.mem_append_left _ (List.mem_append_left _ (List.mem_append_left _ (List.mem_append_left _ (List.mem_append_left _ (List.mem_append_left _ (List.mem_append_left _ (List.mem_append_left _ (List.mem_append_left _ (List.mem_append_left _ (List.mem_append_left _ (List.mem_append_left _ (List.mem_append_left _ (List.mem_append_left _ (List.mem_append_left _ (List.mem_append_left _ (List.mem_append_left _ (List.mem_append_left _ (List.mem_append_left _ (List.mem_append_left _ (List.mem_append_left _ (List.mem_append_left _ (List.mem_append_left _ (List.mem_append_left _ (List.mem_append_left _ (List.mem_append_left _ (List.mem_append_left _ (List.mem_append_left _ (List.mem_append_left _ (List.mem_append_left _ (List.mem_append_left _ (List.mem_append_left _ (List.mem_append_left _ hx))))))))))))))))))))))))))))))))))).trans (hac x hx)
  refine m_putF (1000) 45 (1045) hx hb hts hown hin hE oc10 hM hS (by decide) rfl (by decide) rfl (by decide) (by decide) rfl rfl rfl rfl tb_1222 dX10_init_297 (fun H locs G106 eG106 hM hS => ?_)
  subst eG106
  refine lv_aload_n hx hb dX10_init_300 rfl (lv_at hl 0 rfl) ?_
  refine lv_bipush (v := (60)) hx hb dX10_init_301 (by decide) ?_
  refine m_newi (1046) (t0 := 0) hx hb hts hE hM hS hA (by decide) (by decide) rfl (by decide) rfl (fun _ _ h => h) tb_121 rfl rfl (by decide) rfl (by decide) (Nat.le_of_ble_eq_true rfl) (Nat.le_of_ble_eq_true rfl) dX10_init_303 (fun H ad107 had hM hS => ?_)
  rw [← had (1000) (by decide)] at hl
  rw [← had (1000) (by decide)]
  have hac : ∀ x ∈ (nsC0 ++ [1000]), ad107 x = ad x := fun x hx => (had x (List.mem_append_left _ (List.mem_append_left _ (List.mem_append_left _ (List.mem_append_left _ (List.mem_append_left _ (List.mem_append_left _ (List.mem_append_left _ (List.mem_append_left _ (List.mem_append_left _ (List.mem_append_left _ (List.mem_append_left _ (List.mem_append_left _ (List.mem_append_left _ (List.mem_append_left _ (List.mem_append_left _ (List.mem_append_left _ (List.mem_append_left _ (List.mem_append_left _ (List.mem_append_left _ (List.mem_append_left _ (List.mem_append_left _ (List.mem_append_left _ (List.mem_append_left _ (List.mem_append_left _ (List.mem_append_left _ (List.mem_append_left _ (List.mem_append_left _ (List.mem_append_left _ (List.mem_append_left _ (List.mem_append_left _ (List.mem_append_left _ (List.mem_append_left _ (List.mem_append_left _ (List.mem_append_left _ (List.mem_append_left _ hx)))))))))))))))))))))))))))))))))))).trans (hac x hx)
  refine m_putF (1000) 46 (1046) hx hb hts hown hin hE oc10 hM hS (by decide) rfl (by decide) rfl (by decide) (by decide) rfl rfl rfl rfl tb_1223 dX10_init_305 (fun H locs G109 eG109 hM hS => ?_)
  subst eG109
  refine lv_aload_n hx hb dX10_init_308 rfl (lv_at hl 0 rfl) ?_
  refine lv_bipush (v := (60)) hx hb dX10_init_309 (by decide) ?_
  refine m_newi (1047) (t0 := 0) hx hb hts hE hM hS hA (by decide) (by decide) rfl (by decide) rfl (fun _ _ h => h) tb_121 rfl rfl (by decide) rfl (by decide) (Nat.le_of_ble_eq_true rfl) (Nat.le_of_ble_eq_true rfl) dX10_init_311 (fun H ad110 had hM hS => ?_)
  rw [← had (1000) (by decide)] at hl
  rw [← had (1000) (by decide)]
  have hac : ∀ x ∈ (nsC0 ++ [1000]), ad110 x = ad x := fun x hx => (had x (List.mem_append_left _ (List.mem_append_left _ (List.mem_append_left _ (List.mem_append_left _ (List.mem_append_left _ (List.mem_append_left _ (List.mem_append_left _ (List.mem_append_left _ (List.mem_append_left _ (List.mem_append_left _ (List.mem_append_left _ (List.mem_append_left _ (List.mem_append_left _ (List.mem_append_left _ (List.mem_append_left _ (List.mem_append_left _ (List.mem_append_left _ (List.mem_append_left _ (List.mem_append_left _ (List.mem_append_left _ (List.mem_append_left _ (List.mem_append_left _ (List.mem_append_left _ (List.mem_append_left _ (List.mem_append_left _ (List.mem_append_left _ (List.mem_append_left _ (List.mem_append_left _ (List.mem_append_left _ (List.mem_append_left _ (List.mem_append_left _ (List.mem_append_left _ (List.mem_append_left _ (List.mem_append_left _ (List.mem_append_left _ (List.mem_append_left _ hx))))))))))))))))))))))))))))))))))))).trans (hac x hx)
  refine m_putF (1000) 47 (1047) hx hb hts hown hin hE oc10 hM hS (by decide) rfl (by decide) rfl (by decide) (by decide) rfl rfl rfl rfl tb_1224 dX10_init_313 (fun H locs G112 eG112 hM hS => ?_)
  subst eG112
  refine lv_aload_n hx hb dX10_init_316 rfl (lv_at hl 0 rfl) ?_
  refine lv_bipush (v := (60)) hx hb dX10_init_317 (by decide) ?_
  refine m_newi (1048) (t0 := 0) hx hb hts hE hM hS hA (by decide) (by decide) rfl (by decide) rfl (fun _ _ h => h) tb_121 rfl rfl (by decide) rfl (by decide) (Nat.le_of_ble_eq_true rfl) (Nat.le_of_ble_eq_true rfl) dX10_init_319 (fun H ad113 had hM hS => ?_)
  rw [← had (1000) (by decide)] at hl
  rw [← had (1000) (by decide)]
  have hac : ∀ x ∈ (nsC0 ++ [1000]), ad113 x = ad x := fun x hx => (had x (List.mem_append_left _ (List.mem_append_left _ (List.mem_append_left _ (List.mem_append_left _ (List.mem_append_left _ (List.mem_append_left _ (List.mem_append_left _ (List.mem_append_left _ (List.mem_append_left _ (List.mem_append_left _ (List.mem_append_left _ (List.mem_append_left _ (List.mem_append_left _ (List.mem_append_left _ (List.mem_append_left _ (List.mem_append_left _ (List.mem_append_left _ (List.mem_append_left _ (List.mem_append_left _ (List.mem_append_left _ (List.mem_append_left _ (List.mem_append_left _ (List.mem_append_left _ (List.mem_append_left _ (List.mem_append_left _ (List.mem_append_left _ (List.mem_append_left _ (List.mem_append_left _ (List.mem_append_left _ (List.mem_append_left _ (List.mem_append_left _ (List.mem_append_left _ (List.mem_append_left _ (List.mem_append_left _ (List.mem_append_left _ (List.mem_append_left _ (List.mem_append_left _ hx)))))))))))))))))))))))))))))))))))))).trans (hac x hx)
  refine m_putF (1000) 48 (1048) hx hb hts hown hin hE oc10 hM hS (by decide) rfl (by decide) rfl (by decide) (by decide) rfl rfl rfl rfl tb_1225 dX10_init_321 (fun H locs G115 eG115 hM hS => ?_)
  subst eG115
  refine lv_aload_n hx hb dX10_init_324 rfl (lv_at hl 0 rfl) ?_
  refine lv_sipush (v := (576)) hx hb dX10_init_325 (by decide) ?_
  refine m_newi (1049) (t0 := 0) hx hb hts hE hM hS hA (by decide) (by decide) rfl (by decide) rfl (fun _ _ h => h) tb_121 rfl rfl (by decide) rfl (by decide) (Nat.le_of_ble_eq_true rfl) (Nat.le_of_ble_eq_true rfl) dX10_init_328 (fun H ad116 had hM hS => ?_)
  rw [← had (1000) (by decide)] at hl
  rw [← had (1000) (by decide)]
  have hac : ∀ x ∈ (nsC0 ++ [1000]), ad116 x = ad x := fun x hx => (had x (List.mem_append_left _ (List.mem_append_left _ (List.mem_append_left _ (List.mem_append_left _ (List.mem_append_left _ (List.mem_append_left _ (List.mem_append_left _ (List.mem_append_left _ (List.mem_append_left _ (List.mem_append_left _ (List.mem_append_left _ (List.mem_append_left _ (List.mem_append_left _ (List.mem_append_left _ (List.mem_append_left _ (List.mem_append_left _ (List.mem_append_left _ (List.mem_append_left _ (List.mem_append_left _ (List.mem_append_left _ (List.mem_append_left _ (List.mem_append_left _ (List.mem_append_left _ (List.mem_append_left _ (List.mem_append_left _ (List.mem_append_left _ (List.mem_append_left _ (List.mem_append_left _ (List.mem_append_left _ (List.mem_append_left _ (List.mem_append_left _ (List.mem_append_left _ (List.mem_append_left _ (List.mem_append_left _ (List.mem_append_left _ (List.mem_append_left _ (List.mem_append_left _ (List.mem_append_left _ hx))))))))))))))))))))))))))))))))))))))).trans (hac x hx)
  refine m_putF (1000) 49 (1049) hx hb hts hown hin hE oc10 hM hS (by decide) rfl (by decide) rfl (by decide) (by decide) rfl rfl rfl rfl tb_1226 dX10_init_330 (fun H locs G118 eG118 hM hS => ?_)
  subst eG118
  refine lv_aload_n hx hb dX10_init_333 rfl (lv_at hl 0 rfl) ?_
  refine lv_bipush (v := (8)) hx hb dX10_init_334 (by decide) ?_
  refine m_newi (1050) (t0 := 0) hx hb hts hE hM hS hA (by decide) (by decide) rfl (by decide) rfl (fun _ _ h => h) tb_121 rfl rfl (by decide) rfl (by decide) (Nat.le_of_ble_eq_true rfl) (Nat.le_of_ble_eq_true rfl) dX10_init_336 (fun H ad119 had hM hS => ?_)
  rw [← had (1000) (by decide)] at hl
  rw [← had (1000) (by decide)]
  have hac : ∀ x ∈ (nsC0 ++ [1000]), ad119 x = ad x := fun x hx => (had x (List.mem_append_left _ (List.mem_append_left _ (List.mem_append_left _ (List.mem_append_left _ (List.mem_append_left _ (List.mem_append_left _ (List.mem_append_left _ (List.mem_append_left _ (List.mem_append_left _ (List.mem_append_left _ (List.mem_append_left _ (List.mem_append_left _ (List.mem_append_left _ (List.mem_append_left _ (List.mem_append_left _ (List.mem_append_left _ (List.mem_append_left _ (List.mem_append_left _ (List.mem_append_left _ (List.mem_append_left _ (List.mem_append_left _ (List.mem_append_left _ (List.mem_append_left _ (List.mem_append_left _ (List.mem_append_left _ (List.mem_append_left _ (List.mem_append_left _ (List.mem_append_left _ (List.mem_append_left _ (List.mem_append_left _ (List.mem_append_left _ (List.mem_append_left _ (List.mem_append_left _ (List.mem_append_left _ (List.mem_append_left _ (List.mem_append_left _ (List.mem_append_left _ (List.mem_append_left _ (List.mem_append_left _ hx)))))))))))))))))))))))))))))))))))))))).trans (hac x hx)
  refine m_putF (1000) 50 (1050) hx hb hts hown hin hE oc10 hM hS (by decide) rfl (by decide) rfl (by decide) (by decide) rfl rfl rfl rfl tb_1227 dX10_init_338 (fun H locs G121 eG121 hM hS => ?_)
  subst eG121
  refine lv_aload_n hx hb dX10_init_341 rfl (lv_at hl 0 rfl) ?_
  refine lv_iconst (v := (-1)) hx hb dX10_init_342 (by decide) ?_
  refine m_puti (1000) 57 hx hb hts hown hE oc10 hM hS (by decide) rfl (by decide) rfl rfl rfl rfl tb_1234 dX10_init_343 (fun H locs I122 eI122 hM hS => ?_)
  subst eI122
  refine lv_aload_n hx hb dX10_init_346 rfl (lv_at hl 0 rfl) ?_
  refine lv_bipush (v := (24)) hx hb dX10_init_347 (by decide) ?_
  refine m_newi (1058) (t0 := 3) hx hb hts hE hM hS hA (by decide) (by decide) rfl (by decide) rfl (fun _ _ h => h) tb_1418 rfl rfl (by decide) rfl (by decide) (Nat.le_of_ble_eq_true rfl) (Nat.le_of_ble_eq_true rfl) dX10_init_349 (fun H ad123 had hM hS => ?_)
  rw [← had (1000) (by decide)] at hl
  rw [← had (1000) (by decide)]
  have hac : ∀ x ∈ (nsC0 ++ [1000]), ad123 x = ad x := fun x hx => (had x (List.mem_append_left _ (List.mem_append_left _ (List.mem_append_left _ (List.mem_append_left _ (List.mem_append_left _ (List.mem_append_left _ (List.mem_append_left _ (List.mem_append_left _ (List.mem_append_left _ (List.mem_append_left _ (List.mem_append_left _ (List.mem_append_left _ (List.mem_append_left _ (List.mem_append_left _ (List.mem_append_left _ (List.mem_append_left _ (List.mem_append_left _ (List.mem_append_left _ (List.mem_append_left _ (List.mem_append_left _ (List.mem_append_left _ (List.mem_append_left _ (List.mem_append_left _ (List.mem_append_left _ (List.mem_append_left _ (List.mem_append_left _ (List.mem_append_left _ (List.mem_append_left _ (List.mem_append_left _ (List.mem_append_left _ (List.mem_append_left _ (List.mem_append_left _ (List.mem_append_left _ (List.mem_append_left _ (List.mem_append_left _ (List.mem_append_left _ (List.mem_append_left _ (List.mem_append_left _ (List.mem_append_left _ (List.mem_append_left _ hx))))))))))))))))))))))))))))))))))))))))).trans (hac x hx)
  refine m_putF (1000) 58 (1058) hx hb hts hown hin hE oc10 hM hS (by decide) rfl (by decide) rfl (by decide) (by decide) rfl rfl rfl rfl tb_1235 dX10_init_351 (fun H locs G125 eG125 hM hS => ?_)
  subst eG125
  refine lv_aload_n hx hb dX10_init_354 rfl (lv_at hl 0 rfl) ?_
  refine lv_bipush (v := (24)) hx hb dX10_init_355 (by decide) ?_
  refine m_newi (1060) (t0 := 0) hx hb hts hE hM hS hA (by decide) (by decide) rfl (by decide) rfl (fun _ _ h => h) tb_121 rfl rfl (by decide) rfl (by decide) (Nat.le_of_ble_eq_true rfl) (Nat.le_of_ble_eq_true rfl) dX10_init_357 (fun H ad126 had hM hS => ?_)
  rw [← had (1000) (by decide)] at hl
  rw [← had (1000) (by decide)]
  have hac : ∀ x ∈ (nsC0 ++ [1000]), ad126 x = ad x := fun x hx => (had x (List.mem_append_left _ (List.mem_append_left _ (List.mem_append_left _ (List.mem_append_left _ (List.mem_append_left _ (List.mem_append_left _ (List.mem_append_left _ (List.mem_append_left _ (List.mem_append_left _ (List.mem_append_left _ (List.mem_append_left _ (List.mem_append_left _ (List.mem_append_left _ (List.mem_append_left _ (List.mem_append_left _ (List.mem_append_left _ (List.mem_append_left _ (List.mem_append_left _ (List.mem_append_left _ (List.mem_append_left _ (List.mem_append_left _ (List.mem_append_left _ (List.mem_append_left _ (List.mem_append_left _ (List.mem_append_left _ (List.mem_append_left _ (List.mem_append_left _ (List.mem_append_left _ (List.mem_append_left _ (List.mem_append_left _ (List.mem_append_left _ (List.mem_append_left _ (List.mem_append_left _ (List.mem_append_left _ (List.mem_append_left _ (List.mem_append_left _ (List.mem_append_left _ (List.mem_append_left _ (List.mem_append_left _ (List.mem_append_left _ (List.mem_append_left _ hx)))))))))))))))))))))))))))))))))))))))))).trans (hac x hx)
  refine m_putF (1000) 60 (1060) hx hb hts hown hin hE oc10 hM hS (by decide) rfl (by decide) rfl (by decide) (by decide) rfl rfl rfl rfl tb_1237 dX10_init_359 (fun H locs G128 eG128 hM hS => ?_)
  subst eG128
  refine lv_aload_n hx hb dX10_init_362 rfl (lv_at hl 0 rfl) ?_
  refine lv_bipush (v := (24)) hx hb dX10_init_363 (by decide) ?_
  refine m_newi (1061) (t0 := 0) hx hb hts hE hM hS hA (by decide) (by decide) rfl (by decide) rfl (fun _ _ h => h) tb_121 rfl rfl (by decide) rfl (by decide) (Nat.le_of_ble_eq_true rfl) (Nat.le_of_ble_eq_true rfl) dX10_init_365 (fun H ad129 had hM hS => ?_)
  rw [← had (1000) (by decide)] at hl
  rw [← had (1000) (by decide)]
  have hac : ∀ x ∈ (nsC0 ++ [1000]), ad129 x = ad x := fun x hx => (had x (List.mem_append_left _ (List.mem_append_left _ (List.mem_append_left _ (List.mem_append_left _ (List.mem_append_left _ (List.mem_append_left _ (List.mem_append_left _ (List.mem_append_left _ (List.mem_append_left _ (List.mem_append_left _ (List.mem_append_left _ (List.mem_append_left _ (List.mem_append_left _ (List.mem_append_left _ (List.mem_append_left _ (List.mem_append_left _ (List.mem_append_left _ (List.mem_append_left _ (List.mem_append_left _ (List.mem_append_left _ (List.mem_append_left _ (List.mem_append_left _ (List.mem_append_left _ (List.mem_append_left _ (List.mem_append_left _ (List.mem_append_left _ (List.mem_append_left _ (List.mem_append_left _ (List.mem_append_left _ (List.mem_append_left _ (List.mem_append_left _ (List.mem_append_left _ (List.mem_append_left _ (List.mem_append_left _ (List.mem_append_left _ (List.mem_append_left _ (List.mem_append_left _ (List.mem_append_left _ (List.mem_append_left _ (List.mem_append_left _ (List.mem_append_left _ (List.mem_append_left _ hx))))))))))))))))))))))))))))))))))))))))))).trans (hac x hx)
  refine m_putF (1000) 61 (1061) hx hb hts hown hin hE oc10 hM hS (by decide) rfl (by decide) rfl (by decide) (by decide) rfl rfl rfl rfl tb_1238 dX10_init_367 (fun H locs G131 eG131 hM hS => ?_)
  subst eG131
  refine lv_aload_n hx hb dX10_init_370 rfl (lv_at hl 0 rfl) ?_
  refine lv_bipush (v := (24)) hx hb dX10_init_371 (by decide) ?_
  refine m_newi (1062) (t0 := 0) hx hb hts hE hM hS hA (by decide) (by decide) rfl (by decide) rfl (fun _ _ h => h) tb_121 rfl rfl (by decide) rfl (by decide) (Nat.le_of_ble_eq_true rfl) (Nat.le_of_ble_eq_true rfl) dX10_init_373 (fun H ad132 had hM hS => ?_)
  rw [← had (1000) (by decide)] at hl
  rw [← had (1000) (by decide)]
  have hac : ∀ x ∈ (nsC0 ++ [1000]), ad132 x = ad x := fun x hx => (had x (List.mem_append_left _ (List.mem_append_left _ (List.mem_append_left _ (List.mem_append_left _ (List.mem_append_left _ (List.mem_append_left _ (List.mem_append_left _ (List.mem_append_left _ (List.mem_append_left _ (List.mem_append_left _ (List.mem_append_left _ (List.mem_append_left _ (List.mem_append_left _ (List.mem_append_left _ (List.mem_append_left _ (List.mem_append_left _ (List.mem_append_left _ (List.mem_append_left _ (List.mem_append_left _ (List.mem_append_left _ (List.mem_append_left _ (List.mem_append_left _ (List.mem_append_left _ (List.mem_append_left _ (List.mem_append_left _ (List.mem_append_left _ (List.mem_append_left _ (List.mem_append_left _ (List.mem_append_left _ (List.mem_append_left _ (List.mem_append_left _ (List.mem_append_left _ (List.mem_append_left _ (List.mem_append_left _ (List.mem_append_left _ (List.mem_append_left _ (List.mem_append_left _ (List.mem_append_left _ (List.mem_append_left _ (List.mem_append_left _ (List.mem_append_left _ (List.mem_append_left _ (List.mem_append_left _ hx)))))))))))))))))))))))))))))))))))))))))))).trans (hac x hx)
  refine m_putF (1000) 62 (1062) hx hb hts hown hin hE oc10 hM hS (by decide) rfl (by decide) rfl (by decide) (by decide) rfl rfl rfl rfl tb_1239 dX10_init_375 (fun H locs G134 eG134 hM hS => ?_)
  subst eG134
  refine lv_aload_n hx hb dX10_init_378 rfl (lv_at hl 0 rfl) ?_
  refine lv_bipush (v := (8)) hx hb dX10_init_379 (by decide) ?_
  refine m_newi (1064) (t0 := 0) hx hb hts hE hM hS hA (by decide) (by decide) rfl (by decide) rfl (fun _ _ h => h) tb_121 rfl rfl (by decide) rfl (by decide) (Nat.le_of_ble_eq_true rfl) (Nat.le_of_ble_eq_true rfl) dX10_init_381 (fun H ad135 had hM hS => ?_)
  rw [← had (1000) (by decide)] at hl
  rw [← had (1000) (by decide)]
  have hac : ∀ x ∈ (nsC0 ++ [1000]), ad135 x = ad x := fun x hx => (had x (List.mem_append_left _ (List.mem_append_left _ (List.mem_append_left _ (List.mem_append_left _ (List.mem_append_left _ (List.mem_append_left _ (List.mem_append_left _ (List.mem_append_left _ (List.mem_append_left _ (List.mem_append_left _ (List.mem_append_left _ (List.mem_append_left _ (List.mem_append_left _ (List.mem_append_left _ (List.mem_append_left _ (List.mem_append_left _ (List.mem_append_left _ (List.mem_append_left _ (List.mem_append_left _ (List.mem_append_left _ (List.mem_append_left _ (List.mem_append_left _ (List.mem_append_left _ (List.mem_append_left _ (List.mem_append_left _ (List.mem_append_left _ (List.mem_append_left _ (List.mem_append_left _ (List.mem_append_left _ (List.mem_append_left _ (List.mem_append_left _ (List.mem_append_left _ (List.mem_append_left _ (List.mem_append_left _ (List.mem_append_left _ (List.mem_append_left _ (List.mem_append_left _ (List.mem_append_left _ (List.mem_append_left _ (List.mem_append_left _ (List.mem_append_left _ (List.mem_append_left _ (List.mem_append_left _ (List.mem_append_left _ hx))))))))))))))))))))))))))))))))))))))))))))).trans (hac x hx)
  refine m_putF (1000) 64 (1064) hx hb hts hown hin hE oc10 hM hS (by decide) rfl (by decide) rfl (by decide) (by decide) rfl rfl rfl rfl tb_1241 dX10_init_383 (fun H locs G137 eG137 hM hS => ?_)
  subst eG137
  refine lv_aload_n hx hb dX10_init_386 rfl (lv_at hl 0 rfl) ?_
  refine lv_bipush (v := (8)) hx hb dX10_init_387 (by decide) ?_
  refine m_newi (1066) (t0 := 0) hx hb hts hE hM hS hA (by decide) (by decide) rfl (by decide) rfl (fun _ _ h => h) tb_121 rfl rfl (by decide) rfl (by decide) (Nat.le_of_ble_eq_true rfl) (Nat.le_of_ble_eq_true rfl) dX10_init_389 (fun H ad138 had hM hS => ?_)
  rw [← had (1000) (by decide)] at hl
  rw [← had (1000) (by decide)]
  have hac : ∀ x ∈ (nsC0 ++ [1000]), ad138 x = ad x := fun x hx => (had x (List.mem_append_left _ (List.mem_append_left _ (List.mem_append_left _ (List.mem_append_left _ (List.mem_append_left _ (List.mem_append_left _ (List.mem_append_left _ (List.mem_append_left _ (List.mem_append_left _ (List.mem_append_left _ (List.mem_append_left _ (List.mem_append_left _ (List.mem_append_left _ (List.mem_append_left _ (List.mem_append_left _ (List.mem_append_left _ (List.mem_append_left _ (List.mem_append_left _ (List.mem_append_left _ (List.mem_append_left _ (List.mem_append_left _ (List.mem_append_left _ (List.mem_append_left _ (List.mem_append_left _ (List.mem_append_left _ (List.mem_append_left _ (List.mem_append_left _ (List.mem_append_left _ (List.mem_append_left _ (List.mem_append_left _ (List.mem_append_left _ (List.mem_append_left _ (List.mem_append_left _ (List.mem_append_left _ (List.mem_append_left _ (List.mem_append_left _ (List.mem_append_left _ (List.mem_append_left _ (List.mem_append_left _ (List.mem_append_left _ (List.mem_append_left _ (List.mem_append_left _ (List.mem_append_left _ (List.mem_append_left _ (List.mem_append_left _ hx)))))))))))))))))))))))))))))))))))))))))))))).trans (hac x hx)
  refine m_putF (1000) 66 (1066) hx hb hts hown hin hE oc10 hM hS (by decide) rfl (by decide) rfl (by decide) (by decide) rfl rfl rfl rfl tb_1243 dX10_init_391 (fun H locs G140 eG140 hM hS => ?_)
  subst eG140
  refine lv_aload_n hx hb dX10_init_394 rfl (lv_at hl 0 rfl) ?_
  refine lv_bipush (v := (24)) hx hb dX10_init_395 (by decide) ?_
  refine m_newi (1067) (t0 := 0) hx hb hts hE hM hS hA (by decide) (by decide) rfl (by decide) rfl (fun _ _ h => h) tb_121 rfl rfl (by decide) rfl (by decide) (Nat.le_of_ble_eq_true rfl) (Nat.le_of_ble_eq_true rfl) dX10_init_397 (fun H ad141 had hM hS => ?_)
  rw [← had (1000) (by decide)] at hl
  rw [← had (1000) (by decide)]
  have hac : ∀ x ∈ (nsC0 ++ [1000]), ad141 x = ad x := fun x hx => (had x (List.mem_append_left _ (List.mem_append_left _ (List.mem_append_left _ (List.mem_append_left _ (List.mem_append_left _ (List.mem_append_left _ (List.mem_append_left _ (List.mem_append_left _ (List.mem_append_left _ (List.mem_append_left _ (List.mem_append_left _ (List.mem_append_left _ (List.mem_append_left _ (List.mem_append_left _ (List.mem_append_left _ (List.mem_append_left _ (List.mem_append_left _ (List.mem_append_left _ (List.mem_append_left _ (List.mem_append_left _ (List.mem_append_left _ (List.mem_append_left _ (List.mem_append_left _ (List.mem_append_left _ (List.mem_append_left _ (List.mem_append_left _ (List.mem_append_left _ (List.mem_append_left _ (List.mem_append_left _ (List.mem_append_left _ (List.mem_append_left _ (List.mem_append_left _ (List.mem_append_left _ (List.mem_append_left _ (List.mem_append_left _ (List.mem_append_left _ (List.mem_append_left _ (List.mem_append_left _ (List.mem_append_left _ (List.mem_append_left _ (List.mem_append_left _ (List.mem_append_left _ (List.mem_append_left _ (List.mem_append_left _ (List.mem_append_left _ (List.mem_append_left _ hx))))))))))))))))))))))))))))))))))))))))))))))).trans (hac x hx)
  refine m_putF (1000) 67 (1067) hx hb hts hown hin hE oc10 hM hS (by decide) rfl (by decide) rfl (by decide) (by decide) rfl rfl rfl rfl tb_1244 dX10_init_399 (fun H locs G143 eG143 hM hS => ?_)
  subst eG143
  refine lv_aload_n hx hb dX10_init_402 rfl (lv_at hl 0 rfl) ?_
  refine lv_bipush (v := (24)) hx hb dX10_init_403 (by decide) ?_
  refine m_newi (1068) (t0 := 0) hx hb hts hE hM hS hA (by decide) (by decide) rfl (by decide) rfl (fun _ _ h => h) tb_121 rfl rfl (by decide) rfl (by decide) (Nat.le_of_ble_eq_true rfl) (Nat.le_of_ble_eq_true rfl) dX10_init_405 (fun H ad144 had hM hS => ?_)
  rw [← had (1000) (by decide)] at hl
  rw [← had (1000) (by decide)]
  have hac : ∀ x ∈ (nsC0 ++ [1000]), ad144 x = ad x := fun x hx => (had x (List.mem_append_left _ (List.mem_append_left _ (List.mem_append_left _ (List.mem_append_left _ (List.mem_append_left _ (List.mem_append_left _ (List.mem_append_left _ (List.mem_append_left _ (List.mem_append_left _ (List.mem_append_left _ (List.mem_append_left _ (List.mem_append_left _ (List.mem_append_left _ (List.mem_append_left _ (List.mem_append_left _ (List.mem_append_left _ (List.mem_append_left _ (List.mem_append_left _ (List.mem_append_left _ (List.mem_append_left _ (List.mem_append_left _ (List.mem_append_left _ (List.mem_append_left _ (List.mem_append_left _ (List.mem_append_left _ (List.mem_append_left _ (List.mem_append_left _ (List.mem_append_left _ (List.mem_append_left _ (List.mem_append_left _ (List.mem_append_left _ (List.mem_append_left _ (List.mem_append_left _ (List.mem_append_left _ (List.mem_append_left _ (List.mem_append_left _ (List.mem_append_left _ (List.mem_append_left _ (List.mem_append_left _ (List.mem_append_left _ (List.mem_append_left _ (List.mem_append_left _ (List.mem_append_left _ (List.mem_append_left _ (List.mem_append_left _ (List.mem_append_left _ (List.mem_append_left _ hx)))))))))))))))))))))))))))))))))))))))))))))))).trans (hac x hx)
  refine m_putF (1000) 68 (1068) hx hb hts hown hin hE oc10 hM hS (by decide) rfl (by decide) rfl (by decide) (by decide) rfl rfl rfl rfl tb_1245 dX10_init_407 (fun H locs G146 eG146 hM hS => ?_)
  subst eG146
  refine lv_aload_n hx hb dX10_init_410 rfl (lv_at hl 0 rfl) ?_
  refine lv_bipush (v := (24)) hx hb dX10_init_411 (by decide) ?_
  refine m_newi (1069) (t0 := 0) hx hb hts hE hM hS hA (by decide) (by decide) rfl (by decide) rfl (fun _ _ h => h) tb_121 rfl rfl (by decide) rfl (by decide) (Nat.le_of_ble_eq_true rfl) (Nat.le_of_ble_eq_true rfl) dX10_init_413 (fun H ad147 had hM hS => ?_)
  rw [← had (1000) (by decide)] at hl
  rw [← had (1000) (by decide)]
  have hac : ∀ x ∈ (nsC0 ++ [1000]), ad147 x = ad x := fun x hx => (had x (List.mem_append_left _ (List.mem_append_left _ (List.mem_append_left _ (List.mem_append_left _ (List.mem_append_left _ (List.mem_append_left _ (List.mem_append_left _ (List.mem_append_left _ (List.mem_append_left _ (List.mem_append_left _ (List.mem_append_left _ (List.mem_append_left _ (List.mem_append_left _ (List.mem_append_left _ (List.mem_append_left _ (List.mem_append_left _ (List.mem_append_left _ (List.mem_append_left _ (List.mem_append_left _ (List.mem_append_left _ (List.mem_append_left _ (List.mem_append_left _ (List.mem_append_left _ (List.mem_append_left _ (List.mem_append_left _ (List.mem_append_left _ (List.mem_append_left _ (List.mem_append_left _ (List.mem_append_left _ (List.mem_append_left _ (List.mem_append_left _ (List.mem_append_left _ (List.mem_append_left _ (List.mem_append_left _ (List.mem_append_left _ (List.mem_append_left _ (List.mem_append_left _ (List.mem_append_left _ (List.mem_append_left _ (List.mem_append_left _ (List.mem_append_left _ (List.mem_append_left _ (List.mem_append_left _ (List.mem_append_left _ (List.mem_append_left _ (List.mem_append_left _ (List.mem_append_left _ (List.mem_append_left _ hx))))))))))))))))))))))))))))))))))))))))))))))))).trans (hac x hx)
  refine m_putF (1000) 69 (1069) hx hb hts hown hin hE oc10 hM hS (by decide) rfl (by decide) rfl (by decide) (by decide) rfl rfl rfl rfl tb_1246 dX10_init_415 (fun H locs G149 eG149 hM hS => ?_)
  subst eG149
  refine lv_aload_n hx hb dX10_init_418 rfl (lv_at hl 0 rfl) ?_
  refine lv_bipush (v := (8)) hx hb dX10_init_419 (by decide) ?_
  refine m_newi (1070) (t0 := 0) hx hb hts hE hM hS hA (by decide) (by decide) rfl (by decide) rfl (fun _ _ h => h) tb_121 rfl rfl (by decide) rfl (by decide) (Nat.le_of_ble_eq_true rfl) (Nat.le_of_ble_eq_true rfl) dX10_init_421 (fun H ad150 had hM hS => ?_)
  rw [← had (1000) (by decide)] at hl
  rw [← had (1000) (by decide)]
  have hac : ∀ x ∈ (nsC0 ++ [1000]), ad150 x = ad x := fun x hx => (had x (List.mem_append_left _ (List.mem_append_left _ (List.mem_append_left _ (List.mem_append_left _ (List.mem_append_left _ (List.mem_append_left _ (List.mem_append_left _ (List.mem_append_left _ (List.mem_append_left _ (List.mem_append_left _ (List.mem_append_left _ (List.mem_append_left _ (List.mem_append_left _ (List.mem_append_left _ (List.mem_append_left _ (List.mem_append_left _ (List.mem_append_left _ (List.mem_append_left _ (List.mem_append_left _ (List.mem_append_left _ (List.mem_append_left _ (List.mem_append_left _ (List.mem_append_left _ (List.mem_append_left _ (List.mem_append_left _ (List.mem_append_left _ (List.mem_append_left _ (List.mem_append_left _ (List.mem_append_left _ (List.mem_append_left _ (List.mem_append_left _ (List.mem_append_left _ (List.mem_append_left _ (List.mem_append_left _ (List.mem_append_left _ (List.mem_append_left _ (List.mem_append_left _ (List.mem_append_left _ (List.mem_append_left _ (List.mem_append_left _ (List.mem_append_left _ (List.mem_append_left _ (List.mem_append_left _ (List.mem_append_left _ (List.mem_append_left _ (List.mem_append_left _ (List.mem_append_left _ (List.mem_append_left _ (List.mem_append_left _ hx)))))))))))))))))))))))))))))))))))))))))))))))))).trans (hac x hx)
  refine m_putF (1000) 70 (1070) hx hb hts hown hin hE oc10 hM hS (by decide) rfl (by decide) rfl (by decide) (by decide) rfl rfl rfl rfl tb_1247 dX10_init_423 (fun H locs G152 eG152 hM hS => ?_)
  subst eG152
  refine lv_aload_n hx hb dX10_init_426 rfl (lv_at hl 0 rfl) ?_
  refine lv_iconst (v := (4)) hx hb dX10_init_427 (by decide) ?_
  refine m_newi (1071) (t0 := 0) hx hb hts hE hM hS hA (by decide) (by decide) rfl (by decide) rfl (fun _ _ h => h) tb_121 rfl rfl (by decide) rfl (by decide) (Nat.le_of_ble_eq_true rfl) (Nat.le_of_ble_eq_true rfl) dX10_init_428 (fun H ad153 had hM hS => ?_)
  rw [← had (1000) (by decide)] at hl
  rw [← had (1000) (by decide)]
  have hac : ∀ x ∈ (nsC0 ++ [1000]), ad153 x = ad x := fun x hx => (had x (List.mem_append_left _ (List.mem_append_left _ (List.mem_append_left _ (List.mem_append_left _ (List.mem_append_left _ (List.mem_append_left _ (List.mem_append_left _ (List.mem_append_left _ (List.mem_append_left _ (List.mem_append_left _ (List.mem_append_left _ (List.mem_append_left _ (List.mem_append_left _ (List.mem_append_left _ (List.mem_append_left _ (List.mem_append_left _ (List.mem_append_left _ (List.mem_append_left _ (List.mem_append_left _ (List.mem_append_left _ (List.mem_append_left _ (List.mem_append_left _ (List.mem_append_left _ (List.mem_append_left _ (List.mem_append_left _ (List.mem_append_left _ (List.mem_append_left _ (List.mem_append_left _ (List.mem_append_left _ (List.mem_append_left _ (List.mem_append_left _ (List.mem_append_left _ (List.mem_append_left _ (List.mem_append_left _ (List.mem_append_left _ (List.mem_append_left _ (List.mem_append_left _ (List.mem_append_left _ (List.mem_append_left _ (List.mem_append_left _ (List.mem_append_left _ (List.mem_append_left _ (List.mem_append_left _ (List.mem_append_left _ (List.mem_append_left _ (List.mem_append_left _ (List.mem_append_left _ (List.mem_append_left _ (List.mem_append_left _ (List.mem_append_left _ hx))))))))))))))))))))))))))))))))))))))))))))))))))).trans (hac x hx)
  refine m_putF (1000) 71 (1071) hx hb hts hown hin hE oc10 hM hS (by decide) rfl (by decide) rfl (by decide) (by decide) rfl rfl rfl rfl tb_1248 dX10_init_430 (fun H locs G155 eG155 hM hS => ?_)
  subst eG155
  refine lv_aload_n hx hb dX10_init_433 rfl (lv_at hl 0 rfl) ?_
  refine lv_iconst (v := (4)) hx hb dX10_init_434 (by decide) ?_
  refine m_newi (1072) (t0 := 0) hx hb hts hE hM hS hA (by decide) (by decide) rfl (by decide) rfl (fun _ _ h => h) tb_121 rfl rfl (by decide) rfl (by decide) (Nat.le_of_ble_eq_true rfl) (Nat.le_of_ble_eq_true rfl) dX10_init_435 (fun H ad156 had hM hS => ?_)
  rw [← had (1000) (by decide)] at hl
  rw [← had (1000) (by decide)]
  have hac : ∀ x ∈ (nsC0 ++ [1000]), ad156 x = ad x := fun x hx => (had x (List.mem_append_left _ (List.mem_append_left _ (List.mem_append_left _ (List.mem_append_left _ (List.mem_append_left _ (List.mem_append_left _ (List.mem_append_left _ (List.mem_append_left _ (List.mem_append_left _ (List.mem_append_left _ (List.mem_append_left _ (List.mem_append_left _ (List.mem_append_left _ (List.mem_append_left _ (List.mem_append_left _ (List.mem_append_left _ (List.mem_append_left _ (List.mem_append_left _ (List.mem_append_left _ (List.mem_append_left _ (List.mem_append_left _ (List.mem_append_left _ (List.mem_append_left _ (List.mem_append_left _ (List.mem_append_left _ (List.mem_append_left _ (List.mem_append_left _ (List.mem_append_left _ (List.mem_append_left _ (List.mem_append_left _ (List.mem_append_left _ (List.mem_append_left _ (List.mem_append_left _ (List.mem_append_left _ (List.mem_append_left _ (List.mem_append_left _ (List.mem_append_left _ (List.mem_append_left _ (List.mem_append_left _ (List.mem_append_left _ (List.mem_append_left _ (List.mem_append_left _ (List.mem_append_left _ (List.mem_append_left _ (List.mem_append_left _ (List.mem_append_left _ (List.mem_append_left _ (List.mem_append_left _ (List.mem_append_left _ (List.mem_append_left _ (List.mem_append_left _ hx)))))))))))))))))))))))))))))))))))))))))))))))))))).trans (hac x hx)
  refine m_putF (1000) 72 (1072) hx hb hts hown hin hE oc10 hM hS (by decide) rfl (by decide) rfl (by decide) (by decide) rfl rfl rfl rfl tb_1249 dX10_init_437 (fun H locs G158 eG158 hM hS => ?_)
  subst eG158
  refine lv_aload_n hx hb dX10_init_440 rfl (lv_at hl 0 rfl) ?_
  refine lv_iconst (v := (5)) hx hb dX10_init_441 (by decide) ?_
  refine m_newi (1073) (t0 := 0) hx hb hts hE hM hS hA (by decide) (by decide) rfl (by decide) rfl (fun _ _ h => h) tb_121 rfl rfl (by decide) rfl (by decide) (Nat.le_of_ble_eq_true rfl) (Nat.le_of_ble_eq_true rfl) dX10_init_442 (fun H ad159 had hM hS => ?_)
  rw [← had (1000) (by decide)] at hl
  rw [← had (1000) (by decide)]
  have hac : ∀ x ∈ (nsC0 ++ [1000]), ad159 x = ad x := fun x hx => (had x (List.mem_append_left _ (List.mem_append_left _ (List.mem_append_left _ (List.mem_append_left _ (List.mem_append_left _ (List.mem_append_left _ (List.mem_append_left _ (List.mem_append_left _ (List.mem_append_left _ (List.mem_append_left _ (List.mem_append_left _ (List.mem_append_left _ (List.mem_append_left _ (List.mem_append_left _ (List.mem_append_left _ (List.mem_append_left _ (List.mem_append_left _ (List.mem_append_left _ (List.mem_append_left _ (List.mem_append_left _ (List.mem_append_left _ (List.mem_append_left _ (List.mem_append_left _ (List.mem_append_left _ (List.mem_append_left _ (List.mem_append_left _ (List.mem_append_left _ (List.mem_append_left _ (List.mem_append_left _ (List.mem_append_left _ (List.mem_append_left _ (List.mem_append_left _ (List.mem_append_left _ (List.mem_append_left _ (List.mem_append_left _ (List.mem_append_left _ (List.mem_append_left _ (List.mem_append_left _ (List.mem_append_left _ (List.mem_append_left _ (List.mem_append_left _ (List.mem_append_left _ (List.mem_append_left _ (List.mem_append_left _ (List.mem_append_left _ (List.mem_append_left _ (List.mem_append_left _ (List.mem_append_left _ (List.mem_append_left _ (List.mem_append_left _ (List.mem_append_left _ (List.mem_append_left _ hx))))))))))))))))))))))))))))))))))))))))))))))))))))).trans (hac x hx)
  refine m_putF (1000) 73 (1073) hx hb hts hown hin hE oc10 hM hS (by decide) rfl (by decide) rfl (by decide) (by decide) rfl rfl rfl rfl tb_1250 dX10_init_444 (fun H locs G161 eG161 hM hS => ?_)
  subst eG161
  refine lv_aload_n hx hb dX10_init_447 rfl (lv_at hl 0 rfl) ?_
  refine lv_sipush (v := (10880)) hx hb dX10_init_448 (by decide) ?_
  refine m_newi (1076) (t0 := 0) hx hb hts hE hM hS hA (by decide) (by decide) rfl (by decide) rfl (fun _ _ h => h) tb_121 rfl rfl (by decide) rfl (by decide) (Nat.le_of_ble_eq_true rfl) (Nat.le_of_ble_eq_true rfl) dX10_init_451 (fun H ad162 had hM hS => ?_)
  rw [← had (1000) (by decide)] at hl
  rw [← had (1000) (by decide)]
  have hac : ∀ x ∈ (nsC0 ++ [1000]), ad162 x = ad x := fun x hx => (had x (List.mem_append_left _ (List.mem_append_left _ (List.mem_append_left _ (List.mem_append_left _ (List.mem_append_left _ (List.mem_append_left _ (List.mem_append_left _ (List.mem_append_left _ (List.mem_append_left _ (List.mem_append_left _ (List.mem_append_left _ (List.mem_append_left _ (List.mem_append_left _ (List.mem_append_left _ (List.mem_append_left _ (List.mem_append_left _ (List.mem_append_left _ (List.mem_append_left _ (List.mem_append_left _ (List.mem_append_left _ (List.mem_append_left _ (List.mem_append_left _ (List.mem_append_left _ (List.mem_append_left _ (List.mem_append_left _ (List.mem_append_left _ (List.mem_append_left _ (List.mem_append_left _ (List.mem_append_left _ (List.mem_append_left _ (List.mem_append_left _ (List.mem_append_left _ (List.mem_append_left _ (List.mem_append_left _ (List.mem_append_left _ (List.mem_append_left _ (List.mem_append_left _ (List.mem_append_left _ (List.mem_append_left _ (List.mem_append_left _ (List.mem_append_left _ (List.mem_append_left _ (List.mem_append_left _ (List.mem_append_left _ (List.mem_append_left _ (List.mem_append_left _ (List.mem_append_left _ (List.mem_append_left _ (List.mem_append_left _ (List.mem_append_left _ (List.mem_append_left _ (List.mem_append_left _ (List.mem_append_left _ hx)))))))))))))))))))))))))))))))))))))))))))))))))))))).trans (hac x hx)
  refine m_putF (1000) 76 (1076) hx hb hts hown hin hE oc10 hM hS (by decide) rfl (by decide) rfl (by decide) (by decide) rfl rfl rfl rfl tb_1253 dX10_init_453 (fun H locs G164 eG164 hM hS => ?_)
  subst eG164
  refine lv_aload_n hx hb dX10_init_456 rfl (lv_at hl 0 rfl) ?_
  refine lv_iconst (v := (4)) hx hb dX10_init_457 (by decide) ?_
  refine m_newi (1077) (t0 := 3) hx hb hts hE hM hS hA (by decide) (by decide) rfl (by decide) rfl (fun _ _ h => h) tb_1418 rfl rfl (by decide) rfl (by decide) (Nat.le_of_ble_eq_true rfl) (Nat.le_of_ble_eq_true rfl) dX10_init_458 (fun H ad165 had hM hS => ?_)
  rw [← had (1000) (by decide)] at hl
  rw [← had (1000) (by decide)]
  have hac : ∀ x ∈ (nsC0 ++ [1000]), ad165 x = ad x := fun x hx => (had x (List.mem_append_left _ (List.mem_append_left _ (List.mem_append_left _ (List.mem_append_left _ (List.mem_append_left _ (List.mem_append_left _ (List.mem_append_left _ (List.mem_append_left _ (List.mem_append_left _ (List.mem_append_left _ (List.mem_append_left _ (List.mem_append_left _ (List.mem_append_left _ (List.mem_append_left _ (List.mem_append_left _ (List.mem_append_left _ (List.mem_append_left _ (List.mem_append_left _ (List.mem_append_left _ (List.mem_append_left _ (List.mem_append_left _ (List.mem_append_left _ (List.mem_append_left _ (List.mem_append_left _ (List.mem_append_left _ (List.mem_append_left _ (List.mem_append_left _ (List.mem_append_left _ (List.mem_append_left _ (List.mem_append_left _ (List.mem_append_left _ (List.mem_append_left _ (List.mem_append_left _ (List.mem_append_left _ (List.mem_append_left _ (List.mem_append_left _ (List.mem_append_left _ (List.mem_append_left _ (List.mem_append_left _ (List.mem_append_left _ (List.mem_append_left _ (List.mem_append_left _ (List.mem_append_left _ (List.mem_append_left _ (List.mem_append_left _ (List.mem_append_left _ (List.mem_append_left _ (List.mem_append_left _ (List.mem_append_left _ (List.mem_append_left _ (List.mem_append_left _ (List.mem_append_left _ (List.mem_append_left _ (List.mem_append_left _ hx))))))))))))))))))))))))))))))))))))))))))))))))))))))).trans (hac x hx)
  refine m_putF (1000) 77 (1077) hx hb hts hown hin hE oc10 hM hS (by decide) rfl (by decide) rfl (by decide) (by decide) rfl rfl rfl rfl tb_1254 dX10_init_460 (fun H locs G167 eG167 hM hS => ?_)
  subst eG167
  exact m_vret hx hb hr hlocks hM hS (Nat.le_of_ble_eq_true rfl) (Nat.le_of_ble_eq_true rfl) ⟨_, rfl, hac⟩ dX10_init_463
theorem sgc0 : SGC nsA0 gA0 := ⟨by decide, by decide⟩
theorem sgm0 : SGM nsA0 gA0 := ⟨by decide, by decide⟩
