theorem dL_law_1085 : decode cL_law 1085 = .ok (.aload_n 1, 1) := by decide +kernel
theorem dL_law_1086 : decode cL_law 1086 = .ok (.aload_n 0, 1) := by decide +kernel
theorem dL_law_1087 : decode cL_law 1087 = .ok (.iload_n 3, 1) := by decide +kernel
theorem dL_law_1088 : decode cL_law 1088 = .ok (.iconst 1, 1) := by decide +kernel
theorem dL_law_1089 : decode cL_law 1089 = .ok (.iadd, 1) := by decide +kernel
theorem dL_law_1090 : decode cL_law 1090 = .ok (.iaload, 1) := by decide +kernel
theorem dL_law_1091 : decode cL_law 1091 = .ok (.aload_n 0, 1) := by decide +kernel
theorem dL_law_1092 : decode cL_law 1092 = .ok (.iload_n 3, 1) := by decide +kernel
theorem dL_law_1093 : decode cL_law 1093 = .ok (.iconst 2, 1) := by decide +kernel
theorem dL_law_1094 : decode cL_law 1094 = .ok (.iadd, 1) := by decide +kernel
theorem dL_law_1095 : decode cL_law 1095 = .ok (.iaload, 1) := by decide +kernel
theorem dL_law_1096 : decode cL_law 1096 = .ok (.invokevirtual 107, 3) := by decide +kernel
theorem dL_law_1099 : decode cL_law 1099 = .ok (.pop, 1) := by decide +kernel
theorem dL_law_1100 : decode cL_law 1100 = .ok (.aload_n 2, 1) := by decide +kernel
theorem dL_law_1101 : decode cL_law 1101 = .ok (.aload_n 0, 1) := by decide +kernel
theorem dL_law_1102 : decode cL_law 1102 = .ok (.iload_n 3, 1) := by decide +kernel
theorem dL_law_1103 : decode cL_law 1103 = .ok (.iconst 1, 1) := by decide +kernel
theorem dL_law_1104 : decode cL_law 1104 = .ok (.iadd, 1) := by decide +kernel
theorem dL_law_1105 : decode cL_law 1105 = .ok (.iaload, 1) := by decide +kernel
theorem dL_law_1106 : decode cL_law 1106 = .ok (.aload_n 0, 1) := by decide +kernel
theorem dL_law_1107 : decode cL_law 1107 = .ok (.iload_n 3, 1) := by decide +kernel
theorem dL_law_1108 : decode cL_law 1108 = .ok (.iconst 2, 1) := by decide +kernel
theorem dL_law_1109 : decode cL_law 1109 = .ok (.iadd, 1) := by decide +kernel
theorem dL_law_1110 : decode cL_law 1110 = .ok (.iaload, 1) := by decide +kernel
theorem dL_law_1111 : decode cL_law 1111 = .ok (.invokevirtual 110, 3) := by decide +kernel
theorem dL_law_1114 : decode cL_law 1114 = .ok (.pop, 1) := by decide +kernel
theorem dL_law_1115 : decode cL_law 1115 = .ok (.goto 416, 3) := by decide +kernel
set_option maxHeartbeats 4000000 in
theorem lc_21 {p : Program} {l : Launch} {e : Env} {s : State} {m : MethodId} {below : List Frame} {meth : Method} {c : Code} {b N : Nat} {ii : Int32} {xs : Nat → Int32} {D : va_G} {A : Nat → Prop} {ad : Nat → Nat} {ns : List Nat} {I : MI} {L : ML} {G : MG} {H : Heap} {locs : List Loc} {ls : Array Slot} {cells slots : Nat} (F : LF p s m meth c b N xs D A) (hN : N ≤ 4096) (hi : 0 ≤ ii.toInt ∧ ii.toInt + 8 ≤ N) (hc : cells ≤ 500000) (hs : slots ≤ 5000000) (fw : WD ns I G) (hM : Mem D A ad ns I L G H) (hS : va_S A s.heap H locs) (hl : lv_has ls 4 [(0, .ref (b)), (1, .ref (ad (0))), (2, .ref (ad (1000))), (3, .int (ii))]) (kk : LK p l e s m below meth c b ii D A cells slots) : W p l e room_1 s m #[Value.ref b] below meth c H locs cells slots (lw_Z below #[Value.ref b] s) (F0 m 1085 ls []) := by
  obtain ⟨hx, hb, hml, hown, hts, hX, hbl, hbA, hA, hE⟩ := F
  obtain ⟨hC, hJ, hI, hLM, hRel⟩ := fw
  have hI0 := hI
  have hG := hC.1
  have hL := hC.lws
  have hIm := hC.2.1.ims
  have tii := tn hi.1
  have k0 : (0 : Int32).toInt = 0 := by decide
  have k1 : (1 : Int32).toInt = 1 := by decide
  have k2 : (2 : Int32).toInt = 2 := by decide
  refine lv_aload_n hx hb dL_law_1085 rfl (lv_at hl 1 rfl) ?_
  refine lv_aload_n hx hb dL_law_1086 rfl (lv_at hl 0 rfl) ?_
  refine lv_iload_n hx hb dL_law_1087 rfl (lv_at hl 3 rfl) ?_
  refine lv_iconst (v := (1)) hx hb dL_law_1088 (by decide) ?_
  refine lv_iadd hx hb dL_law_1089 ?_
  refine lv_topi (fun v1 ev1 => ?_)
  have sv1 := sx 1 ev1 (by decide) (by decide) hi hN
  refine va_sld hx hb hX hbl hbA hS (i := v1) (vp_in_iff.mpr sv1.1) dL_law_1090 ?_
  rw [sv1.2]
  clear sv1
  refine lv_aload_n hx hb dL_law_1091 rfl (lv_at hl 0 rfl) ?_
  refine lv_iload_n hx hb dL_law_1092 rfl (lv_at hl 3 rfl) ?_
  refine lv_iconst (v := (2)) hx hb dL_law_1093 (by decide) ?_
  refine lv_iadd hx hb dL_law_1094 ?_
  refine lv_topi (fun v2 ev2 => ?_)
  have sv2 := sx 2 ev2 (by decide) (by decide) hi hN
  refine va_sld hx hb hX hbl hbA hS (i := v2) (vp_in_iff.mpr sv2.1) dL_law_1095 ?_
  rw [sv2.2]
  clear sv2
  refine m_calli (m_runV (0) (As := [.int (xs (ii.toNatClampNeg + 1)), .int (xs (ii.toNatClampNeg + 2))]) (rest := []) hx hb hml hown hts hE hM hS hA ce_X9_owned tb_948 (V_X9_owned l D A ad ns I L G (xs (ii.toNatClampNeg + 1)) (xs (ii.toNatClampNeg + 2)) hG hI) rfl rfl ⟨Nat.le_of_ble_eq_true rfl, Nat.le_of_ble_eq_true rfl⟩ (hG.1 0 (by decide)) rfl rfl (by decide) rfl hl.1 rfl (Nat.le_of_ble_eq_true rfl) dL_law_1096 ⟨(by show _ + _ ≤ 600000; omega), (by show _ + _ ≤ 7302250; omega)⟩) hS (fun r3 u H locs hw hM hS => ?_)
  obtain ⟨I1, L1, rfl, hI, hk1⟩ := hw
  have hM : Mem D A ad ns I1 L1 G H := hM
  replace hC : CW ns I1 G := cw_keep hC (hk1.get 0 14 rfl)
  replace hLM : LWM I1 := hLM.out (hk1.out rfl)
  refine lv_pop hx hb dL_law_1099 rfl ?_
  refine lv_aload_n hx hb dL_law_1100 rfl (lv_at hl 2 rfl) ?_
  refine lv_aload_n hx hb dL_law_1101 rfl (lv_at hl 0 rfl) ?_
  refine lv_iload_n hx hb dL_law_1102 rfl (lv_at hl 3 rfl) ?_
  refine lv_iconst (v := (1)) hx hb dL_law_1103 (by decide) ?_
  refine lv_iadd hx hb dL_law_1104 ?_
  refine lv_topi (fun v4 ev4 => ?_)
  have sv4 := sx 1 ev4 (by decide) (by decide) hi hN
  refine va_sld hx hb hX hbl hbA hS (i := v4) (vp_in_iff.mpr sv4.1) dL_law_1105 ?_
  rw [sv4.2]
  clear sv4
  refine lv_aload_n hx hb dL_law_1106 rfl (lv_at hl 0 rfl) ?_
  refine lv_iload_n hx hb dL_law_1107 rfl (lv_at hl 3 rfl) ?_
  refine lv_iconst (v := (2)) hx hb dL_law_1108 (by decide) ?_
  refine lv_iadd hx hb dL_law_1109 ?_
  refine lv_topi (fun v5 ev5 => ?_)
  have sv5 := sx 2 ev5 (by decide) (by decide) hi hN
  refine va_sld hx hb hX hbl hbA hS (i := v5) (vp_in_iff.mpr sv5.1) dL_law_1110 ?_
  rw [sv5.2]
  clear sv5
  refine m_calli (m_runV (1000) (As := [.int (xs (ii.toNatClampNeg + 1)), .int (xs (ii.toNatClampNeg + 2))]) (rest := []) hx hb hml hown hts hE hM hS hA ce_X10_owned tb_1731 (V_X10_owned l D A ad ns I1 L1 G (xs (ii.toNatClampNeg + 1)) (xs (ii.toNatClampNeg + 2)) hJ hI) rfl rfl ⟨Nat.le_of_ble_eq_true rfl, Nat.le_of_ble_eq_true rfl⟩ hJ.1 rfl rfl (by decide) rfl hl.1 rfl (Nat.le_of_ble_eq_true rfl) dL_law_1111 ⟨(by show _ + _ ≤ 600000; omega), (by show _ + _ ≤ 7302250; omega)⟩) hS (fun r6 u H locs hw hM hS => ?_)
  have hI1 := hI
  obtain ⟨I2, L2, rfl, hI, hk2⟩ := hw
  have hM : Mem D A ad ns I2 L2 G H := hM
  replace hC : CW ns I2 G := cw_keep hC (hk2.get 0 14 rfl)
  replace hLM : LWM I2 := hLM.kp hk2 rfl rfl
  refine lv_pop hx hb dL_law_1114 rfl ?_
  refine lv_goto (tgt := 1531) hx hb dL_law_1115 (by decide) ?_
  exact kk ad ns I2 L2 G _ _ _ _ _ (by omega) (by omega) ⟨hC, hJ, hI, hLM, ((hRel.kp hI0 hk1 (by decide)).kp hI1 hk2 (by decide))⟩ hM hS (lv_sub hl [0, 1, 2, 3] rfl)
theorem dL_law_1118 : decode cL_law 1118 = .ok (.aload_n 1, 1) := by decide +kernel
theorem dL_law_1119 : decode cL_law 1119 = .ok (.aload_n 0, 1) := by decide +kernel
theorem dL_law_1120 : decode cL_law 1120 = .ok (.iload_n 3, 1) := by decide +kernel
theorem dL_law_1121 : decode cL_law 1121 = .ok (.iconst 1, 1) := by decide +kernel
theorem dL_law_1122 : decode cL_law 1122 = .ok (.iadd, 1) := by decide +kernel
theorem dL_law_1123 : decode cL_law 1123 = .ok (.iaload, 1) := by decide +kernel
theorem dL_law_1124 : decode cL_law 1124 = .ok (.aload_n 0, 1) := by decide +kernel
theorem dL_law_1125 : decode cL_law 1125 = .ok (.iload_n 3, 1) := by decide +kernel
theorem dL_law_1126 : decode cL_law 1126 = .ok (.iconst 2, 1) := by decide +kernel
theorem dL_law_1127 : decode cL_law 1127 = .ok (.iadd, 1) := by decide +kernel
theorem dL_law_1128 : decode cL_law 1128 = .ok (.iaload, 1) := by decide +kernel
theorem dL_law_1129 : decode cL_law 1129 = .ok (.aload_n 0, 1) := by decide +kernel
theorem dL_law_1130 : decode cL_law 1130 = .ok (.iload_n 3, 1) := by decide +kernel
theorem dL_law_1131 : decode cL_law 1131 = .ok (.iconst 3, 1) := by decide +kernel
theorem dL_law_1132 : decode cL_law 1132 = .ok (.iadd, 1) := by decide +kernel
theorem dL_law_1133 : decode cL_law 1133 = .ok (.iaload, 1) := by decide +kernel
theorem dL_law_1134 : decode cL_law 1134 = .ok (.aload_n 0, 1) := by decide +kernel
theorem dL_law_1135 : decode cL_law 1135 = .ok (.iload_n 3, 1) := by decide +kernel
theorem dL_law_1136 : decode cL_law 1136 = .ok (.iconst 4, 1) := by decide +kernel
theorem dL_law_1137 : decode cL_law 1137 = .ok (.iadd, 1) := by decide +kernel
theorem dL_law_1138 : decode cL_law 1138 = .ok (.iaload, 1) := by decide +kernel
theorem dL_law_1139 : decode cL_law 1139 = .ok (.invokevirtual 111, 3) := by decide +kernel
theorem dL_law_1142 : decode cL_law 1142 = .ok (.pop, 1) := by decide +kernel
theorem dL_law_1143 : decode cL_law 1143 = .ok (.aload_n 2, 1) := by decide +kernel
theorem dL_law_1144 : decode cL_law 1144 = .ok (.aload_n 0, 1) := by decide +kernel
theorem dL_law_1145 : decode cL_law 1145 = .ok (.iload_n 3, 1) := by decide +kernel
theorem dL_law_1146 : decode cL_law 1146 = .ok (.iconst 1, 1) := by decide +kernel
theorem dL_law_1147 : decode cL_law 1147 = .ok (.iadd, 1) := by decide +kernel
theorem dL_law_1148 : decode cL_law 1148 = .ok (.iaload, 1) := by decide +kernel
theorem dL_law_1149 : decode cL_law 1149 = .ok (.aload_n 0, 1) := by decide +kernel
theorem dL_law_1150 : decode cL_law 1150 = .ok (.iload_n 3, 1) := by decide +kernel
theorem dL_law_1151 : decode cL_law 1151 = .ok (.iconst 2, 1) := by decide +kernel
theorem dL_law_1152 : decode cL_law 1152 = .ok (.iadd, 1) := by decide +kernel
theorem dL_law_1153 : decode cL_law 1153 = .ok (.iaload, 1) := by decide +kernel
theorem dL_law_1154 : decode cL_law 1154 = .ok (.aload_n 0, 1) := by decide +kernel
theorem dL_law_1155 : decode cL_law 1155 = .ok (.iload_n 3, 1) := by decide +kernel
theorem dL_law_1156 : decode cL_law 1156 = .ok (.iconst 3, 1) := by decide +kernel
theorem dL_law_1157 : decode cL_law 1157 = .ok (.iadd, 1) := by decide +kernel
theorem dL_law_1158 : decode cL_law 1158 = .ok (.iaload, 1) := by decide +kernel
theorem dL_law_1159 : decode cL_law 1159 = .ok (.aload_n 0, 1) := by decide +kernel
theorem dL_law_1160 : decode cL_law 1160 = .ok (.iload_n 3, 1) := by decide +kernel
theorem dL_law_1161 : decode cL_law 1161 = .ok (.iconst 4, 1) := by decide +kernel
theorem dL_law_1162 : decode cL_law 1162 = .ok (.iadd, 1) := by decide +kernel
theorem dL_law_1163 : decode cL_law 1163 = .ok (.iaload, 1) := by decide +kernel
theorem dL_law_1164 : decode cL_law 1164 = .ok (.invokevirtual 115, 3) := by decide +kernel
theorem dL_law_1167 : decode cL_law 1167 = .ok (.pop, 1) := by decide +kernel
theorem dL_law_1168 : decode cL_law 1168 = .ok (.goto 363, 3) := by decide +kernel
set_option maxHeartbeats 4000000 in
theorem lc_22 {p : Program} {l : Launch} {e : Env} {s : State} {m : MethodId} {below : List Frame} {meth : Method} {c : Code} {b N : Nat} {ii : Int32} {xs : Nat → Int32} {D : va_G} {A : Nat → Prop} {ad : Nat → Nat} {ns : List Nat} {I : MI} {L : ML} {G : MG} {H : Heap} {locs : List Loc} {ls : Array Slot} {cells slots : Nat} (F : LF p s m meth c b N xs D A) (hN : N ≤ 4096) (hi : 0 ≤ ii.toInt ∧ ii.toInt + 8 ≤ N) (hc : cells ≤ 500000) (hs : slots ≤ 5000000) (fw : WD ns I G) (hM : Mem D A ad ns I L G H) (hS : va_S A s.heap H locs) (hl : lv_has ls 4 [(0, .ref (b)), (1, .ref (ad (0))), (2, .ref (ad (1000))), (3, .int (ii))]) (kk : LK p l e s m below meth c b ii D A cells slots) : W p l e room_1 s m #[Value.ref b] below meth c H locs cells slots (lw_Z below #[Value.ref b] s) (F0 m 1118 ls []) := by
  obtain ⟨hx, hb, hml, hown, hts, hX, hbl, hbA, hA, hE⟩ := F
  obtain ⟨hC, hJ, hI, hLM, hRel⟩ := fw
  have hI0 := hI
  have hG := hC.1
  have hL := hC.lws
  have hIm := hC.2.1.ims
  have tii := tn hi.1
  have k0 : (0 : Int32).toInt = 0 := by decide
  have k1 : (1 : Int32).toInt = 1 := by decide
  have k2 : (2 : Int32).toInt = 2 := by decide
  have k3 : (3 : Int32).toInt = 3 := by decide
  have k4 : (4 : Int32).toInt = 4 := by decide
  refine lv_aload_n hx hb dL_law_1118 rfl (lv_at hl 1 rfl) ?_
  refine lv_aload_n hx hb dL_law_1119 rfl (lv_at hl 0 rfl) ?_
  refine lv_iload_n hx hb dL_law_1120 rfl (lv_at hl 3 rfl) ?_
  refine lv_iconst (v := (1)) hx hb dL_law_1121 (by decide) ?_
  refine lv_iadd hx hb dL_law_1122 ?_
  refine lv_topi (fun v1 ev1 => ?_)
  have sv1 := sx 1 ev1 (by decide) (by decide) hi hN
  refine va_sld hx hb hX hbl hbA hS (i := v1) (vp_in_iff.mpr sv1.1) dL_law_1123 ?_
  rw [sv1.2]
  clear sv1
  refine lv_aload_n hx hb dL_law_1124 rfl (lv_at hl 0 rfl) ?_
  refine lv_iload_n hx hb dL_law_1125 rfl (lv_at hl 3 rfl) ?_
  refine lv_iconst (v := (2)) hx hb dL_law_1126 (by decide) ?_
  refine lv_iadd hx hb dL_law_1127 ?_
  refine lv_topi (fun v2 ev2 => ?_)
  have sv2 := sx 2 ev2 (by decide) (by decide) hi hN
  refine va_sld hx hb hX hbl hbA hS (i := v2) (vp_in_iff.mpr sv2.1) dL_law_1128 ?_
  rw [sv2.2]
  clear sv2
  refine lv_aload_n hx hb dL_law_1129 rfl (lv_at hl 0 rfl) ?_
  refine lv_iload_n hx hb dL_law_1130 rfl (lv_at hl 3 rfl) ?_
  refine lv_iconst (v := (3)) hx hb dL_law_1131 (by decide) ?_
  refine lv_iadd hx hb dL_law_1132 ?_
  refine lv_topi (fun v3 ev3 => ?_)
  have sv3 := sx 3 ev3 (by decide) (by decide) hi hN
  refine va_sld hx hb hX hbl hbA hS (i := v3) (vp_in_iff.mpr sv3.1) dL_law_1133 ?_
  rw [sv3.2]
  clear sv3
  refine lv_aload_n hx hb dL_law_1134 rfl (lv_at hl 0 rfl) ?_
  refine lv_iload_n hx hb dL_law_1135 rfl (lv_at hl 3 rfl) ?_
  refine lv_iconst (v := (4)) hx hb dL_law_1136 (by decide) ?_
  refine lv_iadd hx hb dL_law_1137 ?_
  refine lv_topi (fun v4 ev4 => ?_)
  have sv4 := sx 4 ev4 (by decide) (by decide) hi hN
  refine va_sld hx hb hX hbl hbA hS (i := v4) (vp_in_iff.mpr sv4.1) dL_law_1138 ?_
  rw [sv4.2]
  clear sv4
  refine m_calli (m_runV (0) (As := [.int (xs (ii.toNatClampNeg + 1)), .int (xs (ii.toNatClampNeg + 2)), .int (xs (ii.toNatClampNeg + 3)), .int (xs (ii.toNatClampNeg + 4))]) (rest := []) hx hb hml hown hts hE hM hS hA ce_X9_aim tb_952 (V_X9_aim l D A ad ns I L G (xs (ii.toNatClampNeg + 1)) (xs (ii.toNatClampNeg + 2)) (xs (ii.toNatClampNeg + 3)) (xs (ii.toNatClampNeg + 4)) hG hI) rfl rfl ⟨Nat.le_of_ble_eq_true rfl, Nat.le_of_ble_eq_true rfl⟩ (hG.1 0 (by decide)) rfl rfl (by decide) rfl hl.1 rfl (Nat.le_of_ble_eq_true rfl) dL_law_1139 ⟨(by show _ + _ ≤ 600000; omega), (by show _ + _ ≤ 7302250; omega)⟩) hS (fun r5 u H locs hw hM hS => ?_)
  obtain ⟨I1, L1, rfl, hI, hk1⟩ := hw
  have hM : Mem D A ad ns I1 L1 G H := hM
  replace hC : CW ns I1 G := cw_keep hC (hk1.get 0 14 rfl)
  replace hLM : LWM I1 := hLM.out (hk1.out rfl)
  refine lv_pop hx hb dL_law_1142 rfl ?_
  refine lv_aload_n hx hb dL_law_1143 rfl (lv_at hl 2 rfl) ?_
  refine lv_aload_n hx hb dL_law_1144 rfl (lv_at hl 0 rfl) ?_
  refine lv_iload_n hx hb dL_law_1145 rfl (lv_at hl 3 rfl) ?_
  refine lv_iconst (v := (1)) hx hb dL_law_1146 (by decide) ?_
  refine lv_iadd hx hb dL_law_1147 ?_
  refine lv_topi (fun v6 ev6 => ?_)
  have sv6 := sx 1 ev6 (by decide) (by decide) hi hN
  refine va_sld hx hb hX hbl hbA hS (i := v6) (vp_in_iff.mpr sv6.1) dL_law_1148 ?_
  rw [sv6.2]
  clear sv6
  refine lv_aload_n hx hb dL_law_1149 rfl (lv_at hl 0 rfl) ?_
  refine lv_iload_n hx hb dL_law_1150 rfl (lv_at hl 3 rfl) ?_
  refine lv_iconst (v := (2)) hx hb dL_law_1151 (by decide) ?_
  refine lv_iadd hx hb dL_law_1152 ?_
  refine lv_topi (fun v7 ev7 => ?_)
  have sv7 := sx 2 ev7 (by decide) (by decide) hi hN
  refine va_sld hx hb hX hbl hbA hS (i := v7) (vp_in_iff.mpr sv7.1) dL_law_1153 ?_
  rw [sv7.2]
  clear sv7
  refine lv_aload_n hx hb dL_law_1154 rfl (lv_at hl 0 rfl) ?_
  refine lv_iload_n hx hb dL_law_1155 rfl (lv_at hl 3 rfl) ?_
  refine lv_iconst (v := (3)) hx hb dL_law_1156 (by decide) ?_
  refine lv_iadd hx hb dL_law_1157 ?_
  refine lv_topi (fun v8 ev8 => ?_)
  have sv8 := sx 3 ev8 (by decide) (by decide) hi hN
  refine va_sld hx hb hX hbl hbA hS (i := v8) (vp_in_iff.mpr sv8.1) dL_law_1158 ?_
  rw [sv8.2]
  clear sv8
  refine lv_aload_n hx hb dL_law_1159 rfl (lv_at hl 0 rfl) ?_
  refine lv_iload_n hx hb dL_law_1160 rfl (lv_at hl 3 rfl) ?_
  refine lv_iconst (v := (4)) hx hb dL_law_1161 (by decide) ?_
  refine lv_iadd hx hb dL_law_1162 ?_
  refine lv_topi (fun v9 ev9 => ?_)
  have sv9 := sx 4 ev9 (by decide) (by decide) hi hN
  refine va_sld hx hb hX hbl hbA hS (i := v9) (vp_in_iff.mpr sv9.1) dL_law_1163 ?_
  rw [sv9.2]
  clear sv9
  refine m_calli (m_runV (1000) (As := [.int (xs (ii.toNatClampNeg + 1)), .int (xs (ii.toNatClampNeg + 2)), .int (xs (ii.toNatClampNeg + 3)), .int (xs (ii.toNatClampNeg + 4))]) (rest := []) hx hb hml hown hts hE hM hS hA ce_X10_aim tb_1735 (V_X10_aim l D A ad ns I1 L1 G (xs (ii.toNatClampNeg + 1)) (xs (ii.toNatClampNeg + 2)) (xs (ii.toNatClampNeg + 3)) (xs (ii.toNatClampNeg + 4)) hJ hI) rfl rfl ⟨Nat.le_of_ble_eq_true rfl, Nat.le_of_ble_eq_true rfl⟩ hJ.1 rfl rfl (by decide) rfl hl.1 rfl (Nat.le_of_ble_eq_true rfl) dL_law_1164 ⟨(by show _ + _ ≤ 600000; omega), (by show _ + _ ≤ 7302250; omega)⟩) hS (fun r10 u H locs hw hM hS => ?_)
  have hI1 := hI
  obtain ⟨I2, L2, rfl, hI, hk2⟩ := hw
  have hM : Mem D A ad ns I2 L2 G H := hM
  replace hC : CW ns I2 G := cw_keep hC (hk2.get 0 14 rfl)
  replace hLM : LWM I2 := hLM.kp hk2 rfl rfl
  refine lv_pop hx hb dL_law_1167 rfl ?_
  refine lv_goto (tgt := 1531) hx hb dL_law_1168 (by decide) ?_
  exact kk ad ns I2 L2 G _ _ _ _ _ (by omega) (by omega) ⟨hC, hJ, hI, hLM, ((hRel.kp hI0 hk1 (by decide)).kp hI1 hk2 (by decide))⟩ hM hS (lv_sub hl [0, 1, 2, 3] rfl)
theorem dL_law_1171 : decode cL_law 1171 = .ok (.aload_n 1, 1) := by decide +kernel
theorem dL_law_1172 : decode cL_law 1172 = .ok (.aload_n 0, 1) := by decide +kernel
theorem dL_law_1173 : decode cL_law 1173 = .ok (.iload_n 3, 1) := by decide +kernel
theorem dL_law_1174 : decode cL_law 1174 = .ok (.iconst 1, 1) := by decide +kernel
theorem dL_law_1175 : decode cL_law 1175 = .ok (.iadd, 1) := by decide +kernel
theorem dL_law_1176 : decode cL_law 1176 = .ok (.iaload, 1) := by decide +kernel
theorem dL_law_1177 : decode cL_law 1177 = .ok (.aload_n 0, 1) := by decide +kernel
theorem dL_law_1178 : decode cL_law 1178 = .ok (.iload_n 3, 1) := by decide +kernel
theorem dL_law_1179 : decode cL_law 1179 = .ok (.iconst 2, 1) := by decide +kernel
theorem dL_law_1180 : decode cL_law 1180 = .ok (.iadd, 1) := by decide +kernel
theorem dL_law_1181 : decode cL_law 1181 = .ok (.iaload, 1) := by decide +kernel
theorem dL_law_1182 : decode cL_law 1182 = .ok (.aload_n 0, 1) := by decide +kernel
theorem dL_law_1183 : decode cL_law 1183 = .ok (.iload_n 3, 1) := by decide +kernel
theorem dL_law_1184 : decode cL_law 1184 = .ok (.iconst 3, 1) := by decide +kernel
theorem dL_law_1185 : decode cL_law 1185 = .ok (.iadd, 1) := by decide +kernel
theorem dL_law_1186 : decode cL_law 1186 = .ok (.iaload, 1) := by decide +kernel
theorem dL_law_1187 : decode cL_law 1187 = .ok (.invokevirtual 116, 3) := by decide +kernel
theorem dL_law_1190 : decode cL_law 1190 = .ok (.pop, 1) := by decide +kernel
theorem dL_law_1191 : decode cL_law 1191 = .ok (.aload_n 2, 1) := by decide +kernel
theorem dL_law_1192 : decode cL_law 1192 = .ok (.aload_n 0, 1) := by decide +kernel
theorem dL_law_1193 : decode cL_law 1193 = .ok (.iload_n 3, 1) := by decide +kernel
theorem dL_law_1194 : decode cL_law 1194 = .ok (.iconst 1, 1) := by decide +kernel
theorem dL_law_1195 : decode cL_law 1195 = .ok (.iadd, 1) := by decide +kernel
theorem dL_law_1196 : decode cL_law 1196 = .ok (.iaload, 1) := by decide +kernel
theorem dL_law_1197 : decode cL_law 1197 = .ok (.aload_n 0, 1) := by decide +kernel
theorem dL_law_1198 : decode cL_law 1198 = .ok (.iload_n 3, 1) := by decide +kernel
theorem dL_law_1199 : decode cL_law 1199 = .ok (.iconst 2, 1) := by decide +kernel
theorem dL_law_1200 : decode cL_law 1200 = .ok (.iadd, 1) := by decide +kernel
theorem dL_law_1201 : decode cL_law 1201 = .ok (.iaload, 1) := by decide +kernel
theorem dL_law_1202 : decode cL_law 1202 = .ok (.aload_n 0, 1) := by decide +kernel
theorem dL_law_1203 : decode cL_law 1203 = .ok (.iload_n 3, 1) := by decide +kernel
theorem dL_law_1204 : decode cL_law 1204 = .ok (.iconst 3, 1) := by decide +kernel
theorem dL_law_1205 : decode cL_law 1205 = .ok (.iadd, 1) := by decide +kernel
theorem dL_law_1206 : decode cL_law 1206 = .ok (.iaload, 1) := by decide +kernel
theorem dL_law_1207 : decode cL_law 1207 = .ok (.invokevirtual 119, 3) := by decide +kernel
theorem dL_law_1210 : decode cL_law 1210 = .ok (.pop, 1) := by decide +kernel
theorem dL_law_1211 : decode cL_law 1211 = .ok (.goto 320, 3) := by decide +kernel
set_option maxHeartbeats 4000000 in
theorem lc_23 {p : Program} {l : Launch} {e : Env} {s : State} {m : MethodId} {below : List Frame} {meth : Method} {c : Code} {b N : Nat} {ii : Int32} {xs : Nat → Int32} {D : va_G} {A : Nat → Prop} {ad : Nat → Nat} {ns : List Nat} {I : MI} {L : ML} {G : MG} {H : Heap} {locs : List Loc} {ls : Array Slot} {cells slots : Nat} (F : LF p s m meth c b N xs D A) (hN : N ≤ 4096) (hi : 0 ≤ ii.toInt ∧ ii.toInt + 8 ≤ N) (hc : cells ≤ 500000) (hs : slots ≤ 5000000) (fw : WD ns I G) (hM : Mem D A ad ns I L G H) (hS : va_S A s.heap H locs) (hl : lv_has ls 4 [(0, .ref (b)), (1, .ref (ad (0))), (2, .ref (ad (1000))), (3, .int (ii))]) (kk : LK p l e s m below meth c b ii D A cells slots) : W p l e room_1 s m #[Value.ref b] below meth c H locs cells slots (lw_Z below #[Value.ref b] s) (F0 m 1171 ls []) := by
  obtain ⟨hx, hb, hml, hown, hts, hX, hbl, hbA, hA, hE⟩ := F
  obtain ⟨hC, hJ, hI, hLM, hRel⟩ := fw
  have hI0 := hI
  have hG := hC.1
  have hL := hC.lws
  have hIm := hC.2.1.ims
  have tii := tn hi.1
  have k0 : (0 : Int32).toInt = 0 := by decide
  have k1 : (1 : Int32).toInt = 1 := by decide
  have k2 : (2 : Int32).toInt = 2 := by decide
  have k3 : (3 : Int32).toInt = 3 := by decide
  refine lv_aload_n hx hb dL_law_1171 rfl (lv_at hl 1 rfl) ?_
  refine lv_aload_n hx hb dL_law_1172 rfl (lv_at hl 0 rfl) ?_
  refine lv_iload_n hx hb dL_law_1173 rfl (lv_at hl 3 rfl) ?_
  refine lv_iconst (v := (1)) hx hb dL_law_1174 (by decide) ?_
  refine lv_iadd hx hb dL_law_1175 ?_
  refine lv_topi (fun v1 ev1 => ?_)
  have sv1 := sx 1 ev1 (by decide) (by decide) hi hN
  refine va_sld hx hb hX hbl hbA hS (i := v1) (vp_in_iff.mpr sv1.1) dL_law_1176 ?_
  rw [sv1.2]
  clear sv1
  refine lv_aload_n hx hb dL_law_1177 rfl (lv_at hl 0 rfl) ?_
  refine lv_iload_n hx hb dL_law_1178 rfl (lv_at hl 3 rfl) ?_
  refine lv_iconst (v := (2)) hx hb dL_law_1179 (by decide) ?_
  refine lv_iadd hx hb dL_law_1180 ?_
  refine lv_topi (fun v2 ev2 => ?_)
  have sv2 := sx 2 ev2 (by decide) (by decide) hi hN
  refine va_sld hx hb hX hbl hbA hS (i := v2) (vp_in_iff.mpr sv2.1) dL_law_1181 ?_
  rw [sv2.2]
  clear sv2
  refine lv_aload_n hx hb dL_law_1182 rfl (lv_at hl 0 rfl) ?_
  refine lv_iload_n hx hb dL_law_1183 rfl (lv_at hl 3 rfl) ?_
  refine lv_iconst (v := (3)) hx hb dL_law_1184 (by decide) ?_
  refine lv_iadd hx hb dL_law_1185 ?_
  refine lv_topi (fun v3 ev3 => ?_)
  have sv3 := sx 3 ev3 (by decide) (by decide) hi hN
  refine va_sld hx hb hX hbl hbA hS (i := v3) (vp_in_iff.mpr sv3.1) dL_law_1186 ?_
  rw [sv3.2]
  clear sv3
  refine m_calli (m_runV (0) (As := [.int (xs (ii.toNatClampNeg + 1)), .int (xs (ii.toNatClampNeg + 2)), .int (xs (ii.toNatClampNeg + 3))]) (rest := []) hx hb hml hown hts hE hM hS hA ce_X9_fair tb_1004 (V_X9_fair l D A ad ns I L G (xs (ii.toNatClampNeg + 1)) (xs (ii.toNatClampNeg + 2)) (xs (ii.toNatClampNeg + 3)) hG hI) rfl rfl ⟨Nat.le_of_ble_eq_true rfl, Nat.le_of_ble_eq_true rfl⟩ (hG.1 0 (by decide)) rfl rfl (by decide) rfl hl.1 rfl (Nat.le_of_ble_eq_true rfl) dL_law_1187 ⟨(by show _ + _ ≤ 600000; omega), (by show _ + _ ≤ 7302250; omega)⟩) hS (fun r4 u H locs hw hM hS => ?_)
  obtain ⟨I1, L1, rfl, hI, hk1⟩ := hw
  have hM : Mem D A ad ns I1 L1 G H := hM
  replace hC : CW ns I1 G := cw_keep hC (hk1.get 0 14 rfl)
  replace hLM : LWM I1 := hLM.out (hk1.out rfl)
  refine lv_pop hx hb dL_law_1190 rfl ?_
  refine lv_aload_n hx hb dL_law_1191 rfl (lv_at hl 2 rfl) ?_
  refine lv_aload_n hx hb dL_law_1192 rfl (lv_at hl 0 rfl) ?_
  refine lv_iload_n hx hb dL_law_1193 rfl (lv_at hl 3 rfl) ?_
  refine lv_iconst (v := (1)) hx hb dL_law_1194 (by decide) ?_
  refine lv_iadd hx hb dL_law_1195 ?_
  refine lv_topi (fun v5 ev5 => ?_)
  have sv5 := sx 1 ev5 (by decide) (by decide) hi hN
  refine va_sld hx hb hX hbl hbA hS (i := v5) (vp_in_iff.mpr sv5.1) dL_law_1196 ?_
  rw [sv5.2]
  clear sv5
  refine lv_aload_n hx hb dL_law_1197 rfl (lv_at hl 0 rfl) ?_
  refine lv_iload_n hx hb dL_law_1198 rfl (lv_at hl 3 rfl) ?_
  refine lv_iconst (v := (2)) hx hb dL_law_1199 (by decide) ?_
  refine lv_iadd hx hb dL_law_1200 ?_
  refine lv_topi (fun v6 ev6 => ?_)
  have sv6 := sx 2 ev6 (by decide) (by decide) hi hN
  refine va_sld hx hb hX hbl hbA hS (i := v6) (vp_in_iff.mpr sv6.1) dL_law_1201 ?_
  rw [sv6.2]
  clear sv6
  refine lv_aload_n hx hb dL_law_1202 rfl (lv_at hl 0 rfl) ?_
  refine lv_iload_n hx hb dL_law_1203 rfl (lv_at hl 3 rfl) ?_
  refine lv_iconst (v := (3)) hx hb dL_law_1204 (by decide) ?_
  refine lv_iadd hx hb dL_law_1205 ?_
  refine lv_topi (fun v7 ev7 => ?_)
  have sv7 := sx 3 ev7 (by decide) (by decide) hi hN
  refine va_sld hx hb hX hbl hbA hS (i := v7) (vp_in_iff.mpr sv7.1) dL_law_1206 ?_
  rw [sv7.2]
  clear sv7
  refine m_calli (m_runV (1000) (As := [.int (xs (ii.toNatClampNeg + 1)), .int (xs (ii.toNatClampNeg + 2)), .int (xs (ii.toNatClampNeg + 3))]) (rest := []) hx hb hml hown hts hE hM hS hA ce_X10_fair tb_1757 (V_X10_fair l D A ad ns I1 L1 G (xs (ii.toNatClampNeg + 1)) (xs (ii.toNatClampNeg + 2)) (xs (ii.toNatClampNeg + 3)) hJ hI) rfl rfl ⟨Nat.le_of_ble_eq_true rfl, Nat.le_of_ble_eq_true rfl⟩ hJ.1 rfl rfl (by decide) rfl hl.1 rfl (Nat.le_of_ble_eq_true rfl) dL_law_1207 ⟨(by show _ + _ ≤ 600000; omega), (by show _ + _ ≤ 7302250; omega)⟩) hS (fun r8 u H locs hw hM hS => ?_)
  have hI1 := hI
  obtain ⟨I2, L2, rfl, hI, hk2⟩ := hw
  have hM : Mem D A ad ns I2 L2 G H := hM
  replace hC : CW ns I2 G := cw_keep hC (hk2.get 0 14 rfl)
  replace hLM : LWM I2 := hLM.kp hk2 rfl rfl
  refine lv_pop hx hb dL_law_1210 rfl ?_
  refine lv_goto (tgt := 1531) hx hb dL_law_1211 (by decide) ?_
  exact kk ad ns I2 L2 G _ _ _ _ _ (by omega) (by omega) ⟨hC, hJ, hI, hLM, ((hRel.kp hI0 hk1 (by decide)).kp hI1 hk2 (by decide))⟩ hM hS (lv_sub hl [0, 1, 2, 3] rfl)
