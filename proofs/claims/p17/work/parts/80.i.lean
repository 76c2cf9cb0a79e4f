theorem dL_law_1214 : decode cL_law 1214 = .ok (.aload_n 1, 1) := by decide +kernel
theorem dL_law_1215 : decode cL_law 1215 = .ok (.aload_n 0, 1) := by decide +kernel
theorem dL_law_1216 : decode cL_law 1216 = .ok (.iload_n 3, 1) := by decide +kernel
theorem dL_law_1217 : decode cL_law 1217 = .ok (.iconst 1, 1) := by decide +kernel
theorem dL_law_1218 : decode cL_law 1218 = .ok (.iadd, 1) := by decide +kernel
theorem dL_law_1219 : decode cL_law 1219 = .ok (.iaload, 1) := by decide +kernel
theorem dL_law_1220 : decode cL_law 1220 = .ok (.aload_n 0, 1) := by decide +kernel
theorem dL_law_1221 : decode cL_law 1221 = .ok (.iload_n 3, 1) := by decide +kernel
theorem dL_law_1222 : decode cL_law 1222 = .ok (.iconst 2, 1) := by decide +kernel
theorem dL_law_1223 : decode cL_law 1223 = .ok (.iadd, 1) := by decide +kernel
theorem dL_law_1224 : decode cL_law 1224 = .ok (.iaload, 1) := by decide +kernel
theorem dL_law_1225 : decode cL_law 1225 = .ok (.aload_n 0, 1) := by decide +kernel
theorem dL_law_1226 : decode cL_law 1226 = .ok (.iload_n 3, 1) := by decide +kernel
theorem dL_law_1227 : decode cL_law 1227 = .ok (.iconst 3, 1) := by decide +kernel
theorem dL_law_1228 : decode cL_law 1228 = .ok (.iadd, 1) := by decide +kernel
theorem dL_law_1229 : decode cL_law 1229 = .ok (.iaload, 1) := by decide +kernel
theorem dL_law_1230 : decode cL_law 1230 = .ok (.invokevirtual 120, 3) := by decide +kernel
theorem dL_law_1233 : decode cL_law 1233 = .ok (.pop, 1) := by decide +kernel
theorem dL_law_1234 : decode cL_law 1234 = .ok (.aload_n 2, 1) := by decide +kernel
theorem dL_law_1235 : decode cL_law 1235 = .ok (.aload_n 0, 1) := by decide +kernel
theorem dL_law_1236 : decode cL_law 1236 = .ok (.iload_n 3, 1) := by decide +kernel
theorem dL_law_1237 : decode cL_law 1237 = .ok (.iconst 1, 1) := by decide +kernel
theorem dL_law_1238 : decode cL_law 1238 = .ok (.iadd, 1) := by decide +kernel
theorem dL_law_1239 : decode cL_law 1239 = .ok (.iaload, 1) := by decide +kernel
theorem dL_law_1240 : decode cL_law 1240 = .ok (.aload_n 0, 1) := by decide +kernel
theorem dL_law_1241 : decode cL_law 1241 = .ok (.iload_n 3, 1) := by decide +kernel
theorem dL_law_1242 : decode cL_law 1242 = .ok (.iconst 2, 1) := by decide +kernel
theorem dL_law_1243 : decode cL_law 1243 = .ok (.iadd, 1) := by decide +kernel
theorem dL_law_1244 : decode cL_law 1244 = .ok (.iaload, 1) := by decide +kernel
theorem dL_law_1245 : decode cL_law 1245 = .ok (.aload_n 0, 1) := by decide +kernel
theorem dL_law_1246 : decode cL_law 1246 = .ok (.iload_n 3, 1) := by decide +kernel
theorem dL_law_1247 : decode cL_law 1247 = .ok (.iconst 3, 1) := by decide +kernel
theorem dL_law_1248 : decode cL_law 1248 = .ok (.iadd, 1) := by decide +kernel
theorem dL_law_1249 : decode cL_law 1249 = .ok (.iaload, 1) := by decide +kernel
theorem dL_law_1250 : decode cL_law 1250 = .ok (.invokevirtual 123, 3) := by decide +kernel
theorem dL_law_1253 : decode cL_law 1253 = .ok (.pop, 1) := by decide +kernel
theorem dL_law_1254 : decode cL_law 1254 = .ok (.goto 277, 3) := by decide +kernel
set_option maxHeartbeats 4000000 in
theorem lc_24 {p : Program} {l : Launch} {e : Env} {s : State} {m : MethodId} {below : List Frame} {meth : Method} {c : Code} {b N : Nat} {ii : Int32} {xs : Nat → Int32} {D : va_G} {A : Nat → Prop} {ad : Nat → Nat} {ns : List Nat} {I : MI} {L : ML} {G : MG} {H : Heap} {locs : List Loc} {ls : Array Slot} {cells slots : Nat} (F : LF p s m meth c b N xs D A) (hN : N ≤ 4096) (hi : 0 ≤ ii.toInt ∧ ii.toInt + 8 ≤ N) (hc : cells ≤ 500000) (hs : slots ≤ 5000000) (fw : WD ns I G) (hM : Mem D A ad ns I L G H) (hS : va_S A s.heap H locs) (hl : lv_has ls 4 [(0, .ref (b)), (1, .ref (ad (0))), (2, .ref (ad (1000))), (3, .int (ii))]) (kk : LK p l e s m below meth c b ii D A cells slots) : W p l e room_1 s m #[Value.ref b] below meth c H locs cells slots (lw_Z below #[Value.ref b] s) (F0 m 1214 ls []) := by
  obtain ⟨hx, hb, hml, hown, hts, hX, hbl, hbA, hA, hE⟩ := F
  obtain ⟨hC, hJ, hI, hLM, hRel⟩ := fw
  have hI0 := hI
  have hG := hC.1
  have hL := hC.lws
  have hIm := hC.2.1.ims
  have tii := tn hi.1
  have k0 : (0 : Int32).toInt = 0 := by decide
  have k1 : (1 : Int32).toInt = 1 := by decide
  have k2 : (2 : Int32).toInt = 2 := by decide
  have k3 : (3 : Int32).toInt = 3 := by decide
  refine lv_aload_n hx hb dL_law_1214 rfl (lv_at hl 1 rfl) ?_
  refine lv_aload_n hx hb dL_law_1215 rfl (lv_at hl 0 rfl) ?_
  refine lv_iload_n hx hb dL_law_1216 rfl (lv_at hl 3 rfl) ?_
  refine lv_iconst (v := (1)) hx hb dL_law_1217 (by decide) ?_
  refine lv_iadd hx hb dL_law_1218 ?_
  refine lv_topi (fun v1 ev1 => ?_)
  have sv1 := sx 1 ev1 (by decide) (by decide) hi hN
  refine va_sld hx hb hX hbl hbA hS (i := v1) (vp_in_iff.mpr sv1.1) dL_law_1219 ?_
  rw [sv1.2]
  clear sv1
  refine lv_aload_n hx hb dL_law_1220 rfl (lv_at hl 0 rfl) ?_
  refine lv_iload_n hx hb dL_law_1221 rfl (lv_at hl 3 rfl) ?_
  refine lv_iconst (v := (2)) hx hb dL_law_1222 (by decide) ?_
  refine lv_iadd hx hb dL_law_1223 ?_
  refine lv_topi (fun v2 ev2 => ?_)
  have sv2 := sx 2 ev2 (by decide) (by decide) hi hN
  refine va_sld hx hb hX hbl hbA hS (i := v2) (vp_in_iff.mpr sv2.1) dL_law_1224 ?_
  rw [sv2.2]
  clear sv2
  refine lv_aload_n hx hb dL_law_1225 rfl (lv_at hl 0 rfl) ?_
  refine lv_iload_n hx hb dL_law_1226 rfl (lv_at hl 3 rfl) ?_
  refine lv_iconst (v := (3)) hx hb dL_law_1227 (by decide) ?_
  refine lv_iadd hx hb dL_law_1228 ?_
  refine lv_topi (fun v3 ev3 => ?_)
  have sv3 := sx 3 ev3 (by decide) (by decide) hi hN
  refine va_sld hx hb hX hbl hbA hS (i := v3) (vp_in_iff.mpr sv3.1) dL_law_1229 ?_
  rw [sv3.2]
  clear sv3
  refine m_calli (m_runV (0) (As := [.int (xs (ii.toNatClampNeg + 1)), .int (xs (ii.toNatClampNeg + 2)), .int (xs (ii.toNatClampNeg + 3))]) (rest := []) hx hb hml hown hts hE hM hS hA ce_X9_mends tb_1008 (V_X9_mends l D A ad ns I L G (xs (ii.toNatClampNeg + 1)) (xs (ii.toNatClampNeg + 2)) (xs (ii.toNatClampNeg + 3)) hG hI) rfl rfl ⟨Nat.le_of_ble_eq_true rfl, Nat.le_of_ble_eq_true rfl⟩ (hG.1 0 (by decide)) rfl rfl (by decide) rfl hl.1 rfl (Nat.le_of_ble_eq_true rfl) dL_law_1230 ⟨(by show _ + _ ≤ 600000; omega), (by show _ + _ ≤ 7302250; omega)⟩) hS (fun r4 u H locs hw hM hS => ?_)
  obtain ⟨I1, L1, rfl, hI, hk1⟩ := hw
  have hM : Mem D A ad ns I1 L1 G H := hM
  replace hC : CW ns I1 G := cw_keep hC (hk1.get 0 14 rfl)
  replace hLM : LWM I1 := hLM.out (hk1.out rfl)
  refine lv_pop hx hb dL_law_1233 rfl ?_
  refine lv_aload_n hx hb dL_law_1234 rfl (lv_at hl 2 rfl) ?_
  refine lv_aload_n hx hb dL_law_1235 rfl (lv_at hl 0 rfl) ?_
  refine lv_iload_n hx hb dL_law_1236 rfl (lv_at hl 3 rfl) ?_
  refine lv_iconst (v := (1)) hx hb dL_law_1237 (by decide) ?_
  refine lv_iadd hx hb dL_law_1238 ?_
  refine lv_topi (fun v5 ev5 => ?_)
  have sv5 := sx 1 ev5 (by decide) (by decide) hi hN
  refine va_sld hx hb hX hbl hbA hS (i := v5) (vp_in_iff.mpr sv5.1) dL_law_1239 ?_
  rw [sv5.2]
  clear sv5
  refine lv_aload_n hx hb dL_law_1240 rfl (lv_at hl 0 rfl) ?_
  refine lv_iload_n hx hb dL_law_1241 rfl (lv_at hl 3 rfl) ?_
  refine lv_iconst (v := (2)) hx hb dL_law_1242 (by decide) ?_
  refine lv_iadd hx hb dL_law_1243 ?_
  refine lv_topi (fun v6 ev6 => ?_)
  have sv6 := sx 2 ev6 (by decide) (by decide) hi hN
  refine va_sld hx hb hX hbl hbA hS (i := v6) (vp_in_iff.mpr sv6.1) dL_law_1244 ?_
  rw [sv6.2]
  clear sv6
  refine lv_aload_n hx hb dL_law_1245 rfl (lv_at hl 0 rfl) ?_
  refine lv_iload_n hx hb dL_law_1246 rfl (lv_at hl 3 rfl) ?_
  refine lv_iconst (v := (3)) hx hb dL_law_1247 (by decide) ?_
  refine lv_iadd hx hb dL_law_1248 ?_
  refine lv_topi (fun v7 ev7 => ?_)
  have sv7 := sx 3 ev7 (by decide) (by decide) hi hN
  refine va_sld hx hb hX hbl hbA hS (i := v7) (vp_in_iff.mpr sv7.1) dL_law_1249 ?_
  rw [sv7.2]
  clear sv7
  refine m_calli (m_runV (1000) (As := [.int (xs (ii.toNatClampNeg + 1)), .int (xs (ii.toNatClampNeg + 2)), .int (xs (ii.toNatClampNeg + 3))]) (rest := []) hx hb hml hown hts hE hM hS hA ce_X10_mends tb_1761 (V_X10_mends l D A ad ns I1 L1 G (xs (ii.toNatClampNeg + 1)) (xs (ii.toNatClampNeg + 2)) (xs (ii.toNatClampNeg + 3)) hJ hI) rfl rfl ⟨Nat.le_of_ble_eq_true rfl, Nat.le_of_ble_eq_true rfl⟩ hJ.1 rfl rfl (by decide) rfl hl.1 rfl (Nat.le_of_ble_eq_true rfl) dL_law_1250 ⟨(by show _ + _ ≤ 600000; omega), (by show _ + _ ≤ 7302250; omega)⟩) hS (fun r8 u H locs hw hM hS => ?_)
  have hI1 := hI
  obtain ⟨I2, L2, rfl, hI, hk2⟩ := hw
  have hM : Mem D A ad ns I2 L2 G H := hM
  replace hC : CW ns I2 G := cw_keep hC (hk2.get 0 14 rfl)
  replace hLM : LWM I2 := hLM.kp hk2 rfl rfl
  refine lv_pop hx hb dL_law_1253 rfl ?_
  refine lv_goto (tgt := 1531) hx hb dL_law_1254 (by decide) ?_
  exact kk ad ns I2 L2 G _ _ _ _ _ (by omega) (by omega) ⟨hC, hJ, hI, hLM, ((hRel.kp hI0 hk1 (by decide)).kp hI1 hk2 (by decide))⟩ hM hS (lv_sub hl [0, 1, 2, 3] rfl)
theorem dL_law_1257 : decode cL_law 1257 = .ok (.aload_n 1, 1) := by decide +kernel
theorem dL_law_1258 : decode cL_law 1258 = .ok (.aload_n 0, 1) := by decide +kernel
theorem dL_law_1259 : decode cL_law 1259 = .ok (.iload_n 3, 1) := by decide +kernel
theorem dL_law_1260 : decode cL_law 1260 = .ok (.iconst 1, 1) := by decide +kernel
theorem dL_law_1261 : decode cL_law 1261 = .ok (.iadd, 1) := by decide +kernel
theorem dL_law_1262 : decode cL_law 1262 = .ok (.iaload, 1) := by decide +kernel
theorem dL_law_1263 : decode cL_law 1263 = .ok (.aload_n 0, 1) := by decide +kernel
theorem dL_law_1264 : decode cL_law 1264 = .ok (.iload_n 3, 1) := by decide +kernel
theorem dL_law_1265 : decode cL_law 1265 = .ok (.iconst 2, 1) := by decide +kernel
theorem dL_law_1266 : decode cL_law 1266 = .ok (.iadd, 1) := by decide +kernel
theorem dL_law_1267 : decode cL_law 1267 = .ok (.iaload, 1) := by decide +kernel
theorem dL_law_1268 : decode cL_law 1268 = .ok (.invokevirtual 124, 3) := by decide +kernel
theorem dL_law_1271 : decode cL_law 1271 = .ok (.pop, 1) := by decide +kernel
theorem dL_law_1272 : decode cL_law 1272 = .ok (.aload_n 2, 1) := by decide +kernel
theorem dL_law_1273 : decode cL_law 1273 = .ok (.aload_n 0, 1) := by decide +kernel
theorem dL_law_1274 : decode cL_law 1274 = .ok (.iload_n 3, 1) := by decide +kernel
theorem dL_law_1275 : decode cL_law 1275 = .ok (.iconst 1, 1) := by decide +kernel
theorem dL_law_1276 : decode cL_law 1276 = .ok (.iadd, 1) := by decide +kernel
theorem dL_law_1277 : decode cL_law 1277 = .ok (.iaload, 1) := by decide +kernel
theorem dL_law_1278 : decode cL_law 1278 = .ok (.aload_n 0, 1) := by decide +kernel
theorem dL_law_1279 : decode cL_law 1279 = .ok (.iload_n 3, 1) := by decide +kernel
theorem dL_law_1280 : decode cL_law 1280 = .ok (.iconst 2, 1) := by decide +kernel
theorem dL_law_1281 : decode cL_law 1281 = .ok (.iadd, 1) := by decide +kernel
theorem dL_law_1282 : decode cL_law 1282 = .ok (.iaload, 1) := by decide +kernel
theorem dL_law_1283 : decode cL_law 1283 = .ok (.invokevirtual 127, 3) := by decide +kernel
theorem dL_law_1286 : decode cL_law 1286 = .ok (.pop, 1) := by decide +kernel
theorem dL_law_1287 : decode cL_law 1287 = .ok (.goto 244, 3) := by decide +kernel
set_option maxHeartbeats 4000000 in
theorem lc_25 {p : Program} {l : Launch} {e : Env} {s : State} {m : MethodId} {below : List Frame} {meth : Method} {c : Code} {b N : Nat} {ii : Int32} {xs : Nat → Int32} {D : va_G} {A : Nat → Prop} {ad : Nat → Nat} {ns : List Nat} {I : MI} {L : ML} {G : MG} {H : Heap} {locs : List Loc} {ls : Array Slot} {cells slots : Nat} (F : LF p s m meth c b N xs D A) (hN : N ≤ 4096) (hi : 0 ≤ ii.toInt ∧ ii.toInt + 8 ≤ N) (hc : cells ≤ 500000) (hs : slots ≤ 5000000) (fw : WD ns I G) (hM : Mem D A ad ns I L G H) (hS : va_S A s.heap H locs) (hl : lv_has ls 4 [(0, .ref (b)), (1, .ref (ad (0))), (2, .ref (ad (1000))), (3, .int (ii))]) (kk : LK p l e s m below meth c b ii D A cells slots) : W p l e room_1 s m #[Value.ref b] below meth c H locs cells slots (lw_Z below #[Value.ref b] s) (F0 m 1257 ls []) := by
  obtain ⟨hx, hb, hml, hown, hts, hX, hbl, hbA, hA, hE⟩ := F
  obtain ⟨hC, hJ, hI, hLM, hRel⟩ := fw
  have hI0 := hI
  have hG := hC.1
  have hL := hC.lws
  have hIm := hC.2.1.ims
  have tii := tn hi.1
  have k0 : (0 : Int32).toInt = 0 := by decide
  have k1 : (1 : Int32).toInt = 1 := by decide
  have k2 : (2 : Int32).toInt = 2 := by decide
  refine lv_aload_n hx hb dL_law_1257 rfl (lv_at hl 1 rfl) ?_
  refine lv_aload_n hx hb dL_law_1258 rfl (lv_at hl 0 rfl) ?_
  refine lv_iload_n hx hb dL_law_1259 rfl (lv_at hl 3 rfl) ?_
  refine lv_iconst (v := (1)) hx hb dL_law_1260 (by decide) ?_
  refine lv_iadd hx hb dL_law_1261 ?_
  refine lv_topi (fun v1 ev1 => ?_)
  have sv1 := sx 1 ev1 (by decide) (by decide) hi hN
  refine va_sld hx hb hX hbl hbA hS (i := v1) (vp_in_iff.mpr sv1.1) dL_law_1262 ?_
  rw [sv1.2]
  clear sv1
  refine lv_aload_n hx hb dL_law_1263 rfl (lv_at hl 0 rfl) ?_
  refine lv_iload_n hx hb dL_law_1264 rfl (lv_at hl 3 rfl) ?_
  refine lv_iconst (v := (2)) hx hb dL_law_1265 (by decide) ?_
  refine lv_iadd hx hb dL_law_1266 ?_
  refine lv_topi (fun v2 ev2 => ?_)
  have sv2 := sx 2 ev2 (by decide) (by decide) hi hN
  refine va_sld hx hb hX hbl hbA hS (i := v2) (vp_in_iff.mpr sv2.1) dL_law_1267 ?_
  rw [sv2.2]
  clear sv2
  refine m_calli (m_runV (0) (As := [.int (xs (ii.toNatClampNeg + 1)), .int (xs (ii.toNatClampNeg + 2))]) (rest := []) hx hb hml hown hts hE hM hS hA ce_X9_second tb_1059 (V_X9_second l D A ad ns I L G (xs (ii.toNatClampNeg + 1)) (xs (ii.toNatClampNeg + 2)) hG hI) rfl rfl ⟨Nat.le_of_ble_eq_true rfl, Nat.le_of_ble_eq_true rfl⟩ (hG.1 0 (by decide)) rfl rfl (by decide) rfl hl.1 rfl (Nat.le_of_ble_eq_true rfl) dL_law_1268 ⟨(by show _ + _ ≤ 600000; omega), (by show _ + _ ≤ 7302250; omega)⟩) hS (fun r3 u H locs hw hM hS => ?_)
  obtain ⟨I1, L1, rfl, hI, hk1⟩ := hw
  have hM : Mem D A ad ns I1 L1 G H := hM
  replace hC : CW ns I1 G := cw_keep hC (hk1.get 0 14 rfl)
  replace hLM : LWM I1 := hLM.out (hk1.out rfl)
  refine lv_pop hx hb dL_law_1271 rfl ?_
  refine lv_aload_n hx hb dL_law_1272 rfl (lv_at hl 2 rfl) ?_
  refine lv_aload_n hx hb dL_law_1273 rfl (lv_at hl 0 rfl) ?_
  refine lv_iload_n hx hb dL_law_1274 rfl (lv_at hl 3 rfl) ?_
  refine lv_iconst (v := (1)) hx hb dL_law_1275 (by decide) ?_
  refine lv_iadd hx hb dL_law_1276 ?_
  refine lv_topi (fun v4 ev4 => ?_)
  have sv4 := sx 1 ev4 (by decide) (by decide) hi hN
  refine va_sld hx hb hX hbl hbA hS (i := v4) (vp_in_iff.mpr sv4.1) dL_law_1277 ?_
  rw [sv4.2]
  clear sv4
  refine lv_aload_n hx hb dL_law_1278 rfl (lv_at hl 0 rfl) ?_
  refine lv_iload_n hx hb dL_law_1279 rfl (lv_at hl 3 rfl) ?_
  refine lv_iconst (v := (2)) hx hb dL_law_1280 (by decide) ?_
  refine lv_iadd hx hb dL_law_1281 ?_
  refine lv_topi (fun v5 ev5 => ?_)
  have sv5 := sx 2 ev5 (by decide) (by decide) hi hN
  refine va_sld hx hb hX hbl hbA hS (i := v5) (vp_in_iff.mpr sv5.1) dL_law_1282 ?_
  rw [sv5.2]
  clear sv5
  refine m_calli (m_runV (1000) (As := [.int (xs (ii.toNatClampNeg + 1)), .int (xs (ii.toNatClampNeg + 2))]) (rest := []) hx hb hml hown hts hE hM hS hA ce_X10_second tb_1785 (V_X10_second l D A ad ns I1 L1 G (xs (ii.toNatClampNeg + 1)) (xs (ii.toNatClampNeg + 2)) hJ hI) rfl rfl ⟨Nat.le_of_ble_eq_true rfl, Nat.le_of_ble_eq_true rfl⟩ hJ.1 rfl rfl (by decide) rfl hl.1 rfl (Nat.le_of_ble_eq_true rfl) dL_law_1283 ⟨(by show _ + _ ≤ 600000; omega), (by show _ + _ ≤ 7302250; omega)⟩) hS (fun r6 u H locs hw hM hS => ?_)
  have hI1 := hI
  obtain ⟨I2, L2, rfl, hI, hk2⟩ := hw
  have hM : Mem D A ad ns I2 L2 G H := hM
  replace hC : CW ns I2 G := cw_keep hC (hk2.get 0 14 rfl)
  replace hLM : LWM I2 := hLM.kp hk2 rfl rfl
  refine lv_pop hx hb dL_law_1286 rfl ?_
  refine lv_goto (tgt := 1531) hx hb dL_law_1287 (by decide) ?_
  exact kk ad ns I2 L2 G _ _ _ _ _ (by omega) (by omega) ⟨hC, hJ, hI, hLM, ((hRel.kp hI0 hk1 (by decide)).kp hI1 hk2 (by decide))⟩ hM hS (lv_sub hl [0, 1, 2, 3] rfl)
theorem dL_law_1290 : decode cL_law 1290 = .ok (.aload_n 1, 1) := by decide +kernel
theorem dL_law_1291 : decode cL_law 1291 = .ok (.aload_n 0, 1) := by decide +kernel
theorem dL_law_1292 : decode cL_law 1292 = .ok (.iload_n 3, 1) := by decide +kernel
theorem dL_law_1293 : decode cL_law 1293 = .ok (.iconst 1, 1) := by decide +kernel
theorem dL_law_1294 : decode cL_law 1294 = .ok (.iadd, 1) := by decide +kernel
theorem dL_law_1295 : decode cL_law 1295 = .ok (.iaload, 1) := by decide +kernel
theorem dL_law_1296 : decode cL_law 1296 = .ok (.aload_n 0, 1) := by decide +kernel
theorem dL_law_1297 : decode cL_law 1297 = .ok (.iload_n 3, 1) := by decide +kernel
theorem dL_law_1298 : decode cL_law 1298 = .ok (.iconst 2, 1) := by decide +kernel
theorem dL_law_1299 : decode cL_law 1299 = .ok (.iadd, 1) := by decide +kernel
theorem dL_law_1300 : decode cL_law 1300 = .ok (.iaload, 1) := by decide +kernel
theorem dL_law_1301 : decode cL_law 1301 = .ok (.invokevirtual 128, 3) := by decide +kernel
theorem dL_law_1304 : decode cL_law 1304 = .ok (.pop, 1) := by decide +kernel
theorem dL_law_1305 : decode cL_law 1305 = .ok (.aload_n 2, 1) := by decide +kernel
theorem dL_law_1306 : decode cL_law 1306 = .ok (.aload_n 0, 1) := by decide +kernel
theorem dL_law_1307 : decode cL_law 1307 = .ok (.iload_n 3, 1) := by decide +kernel
theorem dL_law_1308 : decode cL_law 1308 = .ok (.iconst 1, 1) := by decide +kernel
theorem dL_law_1309 : decode cL_law 1309 = .ok (.iadd, 1) := by decide +kernel
theorem dL_law_1310 : decode cL_law 1310 = .ok (.iaload, 1) := by decide +kernel
theorem dL_law_1311 : decode cL_law 1311 = .ok (.aload_n 0, 1) := by decide +kernel
theorem dL_law_1312 : decode cL_law 1312 = .ok (.iload_n 3, 1) := by decide +kernel
theorem dL_law_1313 : decode cL_law 1313 = .ok (.iconst 2, 1) := by decide +kernel
theorem dL_law_1314 : decode cL_law 1314 = .ok (.iadd, 1) := by decide +kernel
theorem dL_law_1315 : decode cL_law 1315 = .ok (.iaload, 1) := by decide +kernel
theorem dL_law_1316 : decode cL_law 1316 = .ok (.invokevirtual 131, 3) := by decide +kernel
theorem dL_law_1319 : decode cL_law 1319 = .ok (.pop, 1) := by decide +kernel
theorem dL_law_1320 : decode cL_law 1320 = .ok (.goto 211, 3) := by decide +kernel
set_option maxHeartbeats 4000000 in
theorem lc_26 {p : Program} {l : Launch} {e : Env} {s : State} {m : MethodId} {below : List Frame} {meth : Method} {c : Code} {b N : Nat} {ii : Int32} {xs : Nat → Int32} {D : va_G} {A : Nat → Prop} {ad : Nat → Nat} {ns : List Nat} {I : MI} {L : ML} {G : MG} {H : Heap} {locs : List Loc} {ls : Array Slot} {cells slots : Nat} (F : LF p s m meth c b N xs D A) (hN : N ≤ 4096) (hi : 0 ≤ ii.toInt ∧ ii.toInt + 8 ≤ N) (hc : cells ≤ 500000) (hs : slots ≤ 5000000) (fw : WD ns I G) (hM : Mem D A ad ns I L G H) (hS : va_S A s.heap H locs) (hl : lv_has ls 4 [(0, .ref (b)), (1, .ref (ad (0))), (2, .ref (ad (1000))), (3, .int (ii))]) (kk : LK p l e s m below meth c b ii D A cells slots) : W p l e room_1 s m #[Value.ref b] below meth c H locs cells slots (lw_Z below #[Value.ref b] s) (F0 m 1290 ls []) := by
  obtain ⟨hx, hb, hml, hown, hts, hX, hbl, hbA, hA, hE⟩ := F
  obtain ⟨hC, hJ, hI, hLM, hRel⟩ := fw
  have hI0 := hI
  have hG := hC.1
  have hL := hC.lws
  have hIm := hC.2.1.ims
  have tii := tn hi.1
  have k0 : (0 : Int32).toInt = 0 := by decide
  have k1 : (1 : Int32).toInt = 1 := by decide
  have k2 : (2 : Int32).toInt = 2 := by decide
  refine lv_aload_n hx hb dL_law_1290 rfl (lv_at hl 1 rfl) ?_
  refine lv_aload_n hx hb dL_law_1291 rfl (lv_at hl 0 rfl) ?_
  refine lv_iload_n hx hb dL_law_1292 rfl (lv_at hl 3 rfl) ?_
  refine lv_iconst (v := (1)) hx hb dL_law_1293 (by decide) ?_
  refine lv_iadd hx hb dL_law_1294 ?_
  refine lv_topi (fun v1 ev1 => ?_)
  have sv1 := sx 1 ev1 (by decide) (by decide) hi hN
  refine va_sld hx hb hX hbl hbA hS (i := v1) (vp_in_iff.mpr sv1.1) dL_law_1295 ?_
  rw [sv1.2]
  clear sv1
  refine lv_aload_n hx hb dL_law_1296 rfl (lv_at hl 0 rfl) ?_
  refine lv_iload_n hx hb dL_law_1297 rfl (lv_at hl 3 rfl) ?_
  refine lv_iconst (v := (2)) hx hb dL_law_1298 (by decide) ?_
  refine lv_iadd hx hb dL_law_1299 ?_
  refine lv_topi (fun v2 ev2 => ?_)
  have sv2 := sx 2 ev2 (by decide) (by decide) hi hN
  refine va_sld hx hb hX hbl hbA hS (i := v2) (vp_in_iff.mpr sv2.1) dL_law_1300 ?_
  rw [sv2.2]
  clear sv2
  refine m_calli (m_runV (0) (As := [.int (xs (ii.toNatClampNeg + 1)), .int (xs (ii.toNatClampNeg + 2))]) (rest := []) hx hb hml hown hts hE hM hS hA ce_X9_thief tb_1086 (V_X9_thief l D A ad ns I L G (xs (ii.toNatClampNeg + 1)) (xs (ii.toNatClampNeg + 2)) hG hI) rfl rfl ⟨Nat.le_of_ble_eq_true rfl, Nat.le_of_ble_eq_true rfl⟩ (hG.1 0 (by decide)) rfl rfl (by decide) rfl hl.1 rfl (Nat.le_of_ble_eq_true rfl) dL_law_1301 ⟨(by show _ + _ ≤ 600000; omega), (by show _ + _ ≤ 7302250; omega)⟩) hS (fun r3 u H locs hw hM hS => ?_)
  obtain ⟨I1, L1, rfl, hI, hk1⟩ := hw
  have hM : Mem D A ad ns I1 L1 G H := hM
  replace hC : CW ns I1 G := cw_keep hC (hk1.get 0 14 rfl)
  replace hLM : LWM I1 := hLM.out (hk1.out rfl)
  refine lv_pop hx hb dL_law_1304 rfl ?_
  refine lv_aload_n hx hb dL_law_1305 rfl (lv_at hl 2 rfl) ?_
  refine lv_aload_n hx hb dL_law_1306 rfl (lv_at hl 0 rfl) ?_
  refine lv_iload_n hx hb dL_law_1307 rfl (lv_at hl 3 rfl) ?_
  refine lv_iconst (v := (1)) hx hb dL_law_1308 (by decide) ?_
  refine lv_iadd hx hb dL_law_1309 ?_
  refine lv_topi (fun v4 ev4 => ?_)
  have sv4 := sx 1 ev4 (by decide) (by decide) hi hN
  refine va_sld hx hb hX hbl hbA hS (i := v4) (vp_in_iff.mpr sv4.1) dL_law_1310 ?_
  rw [sv4.2]
  clear sv4
  refine lv_aload_n hx hb dL_law_1311 rfl (lv_at hl 0 rfl) ?_
  refine lv_iload_n hx hb dL_law_1312 rfl (lv_at hl 3 rfl) ?_
  refine lv_iconst (v := (2)) hx hb dL_law_1313 (by decide) ?_
  refine lv_iadd hx hb dL_law_1314 ?_
  refine lv_topi (fun v5 ev5 => ?_)
  have sv5 := sx 2 ev5 (by decide) (by decide) hi hN
  refine va_sld hx hb hX hbl hbA hS (i := v5) (vp_in_iff.mpr sv5.1) dL_law_1315 ?_
  rw [sv5.2]
  clear sv5
  refine m_calli (m_runV (1000) (As := [.int (xs (ii.toNatClampNeg + 1)), .int (xs (ii.toNatClampNeg + 2))]) (rest := []) hx hb hml hown hts hE hM hS hA ce_X10_thief tb_1790 (V_X10_thief l D A ad ns I1 L1 G (xs (ii.toNatClampNeg + 1)) (xs (ii.toNatClampNeg + 2)) hJ hI) rfl rfl ⟨Nat.le_of_ble_eq_true rfl, Nat.le_of_ble_eq_true rfl⟩ hJ.1 rfl rfl (by decide) rfl hl.1 rfl (Nat.le_of_ble_eq_true rfl) dL_law_1316 ⟨(by show _ + _ ≤ 600000; omega), (by show _ + _ ≤ 7302250; omega)⟩) hS (fun r6 u H locs hw hM hS => ?_)
  have hI1 := hI
  obtain ⟨I2, L2, rfl, hI, hk2⟩ := hw
  have hM : Mem D A ad ns I2 L2 G H := hM
  replace hC : CW ns I2 G := cw_keep hC (hk2.get 0 14 rfl)
  replace hLM : LWM I2 := hLM.kp hk2 rfl rfl
  refine lv_pop hx hb dL_law_1319 rfl ?_
  refine lv_goto (tgt := 1531) hx hb dL_law_1320 (by decide) ?_
  exact kk ad ns I2 L2 G _ _ _ _ _ (by omega) (by omega) ⟨hC, hJ, hI, hLM, ((hRel.kp hI0 hk1 (by decide)).kp hI1 hk2 (by decide))⟩ hM hS (lv_sub hl [0, 1, 2, 3] rfl)
