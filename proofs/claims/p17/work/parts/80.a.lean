theorem sx {ii v k : Int32} {N : Nat} (K : Nat) (ev : v = ii + k) (hk : k.toInt = K) (hK : K ≤ 7) (hi : 0 ≤ ii.toInt ∧ ii.toInt + 8 ≤ N) (hN : N ≤ 4096) : (0 ≤ v.toInt ∧ v.toInt < N) ∧ v.toNatClampNeg = ii.toNatClampNeg + K := by
  have t1 := a_add ev (by omega) (by omega)
  have t2 := tn (i := v) (by omega)
  have t3 := tn (i := ii) (by omega)
  exact ⟨⟨by omega, by omega⟩, by omega⟩
theorem LWM.out {I I2 : MI} (h : LWM I) (e : ∀ n, 1000 ≤ n → I2 n = I n) : LWM I2 := by
  intro r hr
  rw [e 1000 (by decide)] at hr
  exact (h r hr).of (e _ (by decide)) (e _ (by decide)) (e _ (by decide)) (e _ (by decide)) (e _ (by decide)) (e _ (by decide))
theorem SGM.ext {ns ns2 : List Nat} {ad ad2 : Nat → Nat} {G G2 : MG} (h : SGM ns G) (he : Ext ns ad ns2 ad2) (hg : ∀ n, 1000 ≤ n → G2 n = G n) : SGM ns2 G2 := ⟨(he _ h.1).1, fun k hk => ⟨(he _ (h.2 k hk).1).1, by rw [hg 1000 (by decide)]; exact (h.2 k hk).2⟩⟩
def WD (ns : List Nat) (I : MI) (G : MG) : Prop := CW ns I G ∧ SGM ns G ∧ INV I ∧ LWM I ∧ REL I G
def LF (p : Program) (s : State) (m : MethodId) (meth : Method) (c : Code) (b N : Nat) (xs : Nat → Int32) (D : va_G) (A : Nat → Prop) : Prop :=
  p.tables.exec = Jvm.exec ∧ c.code = code ∧ c.maxLocals = 4 ∧ s.vm.findClass "OneSunbeamLaw" = some m.cls ∧ (∀ w ∈ gt, w.before #[Value.ref b] s = true) ∧ va_X b N xs s s.heap ∧ b < s.heap.size ∧ ¬ A b ∧ (∀ q, s.heap.size ≤ q → A q) ∧ EV D A s s.heap
def LK (p : Program) (l : Launch) (e : Env) (s : State) (m : MethodId) (below : List Frame) (meth : Method) (c : Code) (b : Nat) (ii : Int32) (D : va_G) (A : Nat → Prop) (cells slots : Nat) : Prop :=
  ∀ (ad : Nat → Nat) (ns : List Nat) (I : MI) (L : ML) (G : MG) (H : Heap) (locs : List Loc) (ls : Array Slot) (cells2 slots2 : Nat), cells2 ≤ cells + 9 → slots2 ≤ slots + 3194 → WD ns I G → Mem D A ad ns I L G H → va_S A s.heap H locs → lv_has ls 4 [(0, .ref b), (1, .ref (ad 0)), (2, .ref (ad 1000)), (3, .int ii)] → W p l e room_1 s m #[Value.ref b] below meth c H locs cells2 slots2 (lw_Z below #[Value.ref b] s) (F0 m 1531 ls [])
theorem dL_law_180 : decode cL_law 180 = .ok (.aload_n 1, 1) := by decide +kernel
theorem dL_law_181 : decode cL_law 181 = .ok (.aload_n 0, 1) := by decide +kernel
theorem dL_law_182 : decode cL_law 182 = .ok (.iload_n 3, 1) := by decide +kernel
theorem dL_law_183 : decode cL_law 183 = .ok (.iconst 1, 1) := by decide +kernel
theorem dL_law_184 : decode cL_law 184 = .ok (.iadd, 1) := by decide +kernel
theorem dL_law_185 : decode cL_law 185 = .ok (.iaload, 1) := by decide +kernel
theorem dL_law_186 : decode cL_law 186 = .ok (.aload_n 0, 1) := by decide +kernel
theorem dL_law_187 : decode cL_law 187 = .ok (.iload_n 3, 1) := by decide +kernel
theorem dL_law_188 : decode cL_law 188 = .ok (.iconst 2, 1) := by decide +kernel
theorem dL_law_189 : decode cL_law 189 = .ok (.iadd, 1) := by decide +kernel
theorem dL_law_190 : decode cL_law 190 = .ok (.iaload, 1) := by decide +kernel
theorem dL_law_191 : decode cL_law 191 = .ok (.aload_n 0, 1) := by decide +kernel
theorem dL_law_192 : decode cL_law 192 = .ok (.iload_n 3, 1) := by decide +kernel
theorem dL_law_193 : decode cL_law 193 = .ok (.iconst 3, 1) := by decide +kernel
theorem dL_law_194 : decode cL_law 194 = .ok (.iadd, 1) := by decide +kernel
theorem dL_law_195 : decode cL_law 195 = .ok (.iaload, 1) := by decide +kernel
theorem dL_law_196 : decode cL_law 196 = .ok (.aload_n 0, 1) := by decide +kernel
theorem dL_law_197 : decode cL_law 197 = .ok (.iload_n 3, 1) := by decide +kernel
theorem dL_law_198 : decode cL_law 198 = .ok (.iconst 4, 1) := by decide +kernel
theorem dL_law_199 : decode cL_law 199 = .ok (.iadd, 1) := by decide +kernel
theorem dL_law_200 : decode cL_law 200 = .ok (.iaload, 1) := by decide +kernel
theorem dL_law_201 : decode cL_law 201 = .ok (.aload_n 0, 1) := by decide +kernel
theorem dL_law_202 : decode cL_law 202 = .ok (.iload_n 3, 1) := by decide +kernel
theorem dL_law_203 : decode cL_law 203 = .ok (.iconst 5, 1) := by decide +kernel
theorem dL_law_204 : decode cL_law 204 = .ok (.iadd, 1) := by decide +kernel
theorem dL_law_205 : decode cL_law 205 = .ok (.iaload, 1) := by decide +kernel
theorem dL_law_206 : decode cL_law 206 = .ok (.invokevirtual 13, 3) := by decide +kernel
theorem dL_law_209 : decode cL_law 209 = .ok (.pop, 1) := by decide +kernel
theorem dL_law_210 : decode cL_law 210 = .ok (.aload_n 2, 1) := by decide +kernel
theorem dL_law_211 : decode cL_law 211 = .ok (.aload_n 0, 1) := by decide +kernel
theorem dL_law_212 : decode cL_law 212 = .ok (.iload_n 3, 1) := by decide +kernel
theorem dL_law_213 : decode cL_law 213 = .ok (.iconst 1, 1) := by decide +kernel
theorem dL_law_214 : decode cL_law 214 = .ok (.iadd, 1) := by decide +kernel
theorem dL_law_215 : decode cL_law 215 = .ok (.iaload, 1) := by decide +kernel
theorem dL_law_216 : decode cL_law 216 = .ok (.aload_n 0, 1) := by decide +kernel
theorem dL_law_217 : decode cL_law 217 = .ok (.iload_n 3, 1) := by decide +kernel
theorem dL_law_218 : decode cL_law 218 = .ok (.iconst 2, 1) := by decide +kernel
theorem dL_law_219 : decode cL_law 219 = .ok (.iadd, 1) := by decide +kernel
theorem dL_law_220 : decode cL_law 220 = .ok (.iaload, 1) := by decide +kernel
theorem dL_law_221 : decode cL_law 221 = .ok (.aload_n 0, 1) := by decide +kernel
theorem dL_law_222 : decode cL_law 222 = .ok (.iload_n 3, 1) := by decide +kernel
theorem dL_law_223 : decode cL_law 223 = .ok (.iconst 3, 1) := by decide +kernel
theorem dL_law_224 : decode cL_law 224 = .ok (.iadd, 1) := by decide +kernel
theorem dL_law_225 : decode cL_law 225 = .ok (.iaload, 1) := by decide +kernel
theorem dL_law_226 : decode cL_law 226 = .ok (.aload_n 0, 1) := by decide +kernel
theorem dL_law_227 : decode cL_law 227 = .ok (.iload_n 3, 1) := by decide +kernel
theorem dL_law_228 : decode cL_law 228 = .ok (.iconst 4, 1) := by decide +kernel
theorem dL_law_229 : decode cL_law 229 = .ok (.iadd, 1) := by decide +kernel
theorem dL_law_230 : decode cL_law 230 = .ok (.iaload, 1) := by decide +kernel
theorem dL_law_231 : decode cL_law 231 = .ok (.aload_n 0, 1) := by decide +kernel
theorem dL_law_232 : decode cL_law 232 = .ok (.iload_n 3, 1) := by decide +kernel
theorem dL_law_233 : decode cL_law 233 = .ok (.iconst 5, 1) := by decide +kernel
theorem dL_law_234 : decode cL_law 234 = .ok (.iadd, 1) := by decide +kernel
theorem dL_law_235 : decode cL_law 235 = .ok (.iaload, 1) := by decide +kernel
theorem dL_law_236 : decode cL_law 236 = .ok (.invokevirtual 17, 3) := by decide +kernel
theorem dL_law_239 : decode cL_law 239 = .ok (.pop, 1) := by decide +kernel
theorem dL_law_240 : decode cL_law 240 = .ok (.goto 1291, 3) := by decide +kernel
set_option maxHeartbeats 4000000 in
theorem lc_0 {p : Program} {l : Launch} {e : Env} {s : State} {m : MethodId} {below : List Frame} {meth : Method} {c : Code} {b N : Nat} {ii : Int32} {xs : Nat → Int32} {D : va_G} {A : Nat → Prop} {ad : Nat → Nat} {ns : List Nat} {I : MI} {L : ML} {G : MG} {H : Heap} {locs : List Loc} {ls : Array Slot} {cells slots : Nat} (F : LF p s m meth c b N xs D A) (hN : N ≤ 4096) (hi : 0 ≤ ii.toInt ∧ ii.toInt + 8 ≤ N) (hc : cells ≤ 500000) (hs : slots ≤ 5000000) (fw : WD ns I G) (hM : Mem D A ad ns I L G H) (hS : va_S A s.heap H locs) (hl : lv_has ls 4 [(0, .ref (b)), (1, .ref (ad (0))), (2, .ref (ad (1000))), (3, .int (ii))]) (kk : LK p l e s m below meth c b ii D A cells slots) : W p l e room_1 s m #[Value.ref b] below meth c H locs cells slots (lw_Z below #[Value.ref b] s) (F0 m 180 ls []) := by
  obtain ⟨hx, hb, hml, hown, hts, hX, hbl, hbA, hA, hE⟩ := F
  obtain ⟨hC, hJ, hI, hLM, hRel⟩ := fw
  have hI0 := hI
  have hG := hC.1
  have hL := hC.lws
  have hIm := hC.2.1.ims
  have tii := tn hi.1
  have k0 : (0 : Int32).toInt = 0 := by decide
  have k1 : (1 : Int32).toInt = 1 := by decide
  have k2 : (2 : Int32).toInt = 2 := by decide
  have k3 : (3 : Int32).toInt = 3 := by decide
  have k4 : (4 : Int32).toInt = 4 := by decide
  have k5 : (5 : Int32).toInt = 5 := by decide
  refine lv_aload_n hx hb dL_law_180 rfl (lv_at hl 1 rfl) ?_
  refine lv_aload_n hx hb dL_law_181 rfl (lv_at hl 0 rfl) ?_
  refine lv_iload_n hx hb dL_law_182 rfl (lv_at hl 3 rfl) ?_
  refine lv_iconst (v := (1)) hx hb dL_law_183 (by decide) ?_
  refine lv_iadd hx hb dL_law_184 ?_
  refine lv_topi (fun v1 ev1 => ?_)
  have sv1 := sx 1 ev1 (by decide) (by decide) hi hN
  refine va_sld hx hb hX hbl hbA hS (i := v1) (vp_in_iff.mpr sv1.1) dL_law_185 ?_
  rw [sv1.2]
  clear sv1
  refine lv_aload_n hx hb dL_law_186 rfl (lv_at hl 0 rfl) ?_
  refine lv_iload_n hx hb dL_law_187 rfl (lv_at hl 3 rfl) ?_
  refine lv_iconst (v := (2)) hx hb dL_law_188 (by decide) ?_
  refine lv_iadd hx hb dL_law_189 ?_
  refine lv_topi (fun v2 ev2 => ?_)
  have sv2 := sx 2 ev2 (by decide) (by decide) hi hN
  refine va_sld hx hb hX hbl hbA hS (i := v2) (vp_in_iff.mpr sv2.1) dL_law_190 ?_
  rw [sv2.2]
  clear sv2
  refine lv_aload_n hx hb dL_law_191 rfl (lv_at hl 0 rfl) ?_
  refine lv_iload_n hx hb dL_law_192 rfl (lv_at hl 3 rfl) ?_
  refine lv_iconst (v := (3)) hx hb dL_law_193 (by decide) ?_
  refine lv_iadd hx hb dL_law_194 ?_
  refine lv_topi (fun v3 ev3 => ?_)
  have sv3 := sx 3 ev3 (by decide) (by decide) hi hN
  refine va_sld hx hb hX hbl hbA hS (i := v3) (vp_in_iff.mpr sv3.1) dL_law_195 ?_
  rw [sv3.2]
  clear sv3
  refine lv_aload_n hx hb dL_law_196 rfl (lv_at hl 0 rfl) ?_
  refine lv_iload_n hx hb dL_law_197 rfl (lv_at hl 3 rfl) ?_
  refine lv_iconst (v := (4)) hx hb dL_law_198 (by decide) ?_
  refine lv_iadd hx hb dL_law_199 ?_
  refine lv_topi (fun v4 ev4 => ?_)
  have sv4 := sx 4 ev4 (by decide) (by decide) hi hN
  refine va_sld hx hb hX hbl hbA hS (i := v4) (vp_in_iff.mpr sv4.1) dL_law_200 ?_
  rw [sv4.2]
  clear sv4
  refine lv_aload_n hx hb dL_law_201 rfl (lv_at hl 0 rfl) ?_
  refine lv_iload_n hx hb dL_law_202 rfl (lv_at hl 3 rfl) ?_
  refine lv_iconst (v := (5)) hx hb dL_law_203 (by decide) ?_
  refine lv_iadd hx hb dL_law_204 ?_
  refine lv_topi (fun v5 ev5 => ?_)
  have sv5 := sx 5 ev5 (by decide) (by decide) hi hN
  refine va_sld hx hb hX hbl hbA hS (i := v5) (vp_in_iff.mpr sv5.1) dL_law_205 ?_
  rw [sv5.2]
  clear sv5
  refine m_calli (m_runV (0) (As := [.int (xs (ii.toNatClampNeg + 1)), .int (xs (ii.toNatClampNeg + 2)), .int (xs (ii.toNatClampNeg + 3)), .int (xs (ii.toNatClampNeg + 4)), .int (xs (ii.toNatClampNeg + 5))]) (rest := []) hx hb hml hown hts hE hM hS hA ce_X9_town tb_447 (V_X9_town_f l D A ad ns I L G (xs (ii.toNatClampNeg + 1)) (xs (ii.toNatClampNeg + 2)) (xs (ii.toNatClampNeg + 3)) (xs (ii.toNatClampNeg + 4)) (xs (ii.toNatClampNeg + 5)) hG hI) rfl rfl ⟨Nat.le_of_ble_eq_true rfl, Nat.le_of_ble_eq_true rfl⟩ (hG.1 0 (by decide)) rfl rfl (by decide) rfl hl.1 rfl (Nat.le_of_ble_eq_true rfl) dL_law_206 ⟨(by show _ + _ ≤ 600000; omega), (by show _ + _ ≤ 7302250; omega)⟩) hS (fun r6 u H locs hw hM hS => ?_)
  obtain ⟨I1, L1, rfl, hI, hk1, y1⟩ := hw
  have hM : Mem D A ad ns I1 L1 G H := hM
  replace hC : CW ns I1 G := cw_keep hC (hk1.get 0 14 rfl)
  replace hLM : LWM I1 := hLM.out (hk1.out rfl)
  refine lv_pop hx hb dL_law_209 rfl ?_
  refine lv_aload_n hx hb dL_law_210 rfl (lv_at hl 2 rfl) ?_
  refine lv_aload_n hx hb dL_law_211 rfl (lv_at hl 0 rfl) ?_
  refine lv_iload_n hx hb dL_law_212 rfl (lv_at hl 3 rfl) ?_
  refine lv_iconst (v := (1)) hx hb dL_law_213 (by decide) ?_
  refine lv_iadd hx hb dL_law_214 ?_
  refine lv_topi (fun v7 ev7 => ?_)
  have sv7 := sx 1 ev7 (by decide) (by decide) hi hN
  refine va_sld hx hb hX hbl hbA hS (i := v7) (vp_in_iff.mpr sv7.1) dL_law_215 ?_
  rw [sv7.2]
  clear sv7
  refine lv_aload_n hx hb dL_law_216 rfl (lv_at hl 0 rfl) ?_
  refine lv_iload_n hx hb dL_law_217 rfl (lv_at hl 3 rfl) ?_
  refine lv_iconst (v := (2)) hx hb dL_law_218 (by decide) ?_
  refine lv_iadd hx hb dL_law_219 ?_
  refine lv_topi (fun v8 ev8 => ?_)
  have sv8 := sx 2 ev8 (by decide) (by decide) hi hN
  refine va_sld hx hb hX hbl hbA hS (i := v8) (vp_in_iff.mpr sv8.1) dL_law_220 ?_
  rw [sv8.2]
  clear sv8
  refine lv_aload_n hx hb dL_law_221 rfl (lv_at hl 0 rfl) ?_
  refine lv_iload_n hx hb dL_law_222 rfl (lv_at hl 3 rfl) ?_
  refine lv_iconst (v := (3)) hx hb dL_law_223 (by decide) ?_
  refine lv_iadd hx hb dL_law_224 ?_
  refine lv_topi (fun v9 ev9 => ?_)
  have sv9 := sx 3 ev9 (by decide) (by decide) hi hN
  refine va_sld hx hb hX hbl hbA hS (i := v9) (vp_in_iff.mpr sv9.1) dL_law_225 ?_
  rw [sv9.2]
  clear sv9
  refine lv_aload_n hx hb dL_law_226 rfl (lv_at hl 0 rfl) ?_
  refine lv_iload_n hx hb dL_law_227 rfl (lv_at hl 3 rfl) ?_
  refine lv_iconst (v := (4)) hx hb dL_law_228 (by decide) ?_
  refine lv_iadd hx hb dL_law_229 ?_
  refine lv_topi (fun v10 ev10 => ?_)
  have sv10 := sx 4 ev10 (by decide) (by decide) hi hN
  refine va_sld hx hb hX hbl hbA hS (i := v10) (vp_in_iff.mpr sv10.1) dL_law_230 ?_
  rw [sv10.2]
  clear sv10
  refine lv_aload_n hx hb dL_law_231 rfl (lv_at hl 0 rfl) ?_
  refine lv_iload_n hx hb dL_law_232 rfl (lv_at hl 3 rfl) ?_
  refine lv_iconst (v := (5)) hx hb dL_law_233 (by decide) ?_
  refine lv_iadd hx hb dL_law_234 ?_
  refine lv_topi (fun v11 ev11 => ?_)
  have sv11 := sx 5 ev11 (by decide) (by decide) hi hN
  refine va_sld hx hb hX hbl hbA hS (i := v11) (vp_in_iff.mpr sv11.1) dL_law_235 ?_
  rw [sv11.2]
  clear sv11
  refine m_calli (m_runV (1000) (As := [.int (xs (ii.toNatClampNeg + 1)), .int (xs (ii.toNatClampNeg + 2)), .int (xs (ii.toNatClampNeg + 3)), .int (xs (ii.toNatClampNeg + 4)), .int (xs (ii.toNatClampNeg + 5))]) (rest := []) hx hb hml hown hts hE hM hS hA ce_X10_town tb_1419 (V_X10_town_f l D A ad ns I1 L1 G (xs (ii.toNatClampNeg + 1)) (xs (ii.toNatClampNeg + 2)) (xs (ii.toNatClampNeg + 3)) (xs (ii.toNatClampNeg + 4)) (xs (ii.toNatClampNeg + 5)) hJ hI) rfl rfl ⟨Nat.le_of_ble_eq_true rfl, Nat.le_of_ble_eq_true rfl⟩ hJ.1 rfl rfl (by decide) rfl hl.1 rfl (Nat.le_of_ble_eq_true rfl) dL_law_236 ⟨(by show _ + _ ≤ 600000; omega), (by show _ + _ ≤ 7302250; omega)⟩) hS (fun r12 u H locs hw hM hS => ?_)
  have hI1 := hI
  obtain ⟨I2, L2, rfl, hI, hk2, y2⟩ := hw
  have hM : Mem D A ad ns I2 L2 G H := hM
  replace hC : CW ns I2 G := cw_keep hC (hk2.get 0 14 rfl)
  replace hLM : LWM I2 := hLM.kp hk2 rfl rfl
  refine lv_pop hx hb dL_law_239 rfl ?_
  refine lv_goto (tgt := 1531) hx hb dL_law_240 (by decide) ?_
  exact kk ad ns I2 L2 G _ _ _ _ _ (by omega) (by omega) ⟨hC, hJ, hI, hLM, (hRel.town hI0 y1 y2 hk1 hk2)⟩ hM hS (lv_sub hl [0, 1, 2, 3] rfl)
theorem dL_law_243 : decode cL_law 243 = .ok (.aload_n 1, 1) := by decide +kernel
theorem dL_law_244 : decode cL_law 244 = .ok (.aload_n 0, 1) := by decide +kernel
theorem dL_law_245 : decode cL_law 245 = .ok (.iload_n 3, 1) := by decide +kernel
theorem dL_law_246 : decode cL_law 246 = .ok (.iconst 1, 1) := by decide +kernel
theorem dL_law_247 : decode cL_law 247 = .ok (.iadd, 1) := by decide +kernel
theorem dL_law_248 : decode cL_law 248 = .ok (.iaload, 1) := by decide +kernel
theorem dL_law_249 : decode cL_law 249 = .ok (.aload_n 0, 1) := by decide +kernel
theorem dL_law_250 : decode cL_law 250 = .ok (.iload_n 3, 1) := by decide +kernel
theorem dL_law_251 : decode cL_law 251 = .ok (.iconst 2, 1) := by decide +kernel
theorem dL_law_252 : decode cL_law 252 = .ok (.iadd, 1) := by decide +kernel
theorem dL_law_253 : decode cL_law 253 = .ok (.iaload, 1) := by decide +kernel
theorem dL_law_254 : decode cL_law 254 = .ok (.aload_n 0, 1) := by decide +kernel
theorem dL_law_255 : decode cL_law 255 = .ok (.iload_n 3, 1) := by decide +kernel
theorem dL_law_256 : decode cL_law 256 = .ok (.iconst 3, 1) := by decide +kernel
theorem dL_law_257 : decode cL_law 257 = .ok (.iadd, 1) := by decide +kernel
theorem dL_law_258 : decode cL_law 258 = .ok (.iaload, 1) := by decide +kernel
theorem dL_law_259 : decode cL_law 259 = .ok (.aload_n 0, 1) := by decide +kernel
theorem dL_law_260 : decode cL_law 260 = .ok (.iload_n 3, 1) := by decide +kernel
theorem dL_law_261 : decode cL_law 261 = .ok (.iconst 4, 1) := by decide +kernel
theorem dL_law_262 : decode cL_law 262 = .ok (.iadd, 1) := by decide +kernel
theorem dL_law_263 : decode cL_law 263 = .ok (.iaload, 1) := by decide +kernel
theorem dL_law_264 : decode cL_law 264 = .ok (.aload_n 0, 1) := by decide +kernel
theorem dL_law_265 : decode cL_law 265 = .ok (.iload_n 3, 1) := by decide +kernel
theorem dL_law_266 : decode cL_law 266 = .ok (.iconst 5, 1) := by decide +kernel
theorem dL_law_267 : decode cL_law 267 = .ok (.iadd, 1) := by decide +kernel
theorem dL_law_268 : decode cL_law 268 = .ok (.iaload, 1) := by decide +kernel
theorem dL_law_269 : decode cL_law 269 = .ok (.ifCond .eq 7, 3) := by decide +kernel
theorem dL_law_272 : decode cL_law 272 = .ok (.iconst 1, 1) := by decide +kernel
theorem dL_law_273 : decode cL_law 273 = .ok (.goto 4, 3) := by decide +kernel
theorem dL_law_276 : decode cL_law 276 = .ok (.iconst 0, 1) := by decide +kernel
theorem dL_law_277 : decode cL_law 277 = .ok (.invokevirtual 18, 3) := by decide +kernel
theorem dL_law_280 : decode cL_law 280 = .ok (.pop, 1) := by decide +kernel
theorem dL_law_281 : decode cL_law 281 = .ok (.aload_n 2, 1) := by decide +kernel
theorem dL_law_282 : decode cL_law 282 = .ok (.aload_n 0, 1) := by decide +kernel
theorem dL_law_283 : decode cL_law 283 = .ok (.iload_n 3, 1) := by decide +kernel
theorem dL_law_284 : decode cL_law 284 = .ok (.iconst 1, 1) := by decide +kernel
theorem dL_law_285 : decode cL_law 285 = .ok (.iadd, 1) := by decide +kernel
theorem dL_law_286 : decode cL_law 286 = .ok (.iaload, 1) := by decide +kernel
theorem dL_law_287 : decode cL_law 287 = .ok (.aload_n 0, 1) := by decide +kernel
theorem dL_law_288 : decode cL_law 288 = .ok (.iload_n 3, 1) := by decide +kernel
theorem dL_law_289 : decode cL_law 289 = .ok (.iconst 2, 1) := by decide +kernel
theorem dL_law_290 : decode cL_law 290 = .ok (.iadd, 1) := by decide +kernel
theorem dL_law_291 : decode cL_law 291 = .ok (.iaload, 1) := by decide +kernel
theorem dL_law_292 : decode cL_law 292 = .ok (.aload_n 0, 1) := by decide +kernel
theorem dL_law_293 : decode cL_law 293 = .ok (.iload_n 3, 1) := by decide +kernel
theorem dL_law_294 : decode cL_law 294 = .ok (.iconst 3, 1) := by decide +kernel
theorem dL_law_295 : decode cL_law 295 = .ok (.iadd, 1) := by decide +kernel
theorem dL_law_296 : decode cL_law 296 = .ok (.iaload, 1) := by decide +kernel
theorem dL_law_297 : decode cL_law 297 = .ok (.aload_n 0, 1) := by decide +kernel
theorem dL_law_298 : decode cL_law 298 = .ok (.iload_n 3, 1) := by decide +kernel
theorem dL_law_299 : decode cL_law 299 = .ok (.iconst 4, 1) := by decide +kernel
theorem dL_law_300 : decode cL_law 300 = .ok (.iadd, 1) := by decide +kernel
theorem dL_law_301 : decode cL_law 301 = .ok (.iaload, 1) := by decide +kernel
theorem dL_law_302 : decode cL_law 302 = .ok (.aload_n 0, 1) := by decide +kernel
theorem dL_law_303 : decode cL_law 303 = .ok (.iload_n 3, 1) := by decide +kernel
theorem dL_law_304 : decode cL_law 304 = .ok (.iconst 5, 1) := by decide +kernel
theorem dL_law_305 : decode cL_law 305 = .ok (.iadd, 1) := by decide +kernel
theorem dL_law_306 : decode cL_law 306 = .ok (.iaload, 1) := by decide +kernel
theorem dL_law_307 : decode cL_law 307 = .ok (.ifCond .eq 7, 3) := by decide +kernel
theorem dL_law_310 : decode cL_law 310 = .ok (.iconst 1, 1) := by decide +kernel
theorem dL_law_311 : decode cL_law 311 = .ok (.goto 4, 3) := by decide +kernel
theorem dL_law_314 : decode cL_law 314 = .ok (.iconst 0, 1) := by decide +kernel
theorem dL_law_315 : decode cL_law 315 = .ok (.invokevirtual 22, 3) := by decide +kernel
theorem dL_law_318 : decode cL_law 318 = .ok (.pop, 1) := by decide +kernel
theorem dL_law_319 : decode cL_law 319 = .ok (.goto 1212, 3) := by decide +kernel
set_option maxHeartbeats 4000000 in
theorem lc_1 {p : Program} {l : Launch} {e : Env} {s : State} {m : MethodId} {below : List Frame} {meth : Method} {c : Code} {b N : Nat} {ii : Int32} {xs : Nat → Int32} {D : va_G} {A : Nat → Prop} {ad : Nat → Nat} {ns : List Nat} {I : MI} {L : ML} {G : MG} {H : Heap} {locs : List Loc} {ls : Array Slot} {cells slots : Nat} (F : LF p s m meth c b N xs D A) (hN : N ≤ 4096) (hi : 0 ≤ ii.toInt ∧ ii.toInt + 8 ≤ N) (hc : cells ≤ 500000) (hs : slots ≤ 5000000) (fw : WD ns I G) (hM : Mem D A ad ns I L G H) (hS : va_S A s.heap H locs) (hl : lv_has ls 4 [(0, .ref (b)), (1, .ref (ad (0))), (2, .ref (ad (1000))), (3, .int (ii))]) (kk : LK p l e s m below meth c b ii D A cells slots) : W p l e room_1 s m #[Value.ref b] below meth c H locs cells slots (lw_Z below #[Value.ref b] s) (F0 m 243 ls []) := by
  obtain ⟨hx, hb, hml, hown, hts, hX, hbl, hbA, hA, hE⟩ := F
  obtain ⟨hC, hJ, hI, hLM, hRel⟩ := fw
  have hI0 := hI
  have hG := hC.1
  have hL := hC.lws
  have hIm := hC.2.1.ims
  have tii := tn hi.1
  have k0 : (0 : Int32).toInt = 0 := by decide
  have k1 : (1 : Int32).toInt = 1 := by decide
  have k2 : (2 : Int32).toInt = 2 := by decide
  have k3 : (3 : Int32).toInt = 3 := by decide
  have k4 : (4 : Int32).toInt = 4 := by decide
  have k5 : (5 : Int32).toInt = 5 := by decide
  refine lv_aload_n hx hb dL_law_243 rfl (lv_at hl 1 rfl) ?_
  refine lv_aload_n hx hb dL_law_244 rfl (lv_at hl 0 rfl) ?_
  refine lv_iload_n hx hb dL_law_245 rfl (lv_at hl 3 rfl) ?_
  refine lv_iconst (v := (1)) hx hb dL_law_246 (by decide) ?_
  refine lv_iadd hx hb dL_law_247 ?_
  refine lv_topi (fun v1 ev1 => ?_)
  have sv1 := sx 1 ev1 (by decide) (by decide) hi hN
  refine va_sld hx hb hX hbl hbA hS (i := v1) (vp_in_iff.mpr sv1.1) dL_law_248 ?_
  rw [sv1.2]
  clear sv1
  refine lv_aload_n hx hb dL_law_249 rfl (lv_at hl 0 rfl) ?_
  refine lv_iload_n hx hb dL_law_250 rfl (lv_at hl 3 rfl) ?_
  refine lv_iconst (v := (2)) hx hb dL_law_251 (by decide) ?_
  refine lv_iadd hx hb dL_law_252 ?_
  refine lv_topi (fun v2 ev2 => ?_)
  have sv2 := sx 2 ev2 (by decide) (by decide) hi hN
  refine va_sld hx hb hX hbl hbA hS (i := v2) (vp_in_iff.mpr sv2.1) dL_law_253 ?_
  rw [sv2.2]
  clear sv2
  refine lv_aload_n hx hb dL_law_254 rfl (lv_at hl 0 rfl) ?_
  refine lv_iload_n hx hb dL_law_255 rfl (lv_at hl 3 rfl) ?_
  refine lv_iconst (v := (3)) hx hb dL_law_256 (by decide) ?_
  refine lv_iadd hx hb dL_law_257 ?_
  refine lv_topi (fun v3 ev3 => ?_)
  have sv3 := sx 3 ev3 (by decide) (by decide) hi hN
  refine va_sld hx hb hX hbl hbA hS (i := v3) (vp_in_iff.mpr sv3.1) dL_law_258 ?_
  rw [sv3.2]
  clear sv3
  refine lv_aload_n hx hb dL_law_259 rfl (lv_at hl 0 rfl) ?_
  refine lv_iload_n hx hb dL_law_260 rfl (lv_at hl 3 rfl) ?_
  refine lv_iconst (v := (4)) hx hb dL_law_261 (by decide) ?_
  refine lv_iadd hx hb dL_law_262 ?_
  refine lv_topi (fun v4 ev4 => ?_)
  have sv4 := sx 4 ev4 (by decide) (by decide) hi hN
  refine va_sld hx hb hX hbl hbA hS (i := v4) (vp_in_iff.mpr sv4.1) dL_law_263 ?_
  rw [sv4.2]
  clear sv4
  refine lv_aload_n hx hb dL_law_264 rfl (lv_at hl 0 rfl) ?_
  refine lv_iload_n hx hb dL_law_265 rfl (lv_at hl 3 rfl) ?_
  refine lv_iconst (v := (5)) hx hb dL_law_266 (by decide) ?_
  refine lv_iadd hx hb dL_law_267 ?_
  refine lv_topi (fun v5 ev5 => ?_)
  have sv5 := sx 5 ev5 (by decide) (by decide) hi hN
  refine va_sld hx hb hX hbl hbA hS (i := v5) (vp_in_iff.mpr sv5.1) dL_law_268 ?_
  rw [sv5.2]
  clear sv5
  refine lv_if_eq (tgt := 276) hx hb dL_law_269 (by decide) (fun c6 => ?_) (fun c6 => ?_)
  · have hc6 := c6
    have q6 := q_eq hc6
    refine lv_iconst (v := (0)) hx hb dL_law_276 (by decide) ?_
    refine m_calli (m_runV (0) (As := [.int (xs (ii.toNatClampNeg + 1)), .int (xs (ii.toNatClampNeg + 2)), .int (xs (ii.toNatClampNeg + 3)), .int (xs (ii.toNatClampNeg + 4)), .int (0)]) (rest := []) hx hb hml hown hts hE hM hS hA ce_X9_rock tb_461 (V_X9_rock_g l D A ad ns I L G (xs (ii.toNatClampNeg + 1)) (xs (ii.toNatClampNeg + 2)) (xs (ii.toNatClampNeg + 3)) (xs (ii.toNatClampNeg + 4)) (0) hG hI (by first | omega | decide)) rfl rfl ⟨Nat.le_of_ble_eq_true rfl, Nat.le_of_ble_eq_true rfl⟩ (hG.1 0 (by decide)) rfl rfl (by decide) rfl hl.1 rfl (Nat.le_of_ble_eq_true rfl) dL_law_277 ⟨(by show _ + _ ≤ 600000; omega), (by show _ + _ ≤ 7302250; omega)⟩) hS (fun r7 u H locs hw hM hS => ?_)
    obtain ⟨I1, L1, rfl, hI, hk1, y1⟩ := hw
    have hM : Mem D A ad ns I1 L1 G H := hM
    replace hC : CW ns I1 G := cw_keep hC (hk1.get 0 14 rfl)
    replace hLM : LWM I1 := hLM.out (hk1.out rfl)
    refine lv_pop hx hb dL_law_280 rfl ?_
    refine lv_aload_n hx hb dL_law_281 rfl (lv_at hl 2 rfl) ?_
    refine lv_aload_n hx hb dL_law_282 rfl (lv_at hl 0 rfl) ?_
    refine lv_iload_n hx hb dL_law_283 rfl (lv_at hl 3 rfl) ?_
    refine lv_iconst (v := (1)) hx hb dL_law_284 (by decide) ?_
    refine lv_iadd hx hb dL_law_285 ?_
    refine lv_topi (fun v8 ev8 => ?_)
    have sv8 := sx 1 ev8 (by decide) (by decide) hi hN
    refine va_sld hx hb hX hbl hbA hS (i := v8) (vp_in_iff.mpr sv8.1) dL_law_286 ?_
    rw [sv8.2]
    clear sv8
    refine lv_aload_n hx hb dL_law_287 rfl (lv_at hl 0 rfl) ?_
    refine lv_iload_n hx hb dL_law_288 rfl (lv_at hl 3 rfl) ?_
    refine lv_iconst (v := (2)) hx hb dL_law_289 (by decide) ?_
    refine lv_iadd hx hb dL_law_290 ?_
    refine lv_topi (fun v9 ev9 => ?_)
    have sv9 := sx 2 ev9 (by decide) (by decide) hi hN
    refine va_sld hx hb hX hbl hbA hS (i := v9) (vp_in_iff.mpr sv9.1) dL_law_291 ?_
    rw [sv9.2]
    clear sv9
    refine lv_aload_n hx hb dL_law_292 rfl (lv_at hl 0 rfl) ?_
    refine lv_iload_n hx hb dL_law_293 rfl (lv_at hl 3 rfl) ?_
    refine lv_iconst (v := (3)) hx hb dL_law_294 (by decide) ?_
    refine lv_iadd hx hb dL_law_295 ?_
    refine lv_topi (fun v10 ev10 => ?_)
    have sv10 := sx 3 ev10 (by decide) (by decide) hi hN
    refine va_sld hx hb hX hbl hbA hS (i := v10) (vp_in_iff.mpr sv10.1) dL_law_296 ?_
    rw [sv10.2]
    clear sv10
    refine lv_aload_n hx hb dL_law_297 rfl (lv_at hl 0 rfl) ?_
    refine lv_iload_n hx hb dL_law_298 rfl (lv_at hl 3 rfl) ?_
    refine lv_iconst (v := (4)) hx hb dL_law_299 (by decide) ?_
    refine lv_iadd hx hb dL_law_300 ?_
    refine lv_topi (fun v11 ev11 => ?_)
    have sv11 := sx 4 ev11 (by decide) (by decide) hi hN
    refine va_sld hx hb hX hbl hbA hS (i := v11) (vp_in_iff.mpr sv11.1) dL_law_301 ?_
    rw [sv11.2]
    clear sv11
    refine lv_aload_n hx hb dL_law_302 rfl (lv_at hl 0 rfl) ?_
    refine lv_iload_n hx hb dL_law_303 rfl (lv_at hl 3 rfl) ?_
    refine lv_iconst (v := (5)) hx hb dL_law_304 (by decide) ?_
    refine lv_iadd hx hb dL_law_305 ?_
    refine lv_topi (fun v12 ev12 => ?_)
    have sv12 := sx 5 ev12 (by decide) (by decide) hi hN
    refine va_sld hx hb hX hbl hbA hS (i := v12) (vp_in_iff.mpr sv12.1) dL_law_306 ?_
    rw [sv12.2]
    clear sv12
    refine lv_if_eq (tgt := 314) hx hb dL_law_307 (by decide) (fun c13 => ?_) (fun c13 => ?_)
    · have hc13 := c13
      have q13 := q_eq hc13
      refine lv_iconst (v := (0)) hx hb dL_law_314 (by decide) ?_
      refine m_calli (m_runV (1000) (As := [.int (xs (ii.toNatClampNeg + 1)), .int (xs (ii.toNatClampNeg + 2)), .int (xs (ii.toNatClampNeg + 3)), .int (xs (ii.toNatClampNeg + 4)), .int (0)]) (rest := []) hx hb hml hown hts hE hM hS hA ce_X10_rock tb_1429 (V_X10_rock_g l D A ad ns I1 L1 G (xs (ii.toNatClampNeg + 1)) (xs (ii.toNatClampNeg + 2)) (xs (ii.toNatClampNeg + 3)) (xs (ii.toNatClampNeg + 4)) (0) hJ hI (by first | omega | decide)) rfl rfl ⟨Nat.le_of_ble_eq_true rfl, Nat.le_of_ble_eq_true rfl⟩ hJ.1 rfl rfl (by decide) rfl hl.1 rfl (Nat.le_of_ble_eq_true rfl) dL_law_315 ⟨(by show _ + _ ≤ 600000; omega), (by show _ + _ ≤ 7302250; omega)⟩) hS (fun r14 u H locs hw hM hS => ?_)
      have hI1 := hI
      obtain ⟨I2, L2, rfl, hI, hk2, y2⟩ := hw
      have hM : Mem D A ad ns I2 L2 G H := hM
      replace hC : CW ns I2 G := cw_keep hC (hk2.get 0 14 rfl)
      replace hLM : LWM I2 := hLM.kp hk2 rfl rfl
      have hbg := beg_iff hRel
      have e11 : I 1001 1 = I 100 0 := hRel.1.1.1
      have e12 : I 1001 2 = I 100 1 := hRel.1.1.2.1
      have e18 : I 1001 8 = I 100 8 := hRel.1.1.2.2.2.2.1
      have e19 : I 1001 9 = I 100 9 := hRel.1.1.2.2.2.2.2.1
      have hcc : (0 ≤ (xs (ii.toNatClampNeg + 1)).toInt ∧ (xs (ii.toNatClampNeg + 1)).toInt < (I 100 0).toInt ∧ 0 ≤ (xs (ii.toNatClampNeg + 2)).toInt ∧ (xs (ii.toNatClampNeg + 2)).toInt < (I 100 1).toInt) → 24 * (xs (ii.toNatClampNeg + 2)).toNatClampNeg + (xs (ii.toNatClampNeg + 1)).toNatClampNeg < 576 := fun hh => by have g0 := hI0.get 100 0 (lo := 0) (hi := 24) rfl; have g1 := hI0.get 100 1 (lo := 0) (hi := 24) rfl; have z0 := tn (i := xs (ii.toNatClampNeg + 1)) (by omega); have z1 := tn (i := xs (ii.toNatClampNeg + 2)) (by omega); omega
      have hsm := hRel.rock hI0 y1 y2 (by rw [hk1.out rfl 1001 (by decide), e11, e12]; clear hcc; constructor <;> intro hh <;> omega) (fun hh => by clear hcc; have g0 := hI0.get 100 0 (lo := 0) (hi := 24) rfl; have g1 := hI0.get 100 1 (lo := 0) (hi := 24) rfl; omega) (fun n hn => hk1.apart 101 102 rfl n (by clear hcc; omega)) (fun n hn => hk2.apart 1002 1003 rfl n (by clear hcc; omega))
      refine lv_pop hx hb dL_law_318 rfl ?_
      refine lv_goto (tgt := 1531) hx hb dL_law_319 (by decide) ?_
      exact kk ad ns I2 L2 G _ _ _ _ _ (by omega) (by omega) ⟨hC, hJ, hI, hLM, hsm.2⟩ hM hS (lv_sub hl [0, 1, 2, 3] rfl)
    · exact absurd c6 c13
  · have hc6 := c6
    have q6 := q_ne hc6
    refine lv_iconst (v := (1)) hx hb dL_law_272 (by decide) ?_
    refine lv_goto (tgt := 277) hx hb dL_law_273 (by decide) ?_
    refine m_calli (m_runV (0) (As := [.int (xs (ii.toNatClampNeg + 1)), .int (xs (ii.toNatClampNeg + 2)), .int (xs (ii.toNatClampNeg + 3)), .int (xs (ii.toNatClampNeg + 4)), .int (1)]) (rest := []) hx hb hml hown hts hE hM hS hA ce_X9_rock tb_461 (V_X9_rock_g l D A ad ns I L G (xs (ii.toNatClampNeg + 1)) (xs (ii.toNatClampNeg + 2)) (xs (ii.toNatClampNeg + 3)) (xs (ii.toNatClampNeg + 4)) (1) hG hI (by first | omega | decide)) rfl rfl ⟨Nat.le_of_ble_eq_true rfl, Nat.le_of_ble_eq_true rfl⟩ (hG.1 0 (by decide)) rfl rfl (by decide) rfl hl.1 rfl (Nat.le_of_ble_eq_true rfl) dL_law_277 ⟨(by show _ + _ ≤ 600000; omega), (by show _ + _ ≤ 7302250; omega)⟩) hS (fun r15 u H locs hw hM hS => ?_)
    obtain ⟨I1, L1, rfl, hI, hk1, y1⟩ := hw
    have hM : Mem D A ad ns I1 L1 G H := hM
    replace hC : CW ns I1 G := cw_keep hC (hk1.get 0 14 rfl)
    replace hLM : LWM I1 := hLM.out (hk1.out rfl)
    refine lv_pop hx hb dL_law_280 rfl ?_
    refine lv_aload_n hx hb dL_law_281 rfl (lv_at hl 2 rfl) ?_
    refine lv_aload_n hx hb dL_law_282 rfl (lv_at hl 0 rfl) ?_
    refine lv_iload_n hx hb dL_law_283 rfl (lv_at hl 3 rfl) ?_
    refine lv_iconst (v := (1)) hx hb dL_law_284 (by decide) ?_
    refine lv_iadd hx hb dL_law_285 ?_
    refine lv_topi (fun v16 ev16 => ?_)
    have sv16 := sx 1 ev16 (by decide) (by decide) hi hN
    refine va_sld hx hb hX hbl hbA hS (i := v16) (vp_in_iff.mpr sv16.1) dL_law_286 ?_
    rw [sv16.2]
    clear sv16
    refine lv_aload_n hx hb dL_law_287 rfl (lv_at hl 0 rfl) ?_
    refine lv_iload_n hx hb dL_law_288 rfl (lv_at hl 3 rfl) ?_
    refine lv_iconst (v := (2)) hx hb dL_law_289 (by decide) ?_
    refine lv_iadd hx hb dL_law_290 ?_
    refine lv_topi (fun v17 ev17 => ?_)
    have sv17 := sx 2 ev17 (by decide) (by decide) hi hN
    refine va_sld hx hb hX hbl hbA hS (i := v17) (vp_in_iff.mpr sv17.1) dL_law_291 ?_
    rw [sv17.2]
    clear sv17
    refine lv_aload_n hx hb dL_law_292 rfl (lv_at hl 0 rfl) ?_
    refine lv_iload_n hx hb dL_law_293 rfl (lv_at hl 3 rfl) ?_
    refine lv_iconst (v := (3)) hx hb dL_law_294 (by decide) ?_
    refine lv_iadd hx hb dL_law_295 ?_
    refine lv_topi (fun v18 ev18 => ?_)
    have sv18 := sx 3 ev18 (by decide) (by decide) hi hN
    refine va_sld hx hb hX hbl hbA hS (i := v18) (vp_in_iff.mpr sv18.1) dL_law_296 ?_
    rw [sv18.2]
    clear sv18
    refine lv_aload_n hx hb dL_law_297 rfl (lv_at hl 0 rfl) ?_
    refine lv_iload_n hx hb dL_law_298 rfl (lv_at hl 3 rfl) ?_
    refine lv_iconst (v := (4)) hx hb dL_law_299 (by decide) ?_
    refine lv_iadd hx hb dL_law_300 ?_
    refine lv_topi (fun v19 ev19 => ?_)
    have sv19 := sx 4 ev19 (by decide) (by decide) hi hN
    refine va_sld hx hb hX hbl hbA hS (i := v19) (vp_in_iff.mpr sv19.1) dL_law_301 ?_
    rw [sv19.2]
    clear sv19
    refine lv_aload_n hx hb dL_law_302 rfl (lv_at hl 0 rfl) ?_
    refine lv_iload_n hx hb dL_law_303 rfl (lv_at hl 3 rfl) ?_
    refine lv_iconst (v := (5)) hx hb dL_law_304 (by decide) ?_
    refine lv_iadd hx hb dL_law_305 ?_
    refine lv_topi (fun v20 ev20 => ?_)
    have sv20 := sx 5 ev20 (by decide) (by decide) hi hN
    refine va_sld hx hb hX hbl hbA hS (i := v20) (vp_in_iff.mpr sv20.1) dL_law_306 ?_
    rw [sv20.2]
    clear sv20
    refine lv_if_eq (tgt := 314) hx hb dL_law_307 (by decide) (fun c21 => ?_) (fun c21 => ?_)
    · exact absurd c21 c6
    · have hc21 := c21
      have q21 := q_ne hc21
      refine lv_iconst (v := (1)) hx hb dL_law_310 (by decide) ?_
      refine lv_goto (tgt := 315) hx hb dL_law_311 (by decide) ?_
      refine m_calli (m_runV (1000) (As := [.int (xs (ii.toNatClampNeg + 1)), .int (xs (ii.toNatClampNeg + 2)), .int (xs (ii.toNatClampNeg + 3)), .int (xs (ii.toNatClampNeg + 4)), .int (1)]) (rest := []) hx hb hml hown hts hE hM hS hA ce_X10_rock tb_1429 (V_X10_rock_g l D A ad ns I1 L1 G (xs (ii.toNatClampNeg + 1)) (xs (ii.toNatClampNeg + 2)) (xs (ii.toNatClampNeg + 3)) (xs (ii.toNatClampNeg + 4)) (1) hJ hI (by first | omega | decide)) rfl rfl ⟨Nat.le_of_ble_eq_true rfl, Nat.le_of_ble_eq_true rfl⟩ hJ.1 rfl rfl (by decide) rfl hl.1 rfl (Nat.le_of_ble_eq_true rfl) dL_law_315 ⟨(by show _ + _ ≤ 600000; omega), (by show _ + _ ≤ 7302250; omega)⟩) hS (fun r22 u H locs hw hM hS => ?_)
      have hI1 := hI
      obtain ⟨I2, L2, rfl, hI, hk2, y2⟩ := hw
      have hM : Mem D A ad ns I2 L2 G H := hM
      replace hC : CW ns I2 G := cw_keep hC (hk2.get 0 14 rfl)
      replace hLM : LWM I2 := hLM.kp hk2 rfl rfl
      have hbg := beg_iff hRel
      have e11 : I 1001 1 = I 100 0 := hRel.1.1.1
      have e12 : I 1001 2 = I 100 1 := hRel.1.1.2.1
      have e18 : I 1001 8 = I 100 8 := hRel.1.1.2.2.2.2.1
      have e19 : I 1001 9 = I 100 9 := hRel.1.1.2.2.2.2.2.1
      have hcc : (0 ≤ (xs (ii.toNatClampNeg + 1)).toInt ∧ (xs (ii.toNatClampNeg + 1)).toInt < (I 100 0).toInt ∧ 0 ≤ (xs (ii.toNatClampNeg + 2)).toInt ∧ (xs (ii.toNatClampNeg + 2)).toInt < (I 100 1).toInt) → 24 * (xs (ii.toNatClampNeg + 2)).toNatClampNeg + (xs (ii.toNatClampNeg + 1)).toNatClampNeg < 576 := fun hh => by have g0 := hI0.get 100 0 (lo := 0) (hi := 24) rfl; have g1 := hI0.get 100 1 (lo := 0) (hi := 24) rfl; have z0 := tn (i := xs (ii.toNatClampNeg + 1)) (by omega); have z1 := tn (i := xs (ii.toNatClampNeg + 2)) (by omega); omega
      have hsm := hRel.rock hI0 y1 y2 (by rw [hk1.out rfl 1001 (by decide), e11, e12]; clear hcc; constructor <;> intro hh <;> omega) (fun hh => by clear hcc; have g0 := hI0.get 100 0 (lo := 0) (hi := 24) rfl; have g1 := hI0.get 100 1 (lo := 0) (hi := 24) rfl; omega) (fun n hn => hk1.apart 101 102 rfl n (by clear hcc; omega)) (fun n hn => hk2.apart 1002 1003 rfl n (by clear hcc; omega))
      refine lv_pop hx hb dL_law_318 rfl ?_
      refine lv_goto (tgt := 1531) hx hb dL_law_319 (by decide) ?_
      exact kk ad ns I2 L2 G _ _ _ _ _ (by omega) (by omega) ⟨hC, hJ, hI, hLM, hsm.2⟩ hM hS (lv_sub hl [0, 1, 2, 3] rfl)
theorem dL_law_322 : decode cL_law 322 = .ok (.aload_n 1, 1) := by decide +kernel
theorem dL_law_323 : decode cL_law 323 = .ok (.aload_n 0, 1) := by decide +kernel
theorem dL_law_324 : decode cL_law 324 = .ok (.iload_n 3, 1) := by decide +kernel
theorem dL_law_325 : decode cL_law 325 = .ok (.iconst 1, 1) := by decide +kernel
theorem dL_law_326 : decode cL_law 326 = .ok (.iadd, 1) := by decide +kernel
theorem dL_law_327 : decode cL_law 327 = .ok (.iaload, 1) := by decide +kernel
theorem dL_law_328 : decode cL_law 328 = .ok (.aload_n 0, 1) := by decide +kernel
theorem dL_law_329 : decode cL_law 329 = .ok (.iload_n 3, 1) := by decide +kernel
theorem dL_law_330 : decode cL_law 330 = .ok (.iconst 2, 1) := by decide +kernel
theorem dL_law_331 : decode cL_law 331 = .ok (.iadd, 1) := by decide +kernel
theorem dL_law_332 : decode cL_law 332 = .ok (.iaload, 1) := by decide +kernel
theorem dL_law_333 : decode cL_law 333 = .ok (.aload_n 0, 1) := by decide +kernel
theorem dL_law_334 : decode cL_law 334 = .ok (.iload_n 3, 1) := by decide +kernel
theorem dL_law_335 : decode cL_law 335 = .ok (.iconst 3, 1) := by decide +kernel
theorem dL_law_336 : decode cL_law 336 = .ok (.iadd, 1) := by decide +kernel
theorem dL_law_337 : decode cL_law 337 = .ok (.iaload, 1) := by decide +kernel
theorem dL_law_338 : decode cL_law 338 = .ok (.aload_n 0, 1) := by decide +kernel
theorem dL_law_339 : decode cL_law 339 = .ok (.iload_n 3, 1) := by decide +kernel
theorem dL_law_340 : decode cL_law 340 = .ok (.iconst 4, 1) := by decide +kernel
theorem dL_law_341 : decode cL_law 341 = .ok (.iadd, 1) := by decide +kernel
theorem dL_law_342 : decode cL_law 342 = .ok (.iaload, 1) := by decide +kernel
theorem dL_law_343 : decode cL_law 343 = .ok (.invokevirtual 23, 3) := by decide +kernel
theorem dL_law_346 : decode cL_law 346 = .ok (.pop, 1) := by decide +kernel
theorem dL_law_347 : decode cL_law 347 = .ok (.aload_n 2, 1) := by decide +kernel
theorem dL_law_348 : decode cL_law 348 = .ok (.aload_n 0, 1) := by decide +kernel
theorem dL_law_349 : decode cL_law 349 = .ok (.iload_n 3, 1) := by decide +kernel
theorem dL_law_350 : decode cL_law 350 = .ok (.iconst 1, 1) := by decide +kernel
theorem dL_law_351 : decode cL_law 351 = .ok (.iadd, 1) := by decide +kernel
theorem dL_law_352 : decode cL_law 352 = .ok (.iaload, 1) := by decide +kernel
theorem dL_law_353 : decode cL_law 353 = .ok (.aload_n 0, 1) := by decide +kernel
theorem dL_law_354 : decode cL_law 354 = .ok (.iload_n 3, 1) := by decide +kernel
theorem dL_law_355 : decode cL_law 355 = .ok (.iconst 2, 1) := by decide +kernel
theorem dL_law_356 : decode cL_law 356 = .ok (.iadd, 1) := by decide +kernel
theorem dL_law_357 : decode cL_law 357 = .ok (.iaload, 1) := by decide +kernel
theorem dL_law_358 : decode cL_law 358 = .ok (.aload_n 0, 1) := by decide +kernel
theorem dL_law_359 : decode cL_law 359 = .ok (.iload_n 3, 1) := by decide +kernel
theorem dL_law_360 : decode cL_law 360 = .ok (.iconst 3, 1) := by decide +kernel
theorem dL_law_361 : decode cL_law 361 = .ok (.iadd, 1) := by decide +kernel
theorem dL_law_362 : decode cL_law 362 = .ok (.iaload, 1) := by decide +kernel
theorem dL_law_363 : decode cL_law 363 = .ok (.aload_n 0, 1) := by decide +kernel
theorem dL_law_364 : decode cL_law 364 = .ok (.iload_n 3, 1) := by decide +kernel
theorem dL_law_365 : decode cL_law 365 = .ok (.iconst 4, 1) := by decide +kernel
theorem dL_law_366 : decode cL_law 366 = .ok (.iadd, 1) := by decide +kernel
theorem dL_law_367 : decode cL_law 367 = .ok (.iaload, 1) := by decide +kernel
theorem dL_law_368 : decode cL_law 368 = .ok (.invokevirtual 27, 3) := by decide +kernel
theorem dL_law_371 : decode cL_law 371 = .ok (.pop, 1) := by decide +kernel
theorem dL_law_372 : decode cL_law 372 = .ok (.goto 1159, 3) := by decide +kernel
set_option maxHeartbeats 4000000 in
theorem lc_2 {p : Program} {l : Launch} {e : Env} {s : State} {m : MethodId} {below : List Frame} {meth : Method} {c : Code} {b N : Nat} {ii : Int32} {xs : Nat → Int32} {D : va_G} {A : Nat → Prop} {ad : Nat → Nat} {ns : List Nat} {I : MI} {L : ML} {G : MG} {H : Heap} {locs : List Loc} {ls : Array Slot} {cells slots : Nat} (F : LF p s m meth c b N xs D A) (hN : N ≤ 4096) (hi : 0 ≤ ii.toInt ∧ ii.toInt + 8 ≤ N) (hc : cells ≤ 500000) (hs : slots ≤ 5000000) (fw : WD ns I G) (hM : Mem D A ad ns I L G H) (hS : va_S A s.heap H locs) (hl : lv_has ls 4 [(0, .ref (b)), (1, .ref (ad (0))), (2, .ref (ad (1000))), (3, .int (ii))]) (kk : LK p l e s m below meth c b ii D A cells slots) : W p l e room_1 s m #[Value.ref b] below meth c H locs cells slots (lw_Z below #[Value.ref b] s) (F0 m 322 ls []) := by
  obtain ⟨hx, hb, hml, hown, hts, hX, hbl, hbA, hA, hE⟩ := F
  obtain ⟨hC, hJ, hI, hLM, hRel⟩ := fw
  have hI0 := hI
  have hG := hC.1
  have hL := hC.lws
  have hIm := hC.2.1.ims
  have tii := tn hi.1
  have k0 : (0 : Int32).toInt = 0 := by decide
  have k1 : (1 : Int32).toInt = 1 := by decide
  have k2 : (2 : Int32).toInt = 2 := by decide
  have k3 : (3 : Int32).toInt = 3 := by decide
  have k4 : (4 : Int32).toInt = 4 := by decide
  refine lv_aload_n hx hb dL_law_322 rfl (lv_at hl 1 rfl) ?_
  refine lv_aload_n hx hb dL_law_323 rfl (lv_at hl 0 rfl) ?_
  refine lv_iload_n hx hb dL_law_324 rfl (lv_at hl 3 rfl) ?_
  refine lv_iconst (v := (1)) hx hb dL_law_325 (by decide) ?_
  refine lv_iadd hx hb dL_law_326 ?_
  refine lv_topi (fun v1 ev1 => ?_)
  have sv1 := sx 1 ev1 (by decide) (by decide) hi hN
  refine va_sld hx hb hX hbl hbA hS (i := v1) (vp_in_iff.mpr sv1.1) dL_law_327 ?_
  rw [sv1.2]
  clear sv1
  refine lv_aload_n hx hb dL_law_328 rfl (lv_at hl 0 rfl) ?_
  refine lv_iload_n hx hb dL_law_329 rfl (lv_at hl 3 rfl) ?_
  refine lv_iconst (v := (2)) hx hb dL_law_330 (by decide) ?_
  refine lv_iadd hx hb dL_law_331 ?_
  refine lv_topi (fun v2 ev2 => ?_)
  have sv2 := sx 2 ev2 (by decide) (by decide) hi hN
  refine va_sld hx hb hX hbl hbA hS (i := v2) (vp_in_iff.mpr sv2.1) dL_law_332 ?_
  rw [sv2.2]
  clear sv2
  refine lv_aload_n hx hb dL_law_333 rfl (lv_at hl 0 rfl) ?_
  refine lv_iload_n hx hb dL_law_334 rfl (lv_at hl 3 rfl) ?_
  refine lv_iconst (v := (3)) hx hb dL_law_335 (by decide) ?_
  refine lv_iadd hx hb dL_law_336 ?_
  refine lv_topi (fun v3 ev3 => ?_)
  have sv3 := sx 3 ev3 (by decide) (by decide) hi hN
  refine va_sld hx hb hX hbl hbA hS (i := v3) (vp_in_iff.mpr sv3.1) dL_law_337 ?_
  rw [sv3.2]
  clear sv3
  refine lv_aload_n hx hb dL_law_338 rfl (lv_at hl 0 rfl) ?_
  refine lv_iload_n hx hb dL_law_339 rfl (lv_at hl 3 rfl) ?_
  refine lv_iconst (v := (4)) hx hb dL_law_340 (by decide) ?_
  refine lv_iadd hx hb dL_law_341 ?_
  refine lv_topi (fun v4 ev4 => ?_)
  have sv4 := sx 4 ev4 (by decide) (by decide) hi hN
  refine va_sld hx hb hX hbl hbA hS (i := v4) (vp_in_iff.mpr sv4.1) dL_law_342 ?_
  rw [sv4.2]
  clear sv4
  refine m_calli (m_runV (0) (As := [.int (xs (ii.toNatClampNeg + 1)), .int (xs (ii.toNatClampNeg + 2)), .int (xs (ii.toNatClampNeg + 3)), .int (xs (ii.toNatClampNeg + 4))]) (rest := []) hx hb hml hown hts hE hM hS hA ce_X9_sun tb_480 (V_X9_sun_f l D A ad ns I L G (xs (ii.toNatClampNeg + 1)) (xs (ii.toNatClampNeg + 2)) (xs (ii.toNatClampNeg + 3)) (xs (ii.toNatClampNeg + 4)) hG hI) rfl rfl ⟨Nat.le_of_ble_eq_true rfl, Nat.le_of_ble_eq_true rfl⟩ (hG.1 0 (by decide)) rfl rfl (by decide) rfl hl.1 rfl (Nat.le_of_ble_eq_true rfl) dL_law_343 ⟨(by show _ + _ ≤ 600000; omega), (by show _ + _ ≤ 7302250; omega)⟩) hS (fun r5 u H locs hw hM hS => ?_)
  obtain ⟨I1, L1, rfl, hI, hk1, y1⟩ := hw
  have hM : Mem D A ad ns I1 L1 G H := hM
  replace hC : CW ns I1 G := cw_keep hC (hk1.get 0 14 rfl)
  replace hLM : LWM I1 := hLM.out (hk1.out rfl)
  refine lv_pop hx hb dL_law_346 rfl ?_
  refine lv_aload_n hx hb dL_law_347 rfl (lv_at hl 2 rfl) ?_
  refine lv_aload_n hx hb dL_law_348 rfl (lv_at hl 0 rfl) ?_
  refine lv_iload_n hx hb dL_law_349 rfl (lv_at hl 3 rfl) ?_
  refine lv_iconst (v := (1)) hx hb dL_law_350 (by decide) ?_
  refine lv_iadd hx hb dL_law_351 ?_
  refine lv_topi (fun v6 ev6 => ?_)
  have sv6 := sx 1 ev6 (by decide) (by decide) hi hN
  refine va_sld hx hb hX hbl hbA hS (i := v6) (vp_in_iff.mpr sv6.1) dL_law_352 ?_
  rw [sv6.2]
  clear sv6
  refine lv_aload_n hx hb dL_law_353 rfl (lv_at hl 0 rfl) ?_
  refine lv_iload_n hx hb dL_law_354 rfl (lv_at hl 3 rfl) ?_
  refine lv_iconst (v := (2)) hx hb dL_law_355 (by decide) ?_
  refine lv_iadd hx hb dL_law_356 ?_
  refine lv_topi (fun v7 ev7 => ?_)
  have sv7 := sx 2 ev7 (by decide) (by decide) hi hN
  refine va_sld hx hb hX hbl hbA hS (i := v7) (vp_in_iff.mpr sv7.1) dL_law_357 ?_
  rw [sv7.2]
  clear sv7
  refine lv_aload_n hx hb dL_law_358 rfl (lv_at hl 0 rfl) ?_
  refine lv_iload_n hx hb dL_law_359 rfl (lv_at hl 3 rfl) ?_
  refine lv_iconst (v := (3)) hx hb dL_law_360 (by decide) ?_
  refine lv_iadd hx hb dL_law_361 ?_
  refine lv_topi (fun v8 ev8 => ?_)
  have sv8 := sx 3 ev8 (by decide) (by decide) hi hN
  refine va_sld hx hb hX hbl hbA hS (i := v8) (vp_in_iff.mpr sv8.1) dL_law_362 ?_
  rw [sv8.2]
  clear sv8
  refine lv_aload_n hx hb dL_law_363 rfl (lv_at hl 0 rfl) ?_
  refine lv_iload_n hx hb dL_law_364 rfl (lv_at hl 3 rfl) ?_
  refine lv_iconst (v := (4)) hx hb dL_law_365 (by decide) ?_
  refine lv_iadd hx hb dL_law_366 ?_
  refine lv_topi (fun v9 ev9 => ?_)
  have sv9 := sx 4 ev9 (by decide) (by decide) hi hN
  refine va_sld hx hb hX hbl hbA hS (i := v9) (vp_in_iff.mpr sv9.1) dL_law_367 ?_
  rw [sv9.2]
  clear sv9
  refine m_calli (m_runV (1000) (As := [.int (xs (ii.toNatClampNeg + 1)), .int (xs (ii.toNatClampNeg + 2)), .int (xs (ii.toNatClampNeg + 3)), .int (xs (ii.toNatClampNeg + 4))]) (rest := []) hx hb hml hown hts hE hM hS hA ce_X10_sun tb_1445 (V_X10_sun_f l D A ad ns I1 L1 G (xs (ii.toNatClampNeg + 1)) (xs (ii.toNatClampNeg + 2)) (xs (ii.toNatClampNeg + 3)) (xs (ii.toNatClampNeg + 4)) hJ hI) rfl rfl ⟨Nat.le_of_ble_eq_true rfl, Nat.le_of_ble_eq_true rfl⟩ hJ.1 rfl rfl (by decide) rfl hl.1 rfl (Nat.le_of_ble_eq_true rfl) dL_law_368 ⟨(by show _ + _ ≤ 600000; omega), (by show _ + _ ≤ 7302250; omega)⟩) hS (fun r10 u H locs hw hM hS => ?_)
  have hI1 := hI
  obtain ⟨I2, L2, rfl, hI, hk2, y2⟩ := hw
  have hM : Mem D A ad ns I2 L2 G H := hM
  replace hC : CW ns I2 G := cw_keep hC (hk2.get 0 14 rfl)
  replace hLM : LWM I2 := hLM.kp hk2 rfl rfl
  refine lv_pop hx hb dL_law_371 rfl ?_
  refine lv_goto (tgt := 1531) hx hb dL_law_372 (by decide) ?_
  exact kk ad ns I2 L2 G _ _ _ _ _ (by omega) (by omega) ⟨hC, hJ, hI, hLM, ((hRel.kp hI0 hk1 (by decide)).kp hI1 hk2 (by decide))⟩ hM hS (lv_sub hl [0, 1, 2, 3] rfl)
