def REL (I : MI) (G : MG) : Prop := True
theorem LWM.out {I I2 : MI} (h : LWM I) (e : ∀ n, 1000 ≤ n → I2 n = I n) : LWM I2 := by
  intro r hr
  rw [e 1000 (by decide)] at hr
  exact (h r hr).of (e _ (by decide)) (e _ (by decide)) (e _ (by decide)) (e _ (by decide)) (e _ (by decide)) (e _ (by decide))
theorem SGM.ext {ns ns2 : List Nat} {ad ad2 : Nat → Nat} {G G2 : MG} (h : SGM ns G) (he : Ext ns ad ns2 ad2) (hg : ∀ n, 1000 ≤ n → G2 n = G n) : SGM ns2 G2 := ⟨(he _ h.1).1, fun k hk => ⟨(he _ (h.2 k hk).1).1, by rw [hg 1000 (by decide)]; exact (h.2 k hk).2⟩⟩
def WD (ns : List Nat) (I : MI) (G : MG) : Prop := CW ns I G ∧ SGM ns G ∧ INV I ∧ LWM I ∧ REL I G
def LF (p : Program) (s : State) (m : MethodId) (meth : Method) (c : Code) (b N : Nat) (xs : Nat → Int32) (D : va_G) (A : Nat → Prop) : Prop :=
  p.tables.exec = Jvm.exec ∧ c.code = code ∧ c.maxLocals = 4 ∧ s.vm.findClass "OneSunbeamLaw" = some m.cls ∧ (∀ w ∈ gt, w.before #[Value.ref b] s = true) ∧ va_X b N xs s s.heap ∧ b < s.heap.size ∧ ¬ A b ∧ (∀ q, s.heap.size ≤ q → A q) ∧ EV D A s s.heap
def LK (p : Program) (l : Launch) (e : Env) (s : State) (m : MethodId) (below : List Frame) (meth : Method) (c : Code) (b : Nat) (ii : Int32) (D : va_G) (A : Nat → Prop) (cells slots : Nat) : Prop :=
  ∀ (ad : Nat → Nat) (ns : List Nat) (I : MI) (L : ML) (G : MG) (H : Heap) (locs : List Loc) (ls : Array Slot) (cells2 slots2 : Nat), cells2 ≤ cells + 9 → slots2 ≤ slots + 3194 → WD ns I G → Mem D A ad ns I L G H → va_S A s.heap H locs → lv_has ls 4 [(0, .ref b), (1, .ref (ad 0)), (2, .ref (ad 1000)), (3, .int ii)] → W p l e room_1 s m #[Value.ref b] below meth c H locs cells2 slots2 (lw_Z below #[Value.ref b] s) (F0 m 1531 ls [])
theorem dL_law_180 : decode cL_law 180 = .ok (.aload_n 1, 1) := by decide +kernel
theorem dL_law_181 : decode cL_law 181 = .ok (.aload_n 0, 1) := by decide +kernel
theorem dL_law_182 : decode cL_law 182 = .ok (.iload_n 3, 1) := by decide +kernel
theorem dL_law_183 : decode cL_law 183 = .ok (.iconst 1, 1) := by decide +kernel
theorem dL_law_184 : decode cL_law 184 = .ok (.iadd, 1) := by decide +kernel
theorem dL_law_185 : decode cL_law 185 = .ok (.iaload, 1) := by decide +kernel
theorem dL_law_186 : decode cL_law 186 = .ok (.aload_n 0, 1) := by decide +kernel
theorem dL_law_187 : decode cL_law 187 = .ok (.iload_n 3, 1) := by decide +kernel
theorem dL_law_188 : decode cL_law 188 = .ok (.iconst 2, 1) := by decide +kernel
theorem dL_law_189 : decode cL_law 189 = .ok (.iadd, 1) := by decide +kernel
theorem dL_law_190 : decode cL_law 190 = .ok (.iaload, 1) := by decide +kernel
theorem dL_law_191 : decode cL_law 191 = .ok (.aload_n 0, 1) := by decide +kernel
theorem dL_law_192 : decode cL_law 192 = .ok (.iload_n 3, 1) := by decide +kernel
theorem dL_law_193 : decode cL_law 193 = .ok (.iconst 3, 1) := by decide +kernel
theorem dL_law_194 : decode cL_law 194 = .ok (.iadd, 1) := by decide +kernel
theorem dL_law_195 : decode cL_law 195 = .ok (.iaload, 1) := by decide +kernel
theorem dL_law_196 : decode cL_law 196 = .ok (.aload_n 0, 1) := by decide +kernel
theorem dL_law_197 : decode cL_law 197 = .ok (.iload_n 3, 1) := by decide +kernel
theorem dL_law_198 : decode cL_law 198 = .ok (.iconst 4, 1) := by decide +kernel
theorem dL_law_199 : decode cL_law 199 = .ok (.iadd, 1) := by decide +kernel
theorem dL_law_200 : decode cL_law 200 = .ok (.iaload, 1) := by decide +kernel
theorem dL_law_201 : decode cL_law 201 = .ok (.aload_n 0, 1) := by decide +kernel
theorem dL_law_202 : decode cL_law 202 = .ok (.iload_n 3, 1) := by decide +kernel
theorem dL_law_203 : decode cL_law 203 = .ok (.iconst 5, 1) := by decide +kernel
theorem dL_law_204 : decode cL_law 204 = .ok (.iadd, 1) := by decide +kernel
theorem dL_law_205 : decode cL_law 205 = .ok (.iaload, 1) := by decide +kernel
theorem dL_law_206 : decode cL_law 206 = .ok (.invokevirtual 13, 3) := by decide +kernel
theorem dL_law_209 : decode cL_law 209 = .ok (.aload_n 2, 1) := by decide +kernel
theorem dL_law_210 : decode cL_law 210 = .ok (.aload_n 0, 1) := by decide +kernel
theorem dL_law_211 : decode cL_law 211 = .ok (.iload_n 3, 1) := by decide +kernel
theorem dL_law_212 : decode cL_law 212 = .ok (.iconst 1, 1) := by decide +kernel
theorem dL_law_213 : decode cL_law 213 = .ok (.iadd, 1) := by decide +kernel
theorem dL_law_214 : decode cL_law 214 = .ok (.iaload, 1) := by decide +kernel
theorem dL_law_215 : decode cL_law 215 = .ok (.aload_n 0, 1) := by decide +kernel
theorem dL_law_216 : decode cL_law 216 = .ok (.iload_n 3, 1) := by decide +kernel
theorem dL_law_217 : decode cL_law 217 = .ok (.iconst 2, 1) := by decide +kernel
theorem dL_law_218 : decode cL_law 218 = .ok (.iadd, 1) := by decide +kernel
theorem dL_law_219 : decode cL_law 219 = .ok (.iaload, 1) := by decide +kernel
theorem dL_law_220 : decode cL_law 220 = .ok (.aload_n 0, 1) := by decide +kernel
theorem dL_law_221 : decode cL_law 221 = .ok (.iload_n 3, 1) := by decide +kernel
theorem dL_law_222 : decode cL_law 222 = .ok (.iconst 3, 1) := by decide +kernel
theorem dL_law_223 : decode cL_law 223 = .ok (.iadd, 1) := by decide +kernel
theorem dL_law_224 : decode cL_law 224 = .ok (.iaload, 1) := by decide +kernel
theorem dL_law_225 : decode cL_law 225 = .ok (.aload_n 0, 1) := by decide +kernel
theorem dL_law_226 : decode cL_law 226 = .ok (.iload_n 3, 1) := by decide +kernel
theorem dL_law_227 : decode cL_law 227 = .ok (.iconst 4, 1) := by decide +kernel
theorem dL_law_228 : decode cL_law 228 = .ok (.iadd, 1) := by decide +kernel
theorem dL_law_229 : decode cL_law 229 = .ok (.iaload, 1) := by decide +kernel
theorem dL_law_230 : decode cL_law 230 = .ok (.aload_n 0, 1) := by decide +kernel
theorem dL_law_231 : decode cL_law 231 = .ok (.iload_n 3, 1) := by decide +kernel
theorem dL_law_232 : decode cL_law 232 = .ok (.iconst 5, 1) := by decide +kernel
theorem dL_law_233 : decode cL_law 233 = .ok (.iadd, 1) := by decide +kernel
theorem dL_law_234 : decode cL_law 234 = .ok (.iaload, 1) := by decide +kernel
theorem dL_law_235 : decode cL_law 235 = .ok (.invokevirtual 17, 3) := by decide +kernel
theorem dL_law_238 : decode cL_law 238 = .ok (.if_icmp .eq 1293, 3) := by decide +kernel
set_option maxHeartbeats 4000000 in
theorem lc_0 {p : Program} {l : Launch} {e : Env} {s : State} {m : MethodId} {below : List Frame} {meth : Method} {c : Code} {b N : Nat} {ii : Int32} {xs : Nat → Int32} {D : va_G} {A : Nat → Prop} {ad : Nat → Nat} {ns : List Nat} {I : MI} {L : ML} {G : MG} {H : Heap} {locs : List Loc} {ls : Array Slot} {cells slots : Nat} (F : LF p s m meth c b N xs D A) (hN : N ≤ 4096) (hi : 0 ≤ ii.toInt ∧ ii.toInt + 8 ≤ N) (hc : cells ≤ 500000) (hs : slots ≤ 7000000) (fw : WD ns I G) (hM : Mem D A ad ns I L G H) (hS : va_S A s.heap H locs) (hl : lv_has ls 4 [(0, .ref (b)), (1, .ref (ad (0))), (2, .ref (ad (1000))), (3, .int (ii))]) (kk : LK p l e s m below meth c b ii D A cells slots) : W p l e room_1 s m #[Value.ref b] below meth c H locs cells slots (lw_Z below #[Value.ref b] s) (F0 m 180 ls []) := by
  obtain ⟨hx, hb, hml, hown, hts, hX, hbl, hbA, hA, hE⟩ := F
  obtain ⟨hC, hJ, hI, hLM, hRel⟩ := fw
  have hG := hC.1
  have hL := hC.lws
  have hIm := hC.2.1.ims
  have tii := tn hi.1
  have k0 : (0 : Int32).toInt = 0 := by decide
  have k1 : (1 : Int32).toInt = 1 := by decide
  have k2 : (2 : Int32).toInt = 2 := by decide
  have k3 : (3 : Int32).toInt = 3 := by decide
  have k4 : (4 : Int32).toInt = 4 := by decide
  have k5 : (5 : Int32).toInt = 5 := by decide
  refine lv_aload_n hx hb dL_law_180 rfl (lv_at hl 1 rfl) ?_
  refine lv_aload_n hx hb dL_law_181 rfl (lv_at hl 0 rfl) ?_
  refine lv_iload_n hx hb dL_law_182 rfl (lv_at hl 3 rfl) ?_
  refine lv_iconst (v := (1)) hx hb dL_law_183 (by decide) ?_
  refine lv_iadd hx hb dL_law_184 ?_
  refine lv_topi (fun v1 ev1 => ?_)
  have tv1 := a_add ev1 (by omega) (by omega)
  refine va_sld hx hb hX hbl hbA hS (i := v1) (vp_in_iff.mpr (by omega)) dL_law_185 ?_
  rw [show Int32.toNatClampNeg v1 = ii.toNatClampNeg + 1 from by have tt := tn (i := v1) (by omega); omega]
  refine lv_aload_n hx hb dL_law_186 rfl (lv_at hl 0 rfl) ?_
  refine lv_iload_n hx hb dL_law_187 rfl (lv_at hl 3 rfl) ?_
  refine lv_iconst (v := (2)) hx hb dL_law_188 (by decide) ?_
  refine lv_iadd hx hb dL_law_189 ?_
  refine lv_topi (fun v2 ev2 => ?_)
  have tv2 := a_add ev2 (by omega) (by omega)
  refine va_sld hx hb hX hbl hbA hS (i := v2) (vp_in_iff.mpr (by omega)) dL_law_190 ?_
  rw [show Int32.toNatClampNeg v2 = ii.toNatClampNeg + 2 from by have tt := tn (i := v2) (by omega); omega]
  refine lv_aload_n hx hb dL_law_191 rfl (lv_at hl 0 rfl) ?_
  refine lv_iload_n hx hb dL_law_192 rfl (lv_at hl 3 rfl) ?_
  refine lv_iconst (v := (3)) hx hb dL_law_193 (by decide) ?_
  refine lv_iadd hx hb dL_law_194 ?_
  refine lv_topi (fun v3 ev3 => ?_)
  have tv3 := a_add ev3 (by omega) (by omega)
  refine va_sld hx hb hX hbl hbA hS (i := v3) (vp_in_iff.mpr (by omega)) dL_law_195 ?_
  rw [show Int32.toNatClampNeg v3 = ii.toNatClampNeg + 3 from by have tt := tn (i := v3) (by omega); omega]
  refine lv_aload_n hx hb dL_law_196 rfl (lv_at hl 0 rfl) ?_
  refine lv_iload_n hx hb dL_law_197 rfl (lv_at hl 3 rfl) ?_
  refine lv_iconst (v := (4)) hx hb dL_law_198 (by decide) ?_
  refine lv_iadd hx hb dL_law_199 ?_
  refine lv_topi (fun v4 ev4 => ?_)
  have tv4 := a_add ev4 (by omega) (by omega)
  refine va_sld hx hb hX hbl hbA hS (i := v4) (vp_in_iff.mpr (by omega)) dL_law_200 ?_
  rw [show Int32.toNatClampNeg v4 = ii.toNatClampNeg + 4 from by have tt := tn (i := v4) (by omega); omega]
  refine lv_aload_n hx hb dL_law_201 rfl (lv_at hl 0 rfl) ?_
  refine lv_iload_n hx hb dL_law_202 rfl (lv_at hl 3 rfl) ?_
  refine lv_iconst (v := (5)) hx hb dL_law_203 (by decide) ?_
  refine lv_iadd hx hb dL_law_204 ?_
  refine lv_topi (fun v5 ev5 => ?_)
  have tv5 := a_add ev5 (by omega) (by omega)
  refine va_sld hx hb hX hbl hbA hS (i := v5) (vp_in_iff.mpr (by omega)) dL_law_205 ?_
  rw [show Int32.toNatClampNeg v5 = ii.toNatClampNeg + 5 from by have tt := tn (i := v5) (by omega); omega]
  refine m_calli (m_runV (0) (As := [.int (xs (ii.toNatClampNeg + 1)), .int (xs (ii.toNatClampNeg + 2)), .int (xs (ii.toNatClampNeg + 3)), .int (xs (ii.toNatClampNeg + 4)), .int (xs (ii.toNatClampNeg + 5))]) (rest := []) hx hb hml hown hts hE hM hS hA ce_X9_town tb_447 (V_X9_town l D A ad ns I L G (xs (ii.toNatClampNeg + 1)) (xs (ii.toNatClampNeg + 2)) (xs (ii.toNatClampNeg + 3)) (xs (ii.toNatClampNeg + 4)) (xs (ii.toNatClampNeg + 5)) hG hI) rfl rfl ⟨Nat.le_of_ble_eq_true rfl, Nat.le_of_ble_eq_true rfl⟩ (hG.1 0 (by decide)) rfl rfl (by decide) rfl hl.1 rfl (Nat.le_of_ble_eq_true rfl) dL_law_206 ⟨(by show _ + _ ≤ 600000; omega), (by show _ + _ ≤ 7302250; omega)⟩) hS (fun r6 u H locs hw hM hS => ?_)
  obtain ⟨I1, L1, rfl, hI, hk1, y1⟩ := hw
  have hM : Mem D A ad ns I1 L1 G H := hM
  replace hC : CW ns I1 G := cw_keep hC (hk1.get 0 14 rfl)
  replace hLM : LWM I1 := hLM.out (hk1.out rfl)
  refine lv_aload_n hx hb dL_law_209 rfl (lv_at hl 2 rfl) ?_
  refine lv_aload_n hx hb dL_law_210 rfl (lv_at hl 0 rfl) ?_
  refine lv_iload_n hx hb dL_law_211 rfl (lv_at hl 3 rfl) ?_
  refine lv_iconst (v := (1)) hx hb dL_law_212 (by decide) ?_
  refine lv_iadd hx hb dL_law_213 ?_
  refine lv_topi (fun v7 ev7 => ?_)
  have tv7 := a_add ev7 (by omega) (by omega)
  refine va_sld hx hb hX hbl hbA hS (i := v7) (vp_in_iff.mpr (by omega)) dL_law_214 ?_
  rw [show Int32.toNatClampNeg v7 = ii.toNatClampNeg + 1 from by have tt := tn (i := v7) (by omega); omega]
  refine lv_aload_n hx hb dL_law_215 rfl (lv_at hl 0 rfl) ?_
  refine lv_iload_n hx hb dL_law_216 rfl (lv_at hl 3 rfl) ?_
  refine lv_iconst (v := (2)) hx hb dL_law_217 (by decide) ?_
  refine lv_iadd hx hb dL_law_218 ?_
  refine lv_topi (fun v8 ev8 => ?_)
  have tv8 := a_add ev8 (by omega) (by omega)
  refine va_sld hx hb hX hbl hbA hS (i := v8) (vp_in_iff.mpr (by omega)) dL_law_219 ?_
  rw [show Int32.toNatClampNeg v8 = ii.toNatClampNeg + 2 from by have tt := tn (i := v8) (by omega); omega]
  refine lv_aload_n hx hb dL_law_220 rfl (lv_at hl 0 rfl) ?_
  refine lv_iload_n hx hb dL_law_221 rfl (lv_at hl 3 rfl) ?_
  refine lv_iconst (v := (3)) hx hb dL_law_222 (by decide) ?_
  refine lv_iadd hx hb dL_law_223 ?_
  refine lv_topi (fun v9 ev9 => ?_)
  have tv9 := a_add ev9 (by omega) (by omega)
  refine va_sld hx hb hX hbl hbA hS (i := v9) (vp_in_iff.mpr (by omega)) dL_law_224 ?_
  rw [show Int32.toNatClampNeg v9 = ii.toNatClampNeg + 3 from by have tt := tn (i := v9) (by omega); omega]
  refine lv_aload_n hx hb dL_law_225 rfl (lv_at hl 0 rfl) ?_
  refine lv_iload_n hx hb dL_law_226 rfl (lv_at hl 3 rfl) ?_
  refine lv_iconst (v := (4)) hx hb dL_law_227 (by decide) ?_
  refine lv_iadd hx hb dL_law_228 ?_
  refine lv_topi (fun v10 ev10 => ?_)
  have tv10 := a_add ev10 (by omega) (by omega)
  refine va_sld hx hb hX hbl hbA hS (i := v10) (vp_in_iff.mpr (by omega)) dL_law_229 ?_
  rw [show Int32.toNatClampNeg v10 = ii.toNatClampNeg + 4 from by have tt := tn (i := v10) (by omega); omega]
  refine lv_aload_n hx hb dL_law_230 rfl (lv_at hl 0 rfl) ?_
  refine lv_iload_n hx hb dL_law_231 rfl (lv_at hl 3 rfl) ?_
  refine lv_iconst (v := (5)) hx hb dL_law_232 (by decide) ?_
  refine lv_iadd hx hb dL_law_233 ?_
  refine lv_topi (fun v11 ev11 => ?_)
  have tv11 := a_add ev11 (by omega) (by omega)
  refine va_sld hx hb hX hbl hbA hS (i := v11) (vp_in_iff.mpr (by omega)) dL_law_234 ?_
  rw [show Int32.toNatClampNeg v11 = ii.toNatClampNeg + 5 from by have tt := tn (i := v11) (by omega); omega]
  refine m_calli (m_runV (1000) (As := [.int (xs (ii.toNatClampNeg + 1)), .int (xs (ii.toNatClampNeg + 2)), .int (xs (ii.toNatClampNeg + 3)), .int (xs (ii.toNatClampNeg + 4)), .int (xs (ii.toNatClampNeg + 5))]) (rest := [.int (r6)]) hx hb hml hown hts hE hM hS hA ce_X10_town tb_1419 (V_X10_town l D A ad ns I1 L1 G (xs (ii.toNatClampNeg + 1)) (xs (ii.toNatClampNeg + 2)) (xs (ii.toNatClampNeg + 3)) (xs (ii.toNatClampNeg + 4)) (xs (ii.toNatClampNeg + 5)) hJ hI) rfl rfl ⟨Nat.le_of_ble_eq_true rfl, Nat.le_of_ble_eq_true rfl⟩ hJ.1 rfl rfl (by decide) rfl hl.1 rfl (Nat.le_of_ble_eq_true rfl) dL_law_235 ⟨(by show _ + _ ≤ 600000; omega), (by show _ + _ ≤ 7302250; omega)⟩) hS (fun r12 u H locs hw hM hS => ?_)
  obtain ⟨I2, L2, rfl, hI, hk2, y2⟩ := hw
  have hM : Mem D A ad ns I2 L2 G H := hM
  replace hC : CW ns I2 G := cw_keep hC (hk2.get 0 14 rfl)
  replace hLM : LWM I2 := hLM.kp hk2 rfl rfl
  refine lv_icmp_eq (tgt := 1531) hx hb dL_law_238 (by decide) (fun c13 => ?_) (fun c13 => ?_)
  · have hc13 := c13
    have q13 := q_eq hc13
    exact kk ad ns I2 L2 G _ _ _ _ _ (by omega) (by omega) ⟨hC, hJ, hI, hLM, trivial⟩ hM hS (lv_sub hl [0, 1, 2, 3] rfl)
  · exact absurd (y1.same y2 Iff.rfl) c13
theorem dL_law_243 : decode cL_law 243 = .ok (.aload_n 1, 1) := by decide +kernel
theorem dL_law_244 : decode cL_law 244 = .ok (.aload_n 0, 1) := by decide +kernel
theorem dL_law_245 : decode cL_law 245 = .ok (.iload_n 3, 1) := by decide +kernel
theorem dL_law_246 : decode cL_law 246 = .ok (.iconst 1, 1) := by decide +kernel
theorem dL_law_247 : decode cL_law 247 = .ok (.iadd, 1) := by decide +kernel
theorem dL_law_248 : decode cL_law 248 = .ok (.iaload, 1) := by decide +kernel
theorem dL_law_249 : decode cL_law 249 = .ok (.aload_n 0, 1) := by decide +kernel
theorem dL_law_250 : decode cL_law 250 = .ok (.iload_n 3, 1) := by decide +kernel
theorem dL_law_251 : decode cL_law 251 = .ok (.iconst 2, 1) := by decide +kernel
theorem dL_law_252 : decode cL_law 252 = .ok (.iadd, 1) := by decide +kernel
theorem dL_law_253 : decode cL_law 253 = .ok (.iaload, 1) := by decide +kernel
theorem dL_law_254 : decode cL_law 254 = .ok (.aload_n 0, 1) := by decide +kernel
theorem dL_law_255 : decode cL_law 255 = .ok (.iload_n 3, 1) := by decide +kernel
theorem dL_law_256 : decode cL_law 256 = .ok (.iconst 3, 1) := by decide +kernel
theorem dL_law_257 : decode cL_law 257 = .ok (.iadd, 1) := by decide +kernel
theorem dL_law_258 : decode cL_law 258 = .ok (.iaload, 1) := by decide +kernel
theorem dL_law_259 : decode cL_law 259 = .ok (.aload_n 0, 1) := by decide +kernel
theorem dL_law_260 : decode cL_law 260 = .ok (.iload_n 3, 1) := by decide +kernel
theorem dL_law_261 : decode cL_law 261 = .ok (.iconst 4, 1) := by decide +kernel
theorem dL_law_262 : decode cL_law 262 = .ok (.iadd, 1) := by decide +kernel
theorem dL_law_263 : decode cL_law 263 = .ok (.iaload, 1) := by decide +kernel
theorem dL_law_264 : decode cL_law 264 = .ok (.aload_n 0, 1) := by decide +kernel
theorem dL_law_265 : decode cL_law 265 = .ok (.iload_n 3, 1) := by decide +kernel
theorem dL_law_266 : decode cL_law 266 = .ok (.iconst 5, 1) := by decide +kernel
theorem dL_law_267 : decode cL_law 267 = .ok (.iadd, 1) := by decide +kernel
theorem dL_law_268 : decode cL_law 268 = .ok (.iaload, 1) := by decide +kernel
theorem dL_law_269 : decode cL_law 269 = .ok (.ifCond .eq 7, 3) := by decide +kernel
theorem dL_law_272 : decode cL_law 272 = .ok (.iconst 1, 1) := by decide +kernel
theorem dL_law_273 : decode cL_law 273 = .ok (.goto 4, 3) := by decide +kernel
theorem dL_law_276 : decode cL_law 276 = .ok (.iconst 0, 1) := by decide +kernel
theorem dL_law_277 : decode cL_law 277 = .ok (.invokevirtual 18, 3) := by decide +kernel
theorem dL_law_280 : decode cL_law 280 = .ok (.pop, 1) := by decide +kernel
theorem dL_law_281 : decode cL_law 281 = .ok (.aload_n 2, 1) := by decide +kernel
theorem dL_law_282 : decode cL_law 282 = .ok (.aload_n 0, 1) := by decide +kernel
theorem dL_law_283 : decode cL_law 283 = .ok (.iload_n 3, 1) := by decide +kernel
theorem dL_law_284 : decode cL_law 284 = .ok (.iconst 1, 1) := by decide +kernel
theorem dL_law_285 : decode cL_law 285 = .ok (.iadd, 1) := by decide +kernel
theorem dL_law_286 : decode cL_law 286 = .ok (.iaload, 1) := by decide +kernel
theorem dL_law_287 : decode cL_law 287 = .ok (.aload_n 0, 1) := by decide +kernel
theorem dL_law_288 : decode cL_law 288 = .ok (.iload_n 3, 1) := by decide +kernel
theorem dL_law_289 : decode cL_law 289 = .ok (.iconst 2, 1) := by decide +kernel
theorem dL_law_290 : decode cL_law 290 = .ok (.iadd, 1) := by decide +kernel
theorem dL_law_291 : decode cL_law 291 = .ok (.iaload, 1) := by decide +kernel
theorem dL_law_292 : decode cL_law 292 = .ok (.aload_n 0, 1) := by decide +kernel
theorem dL_law_293 : decode cL_law 293 = .ok (.iload_n 3, 1) := by decide +kernel
theorem dL_law_294 : decode cL_law 294 = .ok (.iconst 3, 1) := by decide +kernel
theorem dL_law_295 : decode cL_law 295 = .ok (.iadd, 1) := by decide +kernel
theorem dL_law_296 : decode cL_law 296 = .ok (.iaload, 1) := by decide +kernel
theorem dL_law_297 : decode cL_law 297 = .ok (.aload_n 0, 1) := by decide +kernel
theorem dL_law_298 : decode cL_law 298 = .ok (.iload_n 3, 1) := by decide +kernel
theorem dL_law_299 : decode cL_law 299 = .ok (.iconst 4, 1) := by decide +kernel
theorem dL_law_300 : decode cL_law 300 = .ok (.iadd, 1) := by decide +kernel
theorem dL_law_301 : decode cL_law 301 = .ok (.iaload, 1) := by decide +kernel
theorem dL_law_302 : decode cL_law 302 = .ok (.aload_n 0, 1) := by decide +kernel
theorem dL_law_303 : decode cL_law 303 = .ok (.iload_n 3, 1) := by decide +kernel
theorem dL_law_304 : decode cL_law 304 = .ok (.iconst 5, 1) := by decide +kernel
theorem dL_law_305 : decode cL_law 305 = .ok (.iadd, 1) := by decide +kernel
theorem dL_law_306 : decode cL_law 306 = .ok (.iaload, 1) := by decide +kernel
theorem dL_law_307 : decode cL_law 307 = .ok (.ifCond .eq 7, 3) := by decide +kernel
theorem dL_law_310 : decode cL_law 310 = .ok (.iconst 1, 1) := by decide +kernel
theorem dL_law_311 : decode cL_law 311 = .ok (.goto 4, 3) := by decide +kernel
theorem dL_law_314 : decode cL_law 314 = .ok (.iconst 0, 1) := by decide +kernel
theorem dL_law_315 : decode cL_law 315 = .ok (.invokevirtual 22, 3) := by decide +kernel
theorem dL_law_318 : decode cL_law 318 = .ok (.pop, 1) := by decide +kernel
theorem dL_law_319 : decode cL_law 319 = .ok (.goto 1212, 3) := by decide +kernel
set_option maxHeartbeats 4000000 in
theorem lc_1 {p : Program} {l : Launch} {e : Env} {s : State} {m : MethodId} {below : List Frame} {meth : Method} {c : Code} {b N : Nat} {ii : Int32} {xs : Nat → Int32} {D : va_G} {A : Nat → Prop} {ad : Nat → Nat} {ns : List Nat} {I : MI} {L : ML} {G : MG} {H : Heap} {locs : List Loc} {ls : Array Slot} {cells slots : Nat} (F : LF p s m meth c b N xs D A) (hN : N ≤ 4096) (hi : 0 ≤ ii.toInt ∧ ii.toInt + 8 ≤ N) (hc : cells ≤ 500000) (hs : slots ≤ 7000000) (fw : WD ns I G) (hM : Mem D A ad ns I L G H) (hS : va_S A s.heap H locs) (hl : lv_has ls 4 [(0, .ref (b)), (1, .ref (ad (0))), (2, .ref (ad (1000))), (3, .int (ii))]) (kk : LK p l e s m below meth c b ii D A cells slots) : W p l e room_1 s m #[Value.ref b] below meth c H locs cells slots (lw_Z below #[Value.ref b] s) (F0 m 243 ls []) := by
  obtain ⟨hx, hb, hml, hown, hts, hX, hbl, hbA, hA, hE⟩ := F
  obtain ⟨hC, hJ, hI, hLM, hRel⟩ := fw
  have hG := hC.1
  have hL := hC.lws
  have hIm := hC.2.1.ims
  have tii := tn hi.1
  have k0 : (0 : Int32).toInt = 0 := by decide
  have k1 : (1 : Int32).toInt = 1 := by decide
  have k2 : (2 : Int32).toInt = 2 := by decide
  have k3 : (3 : Int32).toInt = 3 := by decide
  have k4 : (4 : Int32).toInt = 4 := by decide
  have k5 : (5 : Int32).toInt = 5 := by decide
  refine lv_aload_n hx hb dL_law_243 rfl (lv_at hl 1 rfl) ?_
  refine lv_aload_n hx hb dL_law_244 rfl (lv_at hl 0 rfl) ?_
  refine lv_iload_n hx hb dL_law_245 rfl (lv_at hl 3 rfl) ?_
  refine lv_iconst (v := (1)) hx hb dL_law_246 (by decide) ?_
  refine lv_iadd hx hb dL_law_247 ?_
  refine lv_topi (fun v1 ev1 => ?_)
  have tv1 := a_add ev1 (by omega) (by omega)
  refine va_sld hx hb hX hbl hbA hS (i := v1) (vp_in_iff.mpr (by omega)) dL_law_248 ?_
  rw [show Int32.toNatClampNeg v1 = ii.toNatClampNeg + 1 from by have tt := tn (i := v1) (by omega); omega]
  refine lv_aload_n hx hb dL_law_249 rfl (lv_at hl 0 rfl) ?_
  refine lv_iload_n hx hb dL_law_250 rfl (lv_at hl 3 rfl) ?_
  refine lv_iconst (v := (2)) hx hb dL_law_251 (by decide) ?_
  refine lv_iadd hx hb dL_law_252 ?_
  refine lv_topi (fun v2 ev2 => ?_)
  have tv2 := a_add ev2 (by omega) (by omega)
  refine va_sld hx hb hX hbl hbA hS (i := v2) (vp_in_iff.mpr (by omega)) dL_law_253 ?_
  rw [show Int32.toNatClampNeg v2 = ii.toNatClampNeg + 2 from by have tt := tn (i := v2) (by omega); omega]
  refine lv_aload_n hx hb dL_law_254 rfl (lv_at hl 0 rfl) ?_
  refine lv_iload_n hx hb dL_law_255 rfl (lv_at hl 3 rfl) ?_
  refine lv_iconst (v := (3)) hx hb dL_law_256 (by decide) ?_
  refine lv_iadd hx hb dL_law_257 ?_
  refine lv_topi (fun v3 ev3 => ?_)
  have tv3 := a_add ev3 (by omega) (by omega)
  refine va_sld hx hb hX hbl hbA hS (i := v3) (vp_in_iff.mpr (by omega)) dL_law_258 ?_
  rw [show Int32.toNatClampNeg v3 = ii.toNatClampNeg + 3 from by have tt := tn (i := v3) (by omega); omega]
  refine lv_aload_n hx hb dL_law_259 rfl (lv_at hl 0 rfl) ?_
  refine lv_iload_n hx hb dL_law_260 rfl (lv_at hl 3 rfl) ?_
  refine lv_iconst (v := (4)) hx hb dL_law_261 (by decide) ?_
  refine lv_iadd hx hb dL_law_262 ?_
  refine lv_topi (fun v4 ev4 => ?_)
  have tv4 := a_add ev4 (by omega) (by omega)
  refine va_sld hx hb hX hbl hbA hS (i := v4) (vp_in_iff.mpr (by omega)) dL_law_263 ?_
  rw [show Int32.toNatClampNeg v4 = ii.toNatClampNeg + 4 from by have tt := tn (i := v4) (by omega); omega]
  refine lv_aload_n hx hb dL_law_264 rfl (lv_at hl 0 rfl) ?_
  refine lv_iload_n hx hb dL_law_265 rfl (lv_at hl 3 rfl) ?_
  refine lv_iconst (v := (5)) hx hb dL_law_266 (by decide) ?_
  refine lv_iadd hx hb dL_law_267 ?_
  refine lv_topi (fun v5 ev5 => ?_)
  have tv5 := a_add ev5 (by omega) (by omega)
  refine va_sld hx hb hX hbl hbA hS (i := v5) (vp_in_iff.mpr (by omega)) dL_law_268 ?_
  rw [show Int32.toNatClampNeg v5 = ii.toNatClampNeg + 5 from by have tt := tn (i := v5) (by omega); omega]
  refine lv_if_eq (tgt := 276) hx hb dL_law_269 (by decide) (fun c6 => ?_) (fun c6 => ?_)
  · have hc6 := c6
    have q6 := q_eq hc6
    refine lv_iconst (v := (0)) hx hb dL_law_276 (by decide) ?_
    refine m_calli (m_runV (0) (As := [.int (xs (ii.toNatClampNeg + 1)), .int (xs (ii.toNatClampNeg + 2)), .int (xs (ii.toNatClampNeg + 3)), .int (xs (ii.toNatClampNeg + 4)), .int (0)]) (rest := []) hx hb hml hown hts hE hM hS hA ce_X9_rock tb_461 (V_X9_rock l D A ad ns I L G (xs (ii.toNatClampNeg + 1)) (xs (ii.toNatClampNeg + 2)) (xs (ii.toNatClampNeg + 3)) (xs (ii.toNatClampNeg + 4)) (0) hG hI (by first | omega | decide)) rfl rfl ⟨Nat.le_of_ble_eq_true rfl, Nat.le_of_ble_eq_true rfl⟩ (hG.1 0 (by decide)) rfl rfl (by decide) rfl hl.1 rfl (Nat.le_of_ble_eq_true rfl) dL_law_277 ⟨(by show _ + _ ≤ 600000; omega), (by show _ + _ ≤ 7302250; omega)⟩) hS (fun r7 u H locs hw hM hS => ?_)
    obtain ⟨I1, L1, rfl, hI, hk1⟩ := hw
    have hM : Mem D A ad ns I1 L1 G H := hM
    replace hC : CW ns I1 G := cw_keep hC (hk1.get 0 14 rfl)
    replace hLM : LWM I1 := hLM.out (hk1.out rfl)
    refine lv_pop hx hb dL_law_280 rfl ?_
    refine lv_aload_n hx hb dL_law_281 rfl (lv_at hl 2 rfl) ?_
    refine lv_aload_n hx hb dL_law_282 rfl (lv_at hl 0 rfl) ?_
    refine lv_iload_n hx hb dL_law_283 rfl (lv_at hl 3 rfl) ?_
    refine lv_iconst (v := (1)) hx hb dL_law_284 (by decide) ?_
    refine lv_iadd hx hb dL_law_285 ?_
    refine lv_topi (fun v8 ev8 => ?_)
    have tv8 := a_add ev8 (by omega) (by omega)
    refine va_sld hx hb hX hbl hbA hS (i := v8) (vp_in_iff.mpr (by omega)) dL_law_286 ?_
    rw [show Int32.toNatClampNeg v8 = ii.toNatClampNeg + 1 from by have tt := tn (i := v8) (by omega); omega]
    refine lv_aload_n hx hb dL_law_287 rfl (lv_at hl 0 rfl) ?_
    refine lv_iload_n hx hb dL_law_288 rfl (lv_at hl 3 rfl) ?_
    refine lv_iconst (v := (2)) hx hb dL_law_289 (by decide) ?_
    refine lv_iadd hx hb dL_law_290 ?_
    refine lv_topi (fun v9 ev9 => ?_)
    have tv9 := a_add ev9 (by omega) (by omega)
    refine va_sld hx hb hX hbl hbA hS (i := v9) (vp_in_iff.mpr (by omega)) dL_law_291 ?_
    rw [show Int32.toNatClampNeg v9 = ii.toNatClampNeg + 2 from by have tt := tn (i := v9) (by omega); omega]
    refine lv_aload_n hx hb dL_law_292 rfl (lv_at hl 0 rfl) ?_
    refine lv_iload_n hx hb dL_law_293 rfl (lv_at hl 3 rfl) ?_
    refine lv_iconst (v := (3)) hx hb dL_law_294 (by decide) ?_
    refine lv_iadd hx hb dL_law_295 ?_
    refine lv_topi (fun v10 ev10 => ?_)
    have tv10 := a_add ev10 (by omega) (by omega)
    refine va_sld hx hb hX hbl hbA hS (i := v10) (vp_in_iff.mpr (by omega)) dL_law_296 ?_
    rw [show Int32.toNatClampNeg v10 = ii.toNatClampNeg + 3 from by have tt := tn (i := v10) (by omega); omega]
    refine lv_aload_n hx hb dL_law_297 rfl (lv_at hl 0 rfl) ?_
    refine lv_iload_n hx hb dL_law_298 rfl (lv_at hl 3 rfl) ?_
    refine lv_iconst (v := (4)) hx hb dL_law_299 (by decide) ?_
    refine lv_iadd hx hb dL_law_300 ?_
    refine lv_topi (fun v11 ev11 => ?_)
    have tv11 := a_add ev11 (by omega) (by omega)
    refine va_sld hx hb hX hbl hbA hS (i := v11) (vp_in_iff.mpr (by omega)) dL_law_301 ?_
    rw [show Int32.toNatClampNeg v11 = ii.toNatClampNeg + 4 from by have tt := tn (i := v11) (by omega); omega]
    refine lv_aload_n hx hb dL_law_302 rfl (lv_at hl 0 rfl) ?_
    refine lv_iload_n hx hb dL_law_303 rfl (lv_at hl 3 rfl) ?_
    refine lv_iconst (v := (5)) hx hb dL_law_304 (by decide) ?_
    refine lv_iadd hx hb dL_law_305 ?_
    refine lv_topi (fun v12 ev12 => ?_)
    have tv12 := a_add ev12 (by omega) (by omega)
    refine va_sld hx hb hX hbl hbA hS (i := v12) (vp_in_iff.mpr (by omega)) dL_law_306 ?_
    rw [show Int32.toNatClampNeg v12 = ii.toNatClampNeg + 5 from by have tt := tn (i := v12) (by omega); omega]
    refine lv_if_eq (tgt := 314) hx hb dL_law_307 (by decide) (fun c13 => ?_) (fun c13 => ?_)
    · have hc13 := c13
      have q13 := q_eq hc13
      refine lv_iconst (v := (0)) hx hb dL_law_314 (by decide) ?_
      refine m_calli (m_runV (1000) (As := [.int (xs (ii.toNatClampNeg + 1)), .int (xs (ii.toNatClampNeg + 2)), .int (xs (ii.toNatClampNeg + 3)), .int (xs (ii.toNatClampNeg + 4)), .int (0)]) (rest := []) hx hb hml hown hts hE hM hS hA ce_X10_rock tb_1429 (V_X10_rock l D A ad ns I1 L1 G (xs (ii.toNatClampNeg + 1)) (xs (ii.toNatClampNeg + 2)) (xs (ii.toNatClampNeg + 3)) (xs (ii.toNatClampNeg + 4)) (0) hJ hI (by first | omega | decide)) rfl rfl ⟨Nat.le_of_ble_eq_true rfl, Nat.le_of_ble_eq_true rfl⟩ hJ.1 rfl rfl (by decide) rfl hl.1 rfl (Nat.le_of_ble_eq_true rfl) dL_law_315 ⟨(by show _ + _ ≤ 600000; omega), (by show _ + _ ≤ 7302250; omega)⟩) hS (fun r14 u H locs hw hM hS => ?_)
      obtain ⟨I2, L2, rfl, hI, hk2⟩ := hw
      have hM : Mem D A ad ns I2 L2 G H := hM
      replace hC : CW ns I2 G := cw_keep hC (hk2.get 0 14 rfl)
      replace hLM : LWM I2 := hLM.kp hk2 rfl rfl
      refine lv_pop hx hb dL_law_318 rfl ?_
      refine lv_goto (tgt := 1531) hx hb dL_law_319 (by decide) ?_
      exact kk ad ns I2 L2 G _ _ _ _ _ (by omega) (by omega) ⟨hC, hJ, hI, hLM, trivial⟩ hM hS (lv_sub hl [0, 1, 2, 3] rfl)
    · exact absurd c6 c13
  · have hc6 := c6
    have q6 := q_ne hc6
    refine lv_iconst (v := (1)) hx hb dL_law_272 (by decide) ?_
    refine lv_goto (tgt := 277) hx hb dL_law_273 (by decide) ?_
    refine m_calli (m_runV (0) (As := [.int (xs (ii.toNatClampNeg + 1)), .int (xs (ii.toNatClampNeg + 2)), .int (xs (ii.toNatClampNeg + 3)), .int (xs (ii.toNatClampNeg + 4)), .int (1)]) (rest := []) hx hb hml hown hts hE hM hS hA ce_X9_rock tb_461 (V_X9_rock l D A ad ns I L G (xs (ii.toNatClampNeg + 1)) (xs (ii.toNatClampNeg + 2)) (xs (ii.toNatClampNeg + 3)) (xs (ii.toNatClampNeg + 4)) (1) hG hI (by first | omega | decide)) rfl rfl ⟨Nat.le_of_ble_eq_true rfl, Nat.le_of_ble_eq_true rfl⟩ (hG.1 0 (by decide)) rfl rfl (by decide) rfl hl.1 rfl (Nat.le_of_ble_eq_true rfl) dL_law_277 ⟨(by show _ + _ ≤ 600000; omega), (by show _ + _ ≤ 7302250; omega)⟩) hS (fun r15 u H locs hw hM hS => ?_)
    obtain ⟨I1, L1, rfl, hI, hk1⟩ := hw
    have hM : Mem D A ad ns I1 L1 G H := hM
    replace hC : CW ns I1 G := cw_keep hC (hk1.get 0 14 rfl)
    replace hLM : LWM I1 := hLM.out (hk1.out rfl)
    refine lv_pop hx hb dL_law_280 rfl ?_
    refine lv_aload_n hx hb dL_law_281 rfl (lv_at hl 2 rfl) ?_
    refine lv_aload_n hx hb dL_law_282 rfl (lv_at hl 0 rfl) ?_
    refine lv_iload_n hx hb dL_law_283 rfl (lv_at hl 3 rfl) ?_
    refine lv_iconst (v := (1)) hx hb dL_law_284 (by decide) ?_
    refine lv_iadd hx hb dL_law_285 ?_
    refine lv_topi (fun v16 ev16 => ?_)
    have tv16 := a_add ev16 (by omega) (by omega)
    refine va_sld hx hb hX hbl hbA hS (i := v16) (vp_in_iff.mpr (by omega)) dL_law_286 ?_
    rw [show Int32.toNatClampNeg v16 = ii.toNatClampNeg + 1 from by have tt := tn (i := v16) (by omega); omega]
    refine lv_aload_n hx hb dL_law_287 rfl (lv_at hl 0 rfl) ?_
    refine lv_iload_n hx hb dL_law_288 rfl (lv_at hl 3 rfl) ?_
    refine lv_iconst (v := (2)) hx hb dL_law_289 (by decide) ?_
    refine lv_iadd hx hb dL_law_290 ?_
    refine lv_topi (fun v17 ev17 => ?_)
    have tv17 := a_add ev17 (by omega) (by omega)
    refine va_sld hx hb hX hbl hbA hS (i := v17) (vp_in_iff.mpr (by omega)) dL_law_291 ?_
    rw [show Int32.toNatClampNeg v17 = ii.toNatClampNeg + 2 from by have tt := tn (i := v17) (by omega); omega]
    refine lv_aload_n hx hb dL_law_292 rfl (lv_at hl 0 rfl) ?_
    refine lv_iload_n hx hb dL_law_293 rfl (lv_at hl 3 rfl) ?_
    refine lv_iconst (v := (3)) hx hb dL_law_294 (by decide) ?_
    refine lv_iadd hx hb dL_law_295 ?_
    refine lv_topi (fun v18 ev18 => ?_)
    have tv18 := a_add ev18 (by omega) (by omega)
    refine va_sld hx hb hX hbl hbA hS (i := v18) (vp_in_iff.mpr (by omega)) dL_law_296 ?_
    rw [show Int32.toNatClampNeg v18 = ii.toNatClampNeg + 3 from by have tt := tn (i := v18) (by omega); omega]
    refine lv_aload_n hx hb dL_law_297 rfl (lv_at hl 0 rfl) ?_
    refine lv_iload_n hx hb dL_law_298 rfl (lv_at hl 3 rfl) ?_
    refine lv_iconst (v := (4)) hx hb dL_law_299 (by decide) ?_
    refine lv_iadd hx hb dL_law_300 ?_
    refine lv_topi (fun v19 ev19 => ?_)
    have tv19 := a_add ev19 (by omega) (by omega)
    refine va_sld hx hb hX hbl hbA hS (i := v19) (vp_in_iff.mpr (by omega)) dL_law_301 ?_
    rw [show Int32.toNatClampNeg v19 = ii.toNatClampNeg + 4 from by have tt := tn (i := v19) (by omega); omega]
    refine lv_aload_n hx hb dL_law_302 rfl (lv_at hl 0 rfl) ?_
    refine lv_iload_n hx hb dL_law_303 rfl (lv_at hl 3 rfl) ?_
    refine lv_iconst (v := (5)) hx hb dL_law_304 (by decide) ?_
    refine lv_iadd hx hb dL_law_305 ?_
    refine lv_topi (fun v20 ev20 => ?_)
    have tv20 := a_add ev20 (by omega) (by omega)
    refine va_sld hx hb hX hbl hbA hS (i := v20) (vp_in_iff.mpr (by omega)) dL_law_306 ?_
    rw [show Int32.toNatClampNeg v20 = ii.toNatClampNeg + 5 from by have tt := tn (i := v20) (by omega); omega]
    refine lv_if_eq (tgt := 314) hx hb dL_law_307 (by decide) (fun c21 => ?_) (fun c21 => ?_)
    · exact absurd c21 c6
    · have hc21 := c21
      have q21 := q_ne hc21
      refine lv_iconst (v := (1)) hx hb dL_law_310 (by decide) ?_
      refine lv_goto (tgt := 315) hx hb dL_law_311 (by decide) ?_
      refine m_calli (m_runV (1000) (As := [.int (xs (ii.toNatClampNeg + 1)), .int (xs (ii.toNatClampNeg + 2)), .int (xs (ii.toNatClampNeg + 3)), .int (xs (ii.toNatClampNeg + 4)), .int (1)]) (rest := []) hx hb hml hown hts hE hM hS hA ce_X10_rock tb_1429 (V_X10_rock l D A ad ns I1 L1 G (xs (ii.toNatClampNeg + 1)) (xs (ii.toNatClampNeg + 2)) (xs (ii.toNatClampNeg + 3)) (xs (ii.toNatClampNeg + 4)) (1) hJ hI (by first | omega | decide)) rfl rfl ⟨Nat.le_of_ble_eq_true rfl, Nat.le_of_ble_eq_true rfl⟩ hJ.1 rfl rfl (by decide) rfl hl.1 rfl (Nat.le_of_ble_eq_true rfl) dL_law_315 ⟨(by show _ + _ ≤ 600000; omega), (by show _ + _ ≤ 7302250; omega)⟩) hS (fun r22 u H locs hw hM hS => ?_)
      obtain ⟨I2, L2, rfl, hI, hk2⟩ := hw
      have hM : Mem D A ad ns I2 L2 G H := hM
      replace hC : CW ns I2 G := cw_keep hC (hk2.get 0 14 rfl)
      replace hLM : LWM I2 := hLM.kp hk2 rfl rfl
      refine lv_pop hx hb dL_law_318 rfl ?_
      refine lv_goto (tgt := 1531) hx hb dL_law_319 (by decide) ?_
      exact kk ad ns I2 L2 G _ _ _ _ _ (by omega) (by omega) ⟨hC, hJ, hI, hLM, trivial⟩ hM hS (lv_sub hl [0, 1, 2, 3] rfl)
theorem dL_law_322 : decode cL_law 322 = .ok (.aload_n 1, 1) := by decide +kernel
theorem dL_law_323 : decode cL_law 323 = .ok (.aload_n 0, 1) := by decide +kernel
theorem dL_law_324 : decode cL_law 324 = .ok (.iload_n 3, 1) := by decide +kernel
theorem dL_law_325 : decode cL_law 325 = .ok (.iconst 1, 1) := by decide +kernel
theorem dL_law_326 : decode cL_law 326 = .ok (.iadd, 1) := by decide +kernel
theorem dL_law_327 : decode cL_law 327 = .ok (.iaload, 1) := by decide +kernel
theorem dL_law_328 : decode cL_law 328 = .ok (.aload_n 0, 1) := by decide +kernel
theorem dL_law_329 : decode cL_law 329 = .ok (.iload_n 3, 1) := by decide +kernel
theorem dL_law_330 : decode cL_law 330 = .ok (.iconst 2, 1) := by decide +kernel
theorem dL_law_331 : decode cL_law 331 = .ok (.iadd, 1) := by decide +kernel
theorem dL_law_332 : decode cL_law 332 = .ok (.iaload, 1) := by decide +kernel
theorem dL_law_333 : decode cL_law 333 = .ok (.aload_n 0, 1) := by decide +kernel
theorem dL_law_334 : decode cL_law 334 = .ok (.iload_n 3, 1) := by decide +kernel
theorem dL_law_335 : decode cL_law 335 = .ok (.iconst 3, 1) := by decide +kernel
theorem dL_law_336 : decode cL_law 336 = .ok (.iadd, 1) := by decide +kernel
theorem dL_law_337 : decode cL_law 337 = .ok (.iaload, 1) := by decide +kernel
theorem dL_law_338 : decode cL_law 338 = .ok (.aload_n 0, 1) := by decide +kernel
theorem dL_law_339 : decode cL_law 339 = .ok (.iload_n 3, 1) := by decide +kernel
theorem dL_law_340 : decode cL_law 340 = .ok (.iconst 4, 1) := by decide +kernel
theorem dL_law_341 : decode cL_law 341 = .ok (.iadd, 1) := by decide +kernel
theorem dL_law_342 : decode cL_law 342 = .ok (.iaload, 1) := by decide +kernel
theorem dL_law_343 : decode cL_law 343 = .ok (.invokevirtual 23, 3) := by decide +kernel
theorem dL_law_346 : decode cL_law 346 = .ok (.pop, 1) := by decide +kernel
theorem dL_law_347 : decode cL_law 347 = .ok (.aload_n 2, 1) := by decide +kernel
theorem dL_law_348 : decode cL_law 348 = .ok (.aload_n 0, 1) := by decide +kernel
theorem dL_law_349 : decode cL_law 349 = .ok (.iload_n 3, 1) := by decide +kernel
theorem dL_law_350 : decode cL_law 350 = .ok (.iconst 1, 1) := by decide +kernel
theorem dL_law_351 : decode cL_law 351 = .ok (.iadd, 1) := by decide +kernel
theorem dL_law_352 : decode cL_law 352 = .ok (.iaload, 1) := by decide +kernel
theorem dL_law_353 : decode cL_law 353 = .ok (.aload_n 0, 1) := by decide +kernel
theorem dL_law_354 : decode cL_law 354 = .ok (.iload_n 3, 1) := by decide +kernel
theorem dL_law_355 : decode cL_law 355 = .ok (.iconst 2, 1) := by decide +kernel
theorem dL_law_356 : decode cL_law 356 = .ok (.iadd, 1) := by decide +kernel
theorem dL_law_357 : decode cL_law 357 = .ok (.iaload, 1) := by decide +kernel
theorem dL_law_358 : decode cL_law 358 = .ok (.aload_n 0, 1) := by decide +kernel
theorem dL_law_359 : decode cL_law 359 = .ok (.iload_n 3, 1) := by decide +kernel
theorem dL_law_360 : decode cL_law 360 = .ok (.iconst 3, 1) := by decide +kernel
theorem dL_law_361 : decode cL_law 361 = .ok (.iadd, 1) := by decide +kernel
theorem dL_law_362 : decode cL_law 362 = .ok (.iaload, 1) := by decide +kernel
theorem dL_law_363 : decode cL_law 363 = .ok (.aload_n 0, 1) := by decide +kernel
theorem dL_law_364 : decode cL_law 364 = .ok (.iload_n 3, 1) := by decide +kernel
theorem dL_law_365 : decode cL_law 365 = .ok (.iconst 4, 1) := by decide +kernel
theorem dL_law_366 : decode cL_law 366 = .ok (.iadd, 1) := by decide +kernel
theorem dL_law_367 : decode cL_law 367 = .ok (.iaload, 1) := by decide +kernel
theorem dL_law_368 : decode cL_law 368 = .ok (.invokevirtual 27, 3) := by decide +kernel
theorem dL_law_371 : decode cL_law 371 = .ok (.pop, 1) := by decide +kernel
theorem dL_law_372 : decode cL_law 372 = .ok (.goto 1159, 3) := by decide +kernel
set_option maxHeartbeats 4000000 in
theorem lc_2 {p : Program} {l : Launch} {e : Env} {s : State} {m : MethodId} {below : List Frame} {meth : Method} {c : Code} {b N : Nat} {ii : Int32} {xs : Nat → Int32} {D : va_G} {A : Nat → Prop} {ad : Nat → Nat} {ns : List Nat} {I : MI} {L : ML} {G : MG} {H : Heap} {locs : List Loc} {ls : Array Slot} {cells slots : Nat} (F : LF p s m meth c b N xs D A) (hN : N ≤ 4096) (hi : 0 ≤ ii.toInt ∧ ii.toInt + 8 ≤ N) (hc : cells ≤ 500000) (hs : slots ≤ 7000000) (fw : WD ns I G) (hM : Mem D A ad ns I L G H) (hS : va_S A s.heap H locs) (hl : lv_has ls 4 [(0, .ref (b)), (1, .ref (ad (0))), (2, .ref (ad (1000))), (3, .int (ii))]) (kk : LK p l e s m below meth c b ii D A cells slots) : W p l e room_1 s m #[Value.ref b] below meth c H locs cells slots (lw_Z below #[Value.ref b] s) (F0 m 322 ls []) := by
  obtain ⟨hx, hb, hml, hown, hts, hX, hbl, hbA, hA, hE⟩ := F
  obtain ⟨hC, hJ, hI, hLM, hRel⟩ := fw
  have hG := hC.1
  have hL := hC.lws
  have hIm := hC.2.1.ims
  have tii := tn hi.1
  have k0 : (0 : Int32).toInt = 0 := by decide
  have k1 : (1 : Int32).toInt = 1 := by decide
  have k2 : (2 : Int32).toInt = 2 := by decide
  have k3 : (3 : Int32).toInt = 3 := by decide
  have k4 : (4 : Int32).toInt = 4 := by decide
  refine lv_aload_n hx hb dL_law_322 rfl (lv_at hl 1 rfl) ?_
  refine lv_aload_n hx hb dL_law_323 rfl (lv_at hl 0 rfl) ?_
  refine lv_iload_n hx hb dL_law_324 rfl (lv_at hl 3 rfl) ?_
  refine lv_iconst (v := (1)) hx hb dL_law_325 (by decide) ?_
  refine lv_iadd hx hb dL_law_326 ?_
  refine lv_topi (fun v1 ev1 => ?_)
  have tv1 := a_add ev1 (by omega) (by omega)
  refine va_sld hx hb hX hbl hbA hS (i := v1) (vp_in_iff.mpr (by omega)) dL_law_327 ?_
  rw [show Int32.toNatClampNeg v1 = ii.toNatClampNeg + 1 from by have tt := tn (i := v1) (by omega); omega]
  refine lv_aload_n hx hb dL_law_328 rfl (lv_at hl 0 rfl) ?_
  refine lv_iload_n hx hb dL_law_329 rfl (lv_at hl 3 rfl) ?_
  refine lv_iconst (v := (2)) hx hb dL_law_330 (by decide) ?_
  refine lv_iadd hx hb dL_law_331 ?_
  refine lv_topi (fun v2 ev2 => ?_)
  have tv2 := a_add ev2 (by omega) (by omega)
  refine va_sld hx hb hX hbl hbA hS (i := v2) (vp_in_iff.mpr (by omega)) dL_law_332 ?_
  rw [show Int32.toNatClampNeg v2 = ii.toNatClampNeg + 2 from by have tt := tn (i := v2) (by omega); omega]
  refine lv_aload_n hx hb dL_law_333 rfl (lv_at hl 0 rfl) ?_
  refine lv_iload_n hx hb dL_law_334 rfl (lv_at hl 3 rfl) ?_
  refine lv_iconst (v := (3)) hx hb dL_law_335 (by decide) ?_
  refine lv_iadd hx hb dL_law_336 ?_
  refine lv_topi (fun v3 ev3 => ?_)
  have tv3 := a_add ev3 (by omega) (by omega)
  refine va_sld hx hb hX hbl hbA hS (i := v3) (vp_in_iff.mpr (by omega)) dL_law_337 ?_
  rw [show Int32.toNatClampNeg v3 = ii.toNatClampNeg + 3 from by have tt := tn (i := v3) (by omega); omega]
  refine lv_aload_n hx hb dL_law_338 rfl (lv_at hl 0 rfl) ?_
  refine lv_iload_n hx hb dL_law_339 rfl (lv_at hl 3 rfl) ?_
  refine lv_iconst (v := (4)) hx hb dL_law_340 (by decide) ?_
  refine lv_iadd hx hb dL_law_341 ?_
  refine lv_topi (fun v4 ev4 => ?_)
  have tv4 := a_add ev4 (by omega) (by omega)
  refine va_sld hx hb hX hbl hbA hS (i := v4) (vp_in_iff.mpr (by omega)) dL_law_342 ?_
  rw [show Int32.toNatClampNeg v4 = ii.toNatClampNeg + 4 from by have tt := tn (i := v4) (by omega); omega]
  refine m_calli (m_runV (0) (As := [.int (xs (ii.toNatClampNeg + 1)), .int (xs (ii.toNatClampNeg + 2)), .int (xs (ii.toNatClampNeg + 3)), .int (xs (ii.toNatClampNeg + 4))]) (rest := []) hx hb hml hown hts hE hM hS hA ce_X9_sun tb_480 (V_X9_sun l D A ad ns I L G (xs (ii.toNatClampNeg + 1)) (xs (ii.toNatClampNeg + 2)) (xs (ii.toNatClampNeg + 3)) (xs (ii.toNatClampNeg + 4)) hG hI) rfl rfl ⟨Nat.le_of_ble_eq_true rfl, Nat.le_of_ble_eq_true rfl⟩ (hG.1 0 (by decide)) rfl rfl (by decide) rfl hl.1 rfl (Nat.le_of_ble_eq_true rfl) dL_law_343 ⟨(by show _ + _ ≤ 600000; omega), (by show _ + _ ≤ 7302250; omega)⟩) hS (fun r5 u H locs hw hM hS => ?_)
  obtain ⟨I1, L1, rfl, hI, hk1, y1⟩ := hw
  have hM : Mem D A ad ns I1 L1 G H := hM
  replace hC : CW ns I1 G := cw_keep hC (hk1.get 0 14 rfl)
  replace hLM : LWM I1 := hLM.out (hk1.out rfl)
  refine lv_pop hx hb dL_law_346 rfl ?_
  refine lv_aload_n hx hb dL_law_347 rfl (lv_at hl 2 rfl) ?_
  refine lv_aload_n hx hb dL_law_348 rfl (lv_at hl 0 rfl) ?_
  refine lv_iload_n hx hb dL_law_349 rfl (lv_at hl 3 rfl) ?_
  refine lv_iconst (v := (1)) hx hb dL_law_350 (by decide) ?_
  refine lv_iadd hx hb dL_law_351 ?_
  refine lv_topi (fun v6 ev6 => ?_)
  have tv6 := a_add ev6 (by omega) (by omega)
  refine va_sld hx hb hX hbl hbA hS (i := v6) (vp_in_iff.mpr (by omega)) dL_law_352 ?_
  rw [show Int32.toNatClampNeg v6 = ii.toNatClampNeg + 1 from by have tt := tn (i := v6) (by omega); omega]
  refine lv_aload_n hx hb dL_law_353 rfl (lv_at hl 0 rfl) ?_
  refine lv_iload_n hx hb dL_law_354 rfl (lv_at hl 3 rfl) ?_
  refine lv_iconst (v := (2)) hx hb dL_law_355 (by decide) ?_
  refine lv_iadd hx hb dL_law_356 ?_
  refine lv_topi (fun v7 ev7 => ?_)
  have tv7 := a_add ev7 (by omega) (by omega)
  refine va_sld hx hb hX hbl hbA hS (i := v7) (vp_in_iff.mpr (by omega)) dL_law_357 ?_
  rw [show Int32.toNatClampNeg v7 = ii.toNatClampNeg + 2 from by have tt := tn (i := v7) (by omega); omega]
  refine lv_aload_n hx hb dL_law_358 rfl (lv_at hl 0 rfl) ?_
  refine lv_iload_n hx hb dL_law_359 rfl (lv_at hl 3 rfl) ?_
  refine lv_iconst (v := (3)) hx hb dL_law_360 (by decide) ?_
  refine lv_iadd hx hb dL_law_361 ?_
  refine lv_topi (fun v8 ev8 => ?_)
  have tv8 := a_add ev8 (by omega) (by omega)
  refine va_sld hx hb hX hbl hbA hS (i := v8) (vp_in_iff.mpr (by omega)) dL_law_362 ?_
  rw [show Int32.toNatClampNeg v8 = ii.toNatClampNeg + 3 from by have tt := tn (i := v8) (by omega); omega]
  refine lv_aload_n hx hb dL_law_363 rfl (lv_at hl 0 rfl) ?_
  refine lv_iload_n hx hb dL_law_364 rfl (lv_at hl 3 rfl) ?_
  refine lv_iconst (v := (4)) hx hb dL_law_365 (by decide) ?_
  refine lv_iadd hx hb dL_law_366 ?_
  refine lv_topi (fun v9 ev9 => ?_)
  have tv9 := a_add ev9 (by omega) (by omega)
  refine va_sld hx hb hX hbl hbA hS (i := v9) (vp_in_iff.mpr (by omega)) dL_law_367 ?_
  rw [show Int32.toNatClampNeg v9 = ii.toNatClampNeg + 4 from by have tt := tn (i := v9) (by omega); omega]
  refine m_calli (m_runV (1000) (As := [.int (xs (ii.toNatClampNeg + 1)), .int (xs (ii.toNatClampNeg + 2)), .int (xs (ii.toNatClampNeg + 3)), .int (xs (ii.toNatClampNeg + 4))]) (rest := []) hx hb hml hown hts hE hM hS hA ce_X10_sun tb_1445 (V_X10_sun l D A ad ns I1 L1 G (xs (ii.toNatClampNeg + 1)) (xs (ii.toNatClampNeg + 2)) (xs (ii.toNatClampNeg + 3)) (xs (ii.toNatClampNeg + 4)) hJ hI) rfl rfl ⟨Nat.le_of_ble_eq_true rfl, Nat.le_of_ble_eq_true rfl⟩ hJ.1 rfl rfl (by decide) rfl hl.1 rfl (Nat.le_of_ble_eq_true rfl) dL_law_368 ⟨(by show _ + _ ≤ 600000; omega), (by show _ + _ ≤ 7302250; omega)⟩) hS (fun r10 u H locs hw hM hS => ?_)
  obtain ⟨I2, L2, rfl, hI, hk2, y2⟩ := hw
  have hM : Mem D A ad ns I2 L2 G H := hM
  replace hC : CW ns I2 G := cw_keep hC (hk2.get 0 14 rfl)
  replace hLM : LWM I2 := hLM.kp hk2 rfl rfl
  refine lv_pop hx hb dL_law_371 rfl ?_
  refine lv_goto (tgt := 1531) hx hb dL_law_372 (by decide) ?_
  exact kk ad ns I2 L2 G _ _ _ _ _ (by omega) (by omega) ⟨hC, hJ, hI, hLM, trivial⟩ hM hS (lv_sub hl [0, 1, 2, 3] rfl)
theorem dL_law_375 : decode cL_law 375 = .ok (.aload_n 1, 1) := by decide +kernel
theorem dL_law_376 : decode cL_law 376 = .ok (.aload_n 0, 1) := by decide +kernel
theorem dL_law_377 : decode cL_law 377 = .ok (.iload_n 3, 1) := by decide +kernel
theorem dL_law_378 : decode cL_law 378 = .ok (.iconst 1, 1) := by decide +kernel
theorem dL_law_379 : decode cL_law 379 = .ok (.iadd, 1) := by decide +kernel
theorem dL_law_380 : decode cL_law 380 = .ok (.iaload, 1) := by decide +kernel
theorem dL_law_381 : decode cL_law 381 = .ok (.aload_n 0, 1) := by decide +kernel
theorem dL_law_382 : decode cL_law 382 = .ok (.iload_n 3, 1) := by decide +kernel
theorem dL_law_383 : decode cL_law 383 = .ok (.iconst 2, 1) := by decide +kernel
theorem dL_law_384 : decode cL_law 384 = .ok (.iadd, 1) := by decide +kernel
theorem dL_law_385 : decode cL_law 385 = .ok (.iaload, 1) := by decide +kernel
theorem dL_law_386 : decode cL_law 386 = .ok (.aload_n 0, 1) := by decide +kernel
theorem dL_law_387 : decode cL_law 387 = .ok (.iload_n 3, 1) := by decide +kernel
theorem dL_law_388 : decode cL_law 388 = .ok (.iconst 3, 1) := by decide +kernel
theorem dL_law_389 : decode cL_law 389 = .ok (.iadd, 1) := by decide +kernel
theorem dL_law_390 : decode cL_law 390 = .ok (.iaload, 1) := by decide +kernel
theorem dL_law_391 : decode cL_law 391 = .ok (.aload_n 0, 1) := by decide +kernel
theorem dL_law_392 : decode cL_law 392 = .ok (.iload_n 3, 1) := by decide +kernel
theorem dL_law_393 : decode cL_law 393 = .ok (.iconst 4, 1) := by decide +kernel
theorem dL_law_394 : decode cL_law 394 = .ok (.iadd, 1) := by decide +kernel
theorem dL_law_395 : decode cL_law 395 = .ok (.iaload, 1) := by decide +kernel
theorem dL_law_396 : decode cL_law 396 = .ok (.aload_n 0, 1) := by decide +kernel
theorem dL_law_397 : decode cL_law 397 = .ok (.iload_n 3, 1) := by decide +kernel
theorem dL_law_398 : decode cL_law 398 = .ok (.iconst 5, 1) := by decide +kernel
theorem dL_law_399 : decode cL_law 399 = .ok (.iadd, 1) := by decide +kernel
theorem dL_law_400 : decode cL_law 400 = .ok (.iaload, 1) := by decide +kernel
theorem dL_law_401 : decode cL_law 401 = .ok (.aload_n 0, 1) := by decide +kernel
theorem dL_law_402 : decode cL_law 402 = .ok (.iload_n 3, 1) := by decide +kernel
theorem dL_law_403 : decode cL_law 403 = .ok (.bipush 6, 2) := by decide +kernel
theorem dL_law_405 : decode cL_law 405 = .ok (.iadd, 1) := by decide +kernel
theorem dL_law_406 : decode cL_law 406 = .ok (.iaload, 1) := by decide +kernel
theorem dL_law_407 : decode cL_law 407 = .ok (.aload_n 0, 1) := by decide +kernel
theorem dL_law_408 : decode cL_law 408 = .ok (.iload_n 3, 1) := by decide +kernel
theorem dL_law_409 : decode cL_law 409 = .ok (.bipush 7, 2) := by decide +kernel
theorem dL_law_411 : decode cL_law 411 = .ok (.iadd, 1) := by decide +kernel
theorem dL_law_412 : decode cL_law 412 = .ok (.iaload, 1) := by decide +kernel
theorem dL_law_413 : decode cL_law 413 = .ok (.invokevirtual 28, 3) := by decide +kernel
theorem dL_law_416 : decode cL_law 416 = .ok (.pop, 1) := by decide +kernel
theorem dL_law_417 : decode cL_law 417 = .ok (.aload_n 2, 1) := by decide +kernel
theorem dL_law_418 : decode cL_law 418 = .ok (.aload_n 0, 1) := by decide +kernel
theorem dL_law_419 : decode cL_law 419 = .ok (.iload_n 3, 1) := by decide +kernel
theorem dL_law_420 : decode cL_law 420 = .ok (.iconst 1, 1) := by decide +kernel
theorem dL_law_421 : decode cL_law 421 = .ok (.iadd, 1) := by decide +kernel
theorem dL_law_422 : decode cL_law 422 = .ok (.iaload, 1) := by decide +kernel
theorem dL_law_423 : decode cL_law 423 = .ok (.aload_n 0, 1) := by decide +kernel
theorem dL_law_424 : decode cL_law 424 = .ok (.iload_n 3, 1) := by decide +kernel
theorem dL_law_425 : decode cL_law 425 = .ok (.iconst 2, 1) := by decide +kernel
theorem dL_law_426 : decode cL_law 426 = .ok (.iadd, 1) := by decide +kernel
theorem dL_law_427 : decode cL_law 427 = .ok (.iaload, 1) := by decide +kernel
theorem dL_law_428 : decode cL_law 428 = .ok (.aload_n 0, 1) := by decide +kernel
theorem dL_law_429 : decode cL_law 429 = .ok (.iload_n 3, 1) := by decide +kernel
theorem dL_law_430 : decode cL_law 430 = .ok (.iconst 3, 1) := by decide +kernel
theorem dL_law_431 : decode cL_law 431 = .ok (.iadd, 1) := by decide +kernel
theorem dL_law_432 : decode cL_law 432 = .ok (.iaload, 1) := by decide +kernel
theorem dL_law_433 : decode cL_law 433 = .ok (.aload_n 0, 1) := by decide +kernel
theorem dL_law_434 : decode cL_law 434 = .ok (.iload_n 3, 1) := by decide +kernel
theorem dL_law_435 : decode cL_law 435 = .ok (.iconst 4, 1) := by decide +kernel
theorem dL_law_436 : decode cL_law 436 = .ok (.iadd, 1) := by decide +kernel
theorem dL_law_437 : decode cL_law 437 = .ok (.iaload, 1) := by decide +kernel
theorem dL_law_438 : decode cL_law 438 = .ok (.aload_n 0, 1) := by decide +kernel
theorem dL_law_439 : decode cL_law 439 = .ok (.iload_n 3, 1) := by decide +kernel
theorem dL_law_440 : decode cL_law 440 = .ok (.iconst 5, 1) := by decide +kernel
theorem dL_law_441 : decode cL_law 441 = .ok (.iadd, 1) := by decide +kernel
theorem dL_law_442 : decode cL_law 442 = .ok (.iaload, 1) := by decide +kernel
theorem dL_law_443 : decode cL_law 443 = .ok (.aload_n 0, 1) := by decide +kernel
theorem dL_law_444 : decode cL_law 444 = .ok (.iload_n 3, 1) := by decide +kernel
theorem dL_law_445 : decode cL_law 445 = .ok (.bipush 6, 2) := by decide +kernel
theorem dL_law_447 : decode cL_law 447 = .ok (.iadd, 1) := by decide +kernel
theorem dL_law_448 : decode cL_law 448 = .ok (.iaload, 1) := by decide +kernel
theorem dL_law_449 : decode cL_law 449 = .ok (.aload_n 0, 1) := by decide +kernel
theorem dL_law_450 : decode cL_law 450 = .ok (.iload_n 3, 1) := by decide +kernel
theorem dL_law_451 : decode cL_law 451 = .ok (.bipush 7, 2) := by decide +kernel
theorem dL_law_453 : decode cL_law 453 = .ok (.iadd, 1) := by decide +kernel
theorem dL_law_454 : decode cL_law 454 = .ok (.iaload, 1) := by decide +kernel
theorem dL_law_455 : decode cL_law 455 = .ok (.invokevirtual 32, 3) := by decide +kernel
theorem dL_law_458 : decode cL_law 458 = .ok (.pop, 1) := by decide +kernel
theorem dL_law_459 : decode cL_law 459 = .ok (.goto 1072, 3) := by decide +kernel
set_option maxHeartbeats 4000000 in
theorem lc_3 {p : Program} {l : Launch} {e : Env} {s : State} {m : MethodId} {below : List Frame} {meth : Method} {c : Code} {b N : Nat} {ii : Int32} {xs : Nat → Int32} {D : va_G} {A : Nat → Prop} {ad : Nat → Nat} {ns : List Nat} {I : MI} {L : ML} {G : MG} {H : Heap} {locs : List Loc} {ls : Array Slot} {cells slots : Nat} (F : LF p s m meth c b N xs D A) (hN : N ≤ 4096) (hi : 0 ≤ ii.toInt ∧ ii.toInt + 8 ≤ N) (hc : cells ≤ 500000) (hs : slots ≤ 7000000) (fw : WD ns I G) (hM : Mem D A ad ns I L G H) (hS : va_S A s.heap H locs) (hl : lv_has ls 4 [(0, .ref (b)), (1, .ref (ad (0))), (2, .ref (ad (1000))), (3, .int (ii))]) (kk : LK p l e s m below meth c b ii D A cells slots) : W p l e room_1 s m #[Value.ref b] below meth c H locs cells slots (lw_Z below #[Value.ref b] s) (F0 m 375 ls []) := by
  obtain ⟨hx, hb, hml, hown, hts, hX, hbl, hbA, hA, hE⟩ := F
  obtain ⟨hC, hJ, hI, hLM, hRel⟩ := fw
  have hG := hC.1
  have hL := hC.lws
  have hIm := hC.2.1.ims
  have tii := tn hi.1
  have k0 : (0 : Int32).toInt = 0 := by decide
  have k1 : (1 : Int32).toInt = 1 := by decide
  have k2 : (2 : Int32).toInt = 2 := by decide
  have k3 : (3 : Int32).toInt = 3 := by decide
  have k4 : (4 : Int32).toInt = 4 := by decide
  have k5 : (5 : Int32).toInt = 5 := by decide
  have k6 : (6 : Int32).toInt = 6 := by decide
  have k7 : (7 : Int32).toInt = 7 := by decide
  refine lv_aload_n hx hb dL_law_375 rfl (lv_at hl 1 rfl) ?_
  refine lv_aload_n hx hb dL_law_376 rfl (lv_at hl 0 rfl) ?_
  refine lv_iload_n hx hb dL_law_377 rfl (lv_at hl 3 rfl) ?_
  refine lv_iconst (v := (1)) hx hb dL_law_378 (by decide) ?_
  refine lv_iadd hx hb dL_law_379 ?_
  refine lv_topi (fun v1 ev1 => ?_)
  have tv1 := a_add ev1 (by omega) (by omega)
  refine va_sld hx hb hX hbl hbA hS (i := v1) (vp_in_iff.mpr (by omega)) dL_law_380 ?_
  rw [show Int32.toNatClampNeg v1 = ii.toNatClampNeg + 1 from by have tt := tn (i := v1) (by omega); omega]
  refine lv_aload_n hx hb dL_law_381 rfl (lv_at hl 0 rfl) ?_
  refine lv_iload_n hx hb dL_law_382 rfl (lv_at hl 3 rfl) ?_
  refine lv_iconst (v := (2)) hx hb dL_law_383 (by decide) ?_
  refine lv_iadd hx hb dL_law_384 ?_
  refine lv_topi (fun v2 ev2 => ?_)
  have tv2 := a_add ev2 (by omega) (by omega)
  refine va_sld hx hb hX hbl hbA hS (i := v2) (vp_in_iff.mpr (by omega)) dL_law_385 ?_
  rw [show Int32.toNatClampNeg v2 = ii.toNatClampNeg + 2 from by have tt := tn (i := v2) (by omega); omega]
  refine lv_aload_n hx hb dL_law_386 rfl (lv_at hl 0 rfl) ?_
  refine lv_iload_n hx hb dL_law_387 rfl (lv_at hl 3 rfl) ?_
  refine lv_iconst (v := (3)) hx hb dL_law_388 (by decide) ?_
  refine lv_iadd hx hb dL_law_389 ?_
  refine lv_topi (fun v3 ev3 => ?_)
  have tv3 := a_add ev3 (by omega) (by omega)
  refine va_sld hx hb hX hbl hbA hS (i := v3) (vp_in_iff.mpr (by omega)) dL_law_390 ?_
  rw [show Int32.toNatClampNeg v3 = ii.toNatClampNeg + 3 from by have tt := tn (i := v3) (by omega); omega]
  refine lv_aload_n hx hb dL_law_391 rfl (lv_at hl 0 rfl) ?_
  refine lv_iload_n hx hb dL_law_392 rfl (lv_at hl 3 rfl) ?_
  refine lv_iconst (v := (4)) hx hb dL_law_393 (by decide) ?_
  refine lv_iadd hx hb dL_law_394 ?_
  refine lv_topi (fun v4 ev4 => ?_)
  have tv4 := a_add ev4 (by omega) (by omega)
  refine va_sld hx hb hX hbl hbA hS (i := v4) (vp_in_iff.mpr (by omega)) dL_law_395 ?_
  rw [show Int32.toNatClampNeg v4 = ii.toNatClampNeg + 4 from by have tt := tn (i := v4) (by omega); omega]
  refine lv_aload_n hx hb dL_law_396 rfl (lv_at hl 0 rfl) ?_
  refine lv_iload_n hx hb dL_law_397 rfl (lv_at hl 3 rfl) ?_
  refine lv_iconst (v := (5)) hx hb dL_law_398 (by decide) ?_
  refine lv_iadd hx hb dL_law_399 ?_
  refine lv_topi (fun v5 ev5 => ?_)
  have tv5 := a_add ev5 (by omega) (by omega)
  refine va_sld hx hb hX hbl hbA hS (i := v5) (vp_in_iff.mpr (by omega)) dL_law_400 ?_
  rw [show Int32.toNatClampNeg v5 = ii.toNatClampNeg + 5 from by have tt := tn (i := v5) (by omega); omega]
  refine lv_aload_n hx hb dL_law_401 rfl (lv_at hl 0 rfl) ?_
  refine lv_iload_n hx hb dL_law_402 rfl (lv_at hl 3 rfl) ?_
  refine lv_bipush (v := (6)) hx hb dL_law_403 (by decide) ?_
  refine lv_iadd hx hb dL_law_405 ?_
  refine lv_topi (fun v6 ev6 => ?_)
  have tv6 := a_add ev6 (by omega) (by omega)
  refine va_sld hx hb hX hbl hbA hS (i := v6) (vp_in_iff.mpr (by omega)) dL_law_406 ?_
  rw [show Int32.toNatClampNeg v6 = ii.toNatClampNeg + 6 from by have tt := tn (i := v6) (by omega); omega]
  refine lv_aload_n hx hb dL_law_407 rfl (lv_at hl 0 rfl) ?_
  refine lv_iload_n hx hb dL_law_408 rfl (lv_at hl 3 rfl) ?_
  refine lv_bipush (v := (7)) hx hb dL_law_409 (by decide) ?_
  refine lv_iadd hx hb dL_law_411 ?_
  refine lv_topi (fun v7 ev7 => ?_)
  have tv7 := a_add ev7 (by omega) (by omega)
  refine va_sld hx hb hX hbl hbA hS (i := v7) (vp_in_iff.mpr (by omega)) dL_law_412 ?_
  rw [show Int32.toNatClampNeg v7 = ii.toNatClampNeg + 7 from by have tt := tn (i := v7) (by omega); omega]
  refine m_calli (m_runV (0) (As := [.int (xs (ii.toNatClampNeg + 1)), .int (xs (ii.toNatClampNeg + 2)), .int (xs (ii.toNatClampNeg + 3)), .int (xs (ii.toNatClampNeg + 4)), .int (xs (ii.toNatClampNeg + 5)), .int (xs (ii.toNatClampNeg + 6)), .int (xs (ii.toNatClampNeg + 7))]) (rest := []) hx hb hml hown hts hE hM hS hA ce_X9_mirror tb_489 (V_X9_mirror l D A ad ns I L G (xs (ii.toNatClampNeg + 1)) (xs (ii.toNatClampNeg + 2)) (xs (ii.toNatClampNeg + 3)) (xs (ii.toNatClampNeg + 4)) (xs (ii.toNatClampNeg + 5)) (xs (ii.toNatClampNeg + 6)) (xs (ii.toNatClampNeg + 7)) hG hI) rfl rfl ⟨Nat.le_of_ble_eq_true rfl, Nat.le_of_ble_eq_true rfl⟩ (hG.1 0 (by decide)) rfl rfl (by decide) rfl hl.1 rfl (Nat.le_of_ble_eq_true rfl) dL_law_413 ⟨(by show _ + _ ≤ 600000; omega), (by show _ + _ ≤ 7302250; omega)⟩) hS (fun r8 u H locs hw hM hS => ?_)
  obtain ⟨I1, L1, rfl, hI, hk1⟩ := hw
  have hM : Mem D A ad ns I1 L1 G H := hM
  replace hC : CW ns I1 G := cw_keep hC (hk1.get 0 14 rfl)
  replace hLM : LWM I1 := hLM.out (hk1.out rfl)
  refine lv_pop hx hb dL_law_416 rfl ?_
  refine lv_aload_n hx hb dL_law_417 rfl (lv_at hl 2 rfl) ?_
  refine lv_aload_n hx hb dL_law_418 rfl (lv_at hl 0 rfl) ?_
  refine lv_iload_n hx hb dL_law_419 rfl (lv_at hl 3 rfl) ?_
  refine lv_iconst (v := (1)) hx hb dL_law_420 (by decide) ?_
  refine lv_iadd hx hb dL_law_421 ?_
  refine lv_topi (fun v9 ev9 => ?_)
  have tv9 := a_add ev9 (by omega) (by omega)
  refine va_sld hx hb hX hbl hbA hS (i := v9) (vp_in_iff.mpr (by omega)) dL_law_422 ?_
  rw [show Int32.toNatClampNeg v9 = ii.toNatClampNeg + 1 from by have tt := tn (i := v9) (by omega); omega]
  refine lv_aload_n hx hb dL_law_423 rfl (lv_at hl 0 rfl) ?_
  refine lv_iload_n hx hb dL_law_424 rfl (lv_at hl 3 rfl) ?_
  refine lv_iconst (v := (2)) hx hb dL_law_425 (by decide) ?_
  refine lv_iadd hx hb dL_law_426 ?_
  refine lv_topi (fun v10 ev10 => ?_)
  have tv10 := a_add ev10 (by omega) (by omega)
  refine va_sld hx hb hX hbl hbA hS (i := v10) (vp_in_iff.mpr (by omega)) dL_law_427 ?_
  rw [show Int32.toNatClampNeg v10 = ii.toNatClampNeg + 2 from by have tt := tn (i := v10) (by omega); omega]
  refine lv_aload_n hx hb dL_law_428 rfl (lv_at hl 0 rfl) ?_
  refine lv_iload_n hx hb dL_law_429 rfl (lv_at hl 3 rfl) ?_
  refine lv_iconst (v := (3)) hx hb dL_law_430 (by decide) ?_
  refine lv_iadd hx hb dL_law_431 ?_
  refine lv_topi (fun v11 ev11 => ?_)
  have tv11 := a_add ev11 (by omega) (by omega)
  refine va_sld hx hb hX hbl hbA hS (i := v11) (vp_in_iff.mpr (by omega)) dL_law_432 ?_
  rw [show Int32.toNatClampNeg v11 = ii.toNatClampNeg + 3 from by have tt := tn (i := v11) (by omega); omega]
  refine lv_aload_n hx hb dL_law_433 rfl (lv_at hl 0 rfl) ?_
  refine lv_iload_n hx hb dL_law_434 rfl (lv_at hl 3 rfl) ?_
  refine lv_iconst (v := (4)) hx hb dL_law_435 (by decide) ?_
  refine lv_iadd hx hb dL_law_436 ?_
  refine lv_topi (fun v12 ev12 => ?_)
  have tv12 := a_add ev12 (by omega) (by omega)
  refine va_sld hx hb hX hbl hbA hS (i := v12) (vp_in_iff.mpr (by omega)) dL_law_437 ?_
  rw [show Int32.toNatClampNeg v12 = ii.toNatClampNeg + 4 from by have tt := tn (i := v12) (by omega); omega]
  refine lv_aload_n hx hb dL_law_438 rfl (lv_at hl 0 rfl) ?_
  refine lv_iload_n hx hb dL_law_439 rfl (lv_at hl 3 rfl) ?_
  refine lv_iconst (v := (5)) hx hb dL_law_440 (by decide) ?_
  refine lv_iadd hx hb dL_law_441 ?_
  refine lv_topi (fun v13 ev13 => ?_)
  have tv13 := a_add ev13 (by omega) (by omega)
  refine va_sld hx hb hX hbl hbA hS (i := v13) (vp_in_iff.mpr (by omega)) dL_law_442 ?_
  rw [show Int32.toNatClampNeg v13 = ii.toNatClampNeg + 5 from by have tt := tn (i := v13) (by omega); omega]
  refine lv_aload_n hx hb dL_law_443 rfl (lv_at hl 0 rfl) ?_
  refine lv_iload_n hx hb dL_law_444 rfl (lv_at hl 3 rfl) ?_
  refine lv_bipush (v := (6)) hx hb dL_law_445 (by decide) ?_
  refine lv_iadd hx hb dL_law_447 ?_
  refine lv_topi (fun v14 ev14 => ?_)
  have tv14 := a_add ev14 (by omega) (by omega)
  refine va_sld hx hb hX hbl hbA hS (i := v14) (vp_in_iff.mpr (by omega)) dL_law_448 ?_
  rw [show Int32.toNatClampNeg v14 = ii.toNatClampNeg + 6 from by have tt := tn (i := v14) (by omega); omega]
  refine lv_aload_n hx hb dL_law_449 rfl (lv_at hl 0 rfl) ?_
  refine lv_iload_n hx hb dL_law_450 rfl (lv_at hl 3 rfl) ?_
  refine lv_bipush (v := (7)) hx hb dL_law_451 (by decide) ?_
  refine lv_iadd hx hb dL_law_453 ?_
  refine lv_topi (fun v15 ev15 => ?_)
  have tv15 := a_add ev15 (by omega) (by omega)
  refine va_sld hx hb hX hbl hbA hS (i := v15) (vp_in_iff.mpr (by omega)) dL_law_454 ?_
  rw [show Int32.toNatClampNeg v15 = ii.toNatClampNeg + 7 from by have tt := tn (i := v15) (by omega); omega]
  refine m_calli (m_runV (1000) (As := [.int (xs (ii.toNatClampNeg + 1)), .int (xs (ii.toNatClampNeg + 2)), .int (xs (ii.toNatClampNeg + 3)), .int (xs (ii.toNatClampNeg + 4)), .int (xs (ii.toNatClampNeg + 5)), .int (xs (ii.toNatClampNeg + 6)), .int (xs (ii.toNatClampNeg + 7))]) (rest := []) hx hb hml hown hts hE hM hS hA ce_X10_mirror tb_1453 (V_X10_mirror l D A ad ns I1 L1 G (xs (ii.toNatClampNeg + 1)) (xs (ii.toNatClampNeg + 2)) (xs (ii.toNatClampNeg + 3)) (xs (ii.toNatClampNeg + 4)) (xs (ii.toNatClampNeg + 5)) (xs (ii.toNatClampNeg + 6)) (xs (ii.toNatClampNeg + 7)) hJ hI) rfl rfl ⟨Nat.le_of_ble_eq_true rfl, Nat.le_of_ble_eq_true rfl⟩ hJ.1 rfl rfl (by decide) rfl hl.1 rfl (Nat.le_of_ble_eq_true rfl) dL_law_455 ⟨(by show _ + _ ≤ 600000; omega), (by show _ + _ ≤ 7302250; omega)⟩) hS (fun r16 u H locs hw hM hS => ?_)
  obtain ⟨I2, L2, rfl, hI, hk2⟩ := hw
  have hM : Mem D A ad ns I2 L2 G H := hM
  replace hC : CW ns I2 G := cw_keep hC (hk2.get 0 14 rfl)
  replace hLM : LWM I2 := hLM.kp hk2 rfl rfl
  refine lv_pop hx hb dL_law_458 rfl ?_
  refine lv_goto (tgt := 1531) hx hb dL_law_459 (by decide) ?_
  exact kk ad ns I2 L2 G _ _ _ _ _ (by omega) (by omega) ⟨hC, hJ, hI, hLM, trivial⟩ hM hS (lv_sub hl [0, 1, 2, 3] rfl)
theorem dL_law_462 : decode cL_law 462 = .ok (.aload_n 1, 1) := by decide +kernel
theorem dL_law_463 : decode cL_law 463 = .ok (.aload_n 0, 1) := by decide +kernel
theorem dL_law_464 : decode cL_law 464 = .ok (.iload_n 3, 1) := by decide +kernel
theorem dL_law_465 : decode cL_law 465 = .ok (.iconst 1, 1) := by decide +kernel
theorem dL_law_466 : decode cL_law 466 = .ok (.iadd, 1) := by decide +kernel
theorem dL_law_467 : decode cL_law 467 = .ok (.iaload, 1) := by decide +kernel
theorem dL_law_468 : decode cL_law 468 = .ok (.aload_n 0, 1) := by decide +kernel
theorem dL_law_469 : decode cL_law 469 = .ok (.iload_n 3, 1) := by decide +kernel
theorem dL_law_470 : decode cL_law 470 = .ok (.iconst 2, 1) := by decide +kernel
theorem dL_law_471 : decode cL_law 471 = .ok (.iadd, 1) := by decide +kernel
theorem dL_law_472 : decode cL_law 472 = .ok (.iaload, 1) := by decide +kernel
theorem dL_law_473 : decode cL_law 473 = .ok (.aload_n 0, 1) := by decide +kernel
theorem dL_law_474 : decode cL_law 474 = .ok (.iload_n 3, 1) := by decide +kernel
theorem dL_law_475 : decode cL_law 475 = .ok (.iconst 3, 1) := by decide +kernel
theorem dL_law_476 : decode cL_law 476 = .ok (.iadd, 1) := by decide +kernel
theorem dL_law_477 : decode cL_law 477 = .ok (.iaload, 1) := by decide +kernel
theorem dL_law_478 : decode cL_law 478 = .ok (.invokevirtual 33, 3) := by decide +kernel
theorem dL_law_481 : decode cL_law 481 = .ok (.pop, 1) := by decide +kernel
theorem dL_law_482 : decode cL_law 482 = .ok (.aload_n 2, 1) := by decide +kernel
theorem dL_law_483 : decode cL_law 483 = .ok (.aload_n 0, 1) := by decide +kernel
theorem dL_law_484 : decode cL_law 484 = .ok (.iload_n 3, 1) := by decide +kernel
theorem dL_law_485 : decode cL_law 485 = .ok (.iconst 1, 1) := by decide +kernel
theorem dL_law_486 : decode cL_law 486 = .ok (.iadd, 1) := by decide +kernel
theorem dL_law_487 : decode cL_law 487 = .ok (.iaload, 1) := by decide +kernel
theorem dL_law_488 : decode cL_law 488 = .ok (.aload_n 0, 1) := by decide +kernel
theorem dL_law_489 : decode cL_law 489 = .ok (.iload_n 3, 1) := by decide +kernel
theorem dL_law_490 : decode cL_law 490 = .ok (.iconst 2, 1) := by decide +kernel
theorem dL_law_491 : decode cL_law 491 = .ok (.iadd, 1) := by decide +kernel
theorem dL_law_492 : decode cL_law 492 = .ok (.iaload, 1) := by decide +kernel
theorem dL_law_493 : decode cL_law 493 = .ok (.aload_n 0, 1) := by decide +kernel
theorem dL_law_494 : decode cL_law 494 = .ok (.iload_n 3, 1) := by decide +kernel
theorem dL_law_495 : decode cL_law 495 = .ok (.iconst 3, 1) := by decide +kernel
theorem dL_law_496 : decode cL_law 496 = .ok (.iadd, 1) := by decide +kernel
theorem dL_law_497 : decode cL_law 497 = .ok (.iaload, 1) := by decide +kernel
theorem dL_law_498 : decode cL_law 498 = .ok (.invokevirtual 37, 3) := by decide +kernel
theorem dL_law_501 : decode cL_law 501 = .ok (.pop, 1) := by decide +kernel
theorem dL_law_502 : decode cL_law 502 = .ok (.goto 1029, 3) := by decide +kernel
set_option maxHeartbeats 4000000 in
theorem lc_4 {p : Program} {l : Launch} {e : Env} {s : State} {m : MethodId} {below : List Frame} {meth : Method} {c : Code} {b N : Nat} {ii : Int32} {xs : Nat → Int32} {D : va_G} {A : Nat → Prop} {ad : Nat → Nat} {ns : List Nat} {I : MI} {L : ML} {G : MG} {H : Heap} {locs : List Loc} {ls : Array Slot} {cells slots : Nat} (F : LF p s m meth c b N xs D A) (hN : N ≤ 4096) (hi : 0 ≤ ii.toInt ∧ ii.toInt + 8 ≤ N) (hc : cells ≤ 500000) (hs : slots ≤ 7000000) (fw : WD ns I G) (hM : Mem D A ad ns I L G H) (hS : va_S A s.heap H locs) (hl : lv_has ls 4 [(0, .ref (b)), (1, .ref (ad (0))), (2, .ref (ad (1000))), (3, .int (ii))]) (kk : LK p l e s m below meth c b ii D A cells slots) : W p l e room_1 s m #[Value.ref b] below meth c H locs cells slots (lw_Z below #[Value.ref b] s) (F0 m 462 ls []) := by
  obtain ⟨hx, hb, hml, hown, hts, hX, hbl, hbA, hA, hE⟩ := F
  obtain ⟨hC, hJ, hI, hLM, hRel⟩ := fw
  have hG := hC.1
  have hL := hC.lws
  have hIm := hC.2.1.ims
  have tii := tn hi.1
  have k0 : (0 : Int32).toInt = 0 := by decide
  have k1 : (1 : Int32).toInt = 1 := by decide
  have k2 : (2 : Int32).toInt = 2 := by decide
  have k3 : (3 : Int32).toInt = 3 := by decide
  refine lv_aload_n hx hb dL_law_462 rfl (lv_at hl 1 rfl) ?_
  refine lv_aload_n hx hb dL_law_463 rfl (lv_at hl 0 rfl) ?_
  refine lv_iload_n hx hb dL_law_464 rfl (lv_at hl 3 rfl) ?_
  refine lv_iconst (v := (1)) hx hb dL_law_465 (by decide) ?_
  refine lv_iadd hx hb dL_law_466 ?_
  refine lv_topi (fun v1 ev1 => ?_)
  have tv1 := a_add ev1 (by omega) (by omega)
  refine va_sld hx hb hX hbl hbA hS (i := v1) (vp_in_iff.mpr (by omega)) dL_law_467 ?_
  rw [show Int32.toNatClampNeg v1 = ii.toNatClampNeg + 1 from by have tt := tn (i := v1) (by omega); omega]
  refine lv_aload_n hx hb dL_law_468 rfl (lv_at hl 0 rfl) ?_
  refine lv_iload_n hx hb dL_law_469 rfl (lv_at hl 3 rfl) ?_
  refine lv_iconst (v := (2)) hx hb dL_law_470 (by decide) ?_
  refine lv_iadd hx hb dL_law_471 ?_
  refine lv_topi (fun v2 ev2 => ?_)
  have tv2 := a_add ev2 (by omega) (by omega)
  refine va_sld hx hb hX hbl hbA hS (i := v2) (vp_in_iff.mpr (by omega)) dL_law_472 ?_
  rw [show Int32.toNatClampNeg v2 = ii.toNatClampNeg + 2 from by have tt := tn (i := v2) (by omega); omega]
  refine lv_aload_n hx hb dL_law_473 rfl (lv_at hl 0 rfl) ?_
  refine lv_iload_n hx hb dL_law_474 rfl (lv_at hl 3 rfl) ?_
  refine lv_iconst (v := (3)) hx hb dL_law_475 (by decide) ?_
  refine lv_iadd hx hb dL_law_476 ?_
  refine lv_topi (fun v3 ev3 => ?_)
  have tv3 := a_add ev3 (by omega) (by omega)
  refine va_sld hx hb hX hbl hbA hS (i := v3) (vp_in_iff.mpr (by omega)) dL_law_477 ?_
  rw [show Int32.toNatClampNeg v3 = ii.toNatClampNeg + 3 from by have tt := tn (i := v3) (by omega); omega]
  refine m_calli (m_runV (0) (As := [.int (xs (ii.toNatClampNeg + 1)), .int (xs (ii.toNatClampNeg + 2)), .int (xs (ii.toNatClampNeg + 3))]) (rest := []) hx hb hml hown hts hE hM hS hA ce_X9_sets tb_504 (V_X9_sets l D A ad ns I L G (xs (ii.toNatClampNeg + 1)) (xs (ii.toNatClampNeg + 2)) (xs (ii.toNatClampNeg + 3)) hG hI) rfl rfl ⟨Nat.le_of_ble_eq_true rfl, Nat.le_of_ble_eq_true rfl⟩ (hG.1 0 (by decide)) rfl rfl (by decide) rfl hl.1 rfl (Nat.le_of_ble_eq_true rfl) dL_law_478 ⟨(by show _ + _ ≤ 600000; omega), (by show _ + _ ≤ 7302250; omega)⟩) hS (fun r4 u H locs hw hM hS => ?_)
  obtain ⟨I1, L1, rfl, hI, hk1⟩ := hw
  have hM : Mem D A ad ns I1 L1 G H := hM
  replace hC : CW ns I1 G := cw_keep hC (hk1.get 0 14 rfl)
  replace hLM : LWM I1 := hLM.out (hk1.out rfl)
  refine lv_pop hx hb dL_law_481 rfl ?_
  refine lv_aload_n hx hb dL_law_482 rfl (lv_at hl 2 rfl) ?_
  refine lv_aload_n hx hb dL_law_483 rfl (lv_at hl 0 rfl) ?_
  refine lv_iload_n hx hb dL_law_484 rfl (lv_at hl 3 rfl) ?_
  refine lv_iconst (v := (1)) hx hb dL_law_485 (by decide) ?_
  refine lv_iadd hx hb dL_law_486 ?_
  refine lv_topi (fun v5 ev5 => ?_)
  have tv5 := a_add ev5 (by omega) (by omega)
  refine va_sld hx hb hX hbl hbA hS (i := v5) (vp_in_iff.mpr (by omega)) dL_law_487 ?_
  rw [show Int32.toNatClampNeg v5 = ii.toNatClampNeg + 1 from by have tt := tn (i := v5) (by omega); omega]
  refine lv_aload_n hx hb dL_law_488 rfl (lv_at hl 0 rfl) ?_
  refine lv_iload_n hx hb dL_law_489 rfl (lv_at hl 3 rfl) ?_
  refine lv_iconst (v := (2)) hx hb dL_law_490 (by decide) ?_
  refine lv_iadd hx hb dL_law_491 ?_
  refine lv_topi (fun v6 ev6 => ?_)
  have tv6 := a_add ev6 (by omega) (by omega)
  refine va_sld hx hb hX hbl hbA hS (i := v6) (vp_in_iff.mpr (by omega)) dL_law_492 ?_
  rw [show Int32.toNatClampNeg v6 = ii.toNatClampNeg + 2 from by have tt := tn (i := v6) (by omega); omega]
  refine lv_aload_n hx hb dL_law_493 rfl (lv_at hl 0 rfl) ?_
  refine lv_iload_n hx hb dL_law_494 rfl (lv_at hl 3 rfl) ?_
  refine lv_iconst (v := (3)) hx hb dL_law_495 (by decide) ?_
  refine lv_iadd hx hb dL_law_496 ?_
  refine lv_topi (fun v7 ev7 => ?_)
  have tv7 := a_add ev7 (by omega) (by omega)
  refine va_sld hx hb hX hbl hbA hS (i := v7) (vp_in_iff.mpr (by omega)) dL_law_497 ?_
  rw [show Int32.toNatClampNeg v7 = ii.toNatClampNeg + 3 from by have tt := tn (i := v7) (by omega); omega]
  refine m_calli (m_runV (1000) (As := [.int (xs (ii.toNatClampNeg + 1)), .int (xs (ii.toNatClampNeg + 2)), .int (xs (ii.toNatClampNeg + 3))]) (rest := []) hx hb hml hown hts hE hM hS hA ce_X10_sets tb_1458 (V_X10_sets l D A ad ns I1 L1 G (xs (ii.toNatClampNeg + 1)) (xs (ii.toNatClampNeg + 2)) (xs (ii.toNatClampNeg + 3)) hJ hI) rfl rfl ⟨Nat.le_of_ble_eq_true rfl, Nat.le_of_ble_eq_true rfl⟩ hJ.1 rfl rfl (by decide) rfl hl.1 rfl (Nat.le_of_ble_eq_true rfl) dL_law_498 ⟨(by show _ + _ ≤ 600000; omega), (by show _ + _ ≤ 7302250; omega)⟩) hS (fun r8 u H locs hw hM hS => ?_)
  obtain ⟨I2, L2, rfl, hI, hk2⟩ := hw
  have hM : Mem D A ad ns I2 L2 G H := hM
  replace hC : CW ns I2 G := cw_keep hC (hk2.get 0 14 rfl)
  replace hLM : LWM I2 := hLM.kp hk2 rfl rfl
  refine lv_pop hx hb dL_law_501 rfl ?_
  refine lv_goto (tgt := 1531) hx hb dL_law_502 (by decide) ?_
  exact kk ad ns I2 L2 G _ _ _ _ _ (by omega) (by omega) ⟨hC, hJ, hI, hLM, trivial⟩ hM hS (lv_sub hl [0, 1, 2, 3] rfl)
theorem dL_law_505 : decode cL_law 505 = .ok (.aload_n 1, 1) := by decide +kernel
theorem dL_law_506 : decode cL_law 506 = .ok (.aload_n 0, 1) := by decide +kernel
theorem dL_law_507 : decode cL_law 507 = .ok (.iload_n 3, 1) := by decide +kernel
theorem dL_law_508 : decode cL_law 508 = .ok (.iconst 1, 1) := by decide +kernel
theorem dL_law_509 : decode cL_law 509 = .ok (.iadd, 1) := by decide +kernel
theorem dL_law_510 : decode cL_law 510 = .ok (.iaload, 1) := by decide +kernel
theorem dL_law_511 : decode cL_law 511 = .ok (.aload_n 0, 1) := by decide +kernel
theorem dL_law_512 : decode cL_law 512 = .ok (.iload_n 3, 1) := by decide +kernel
theorem dL_law_513 : decode cL_law 513 = .ok (.iconst 2, 1) := by decide +kernel
theorem dL_law_514 : decode cL_law 514 = .ok (.iadd, 1) := by decide +kernel
theorem dL_law_515 : decode cL_law 515 = .ok (.iaload, 1) := by decide +kernel
theorem dL_law_516 : decode cL_law 516 = .ok (.aload_n 0, 1) := by decide +kernel
theorem dL_law_517 : decode cL_law 517 = .ok (.iload_n 3, 1) := by decide +kernel
theorem dL_law_518 : decode cL_law 518 = .ok (.iconst 3, 1) := by decide +kernel
theorem dL_law_519 : decode cL_law 519 = .ok (.iadd, 1) := by decide +kernel
theorem dL_law_520 : decode cL_law 520 = .ok (.iaload, 1) := by decide +kernel
theorem dL_law_521 : decode cL_law 521 = .ok (.aload_n 0, 1) := by decide +kernel
theorem dL_law_522 : decode cL_law 522 = .ok (.iload_n 3, 1) := by decide +kernel
theorem dL_law_523 : decode cL_law 523 = .ok (.iconst 4, 1) := by decide +kernel
theorem dL_law_524 : decode cL_law 524 = .ok (.iadd, 1) := by decide +kernel
theorem dL_law_525 : decode cL_law 525 = .ok (.iaload, 1) := by decide +kernel
theorem dL_law_526 : decode cL_law 526 = .ok (.aload_n 0, 1) := by decide +kernel
theorem dL_law_527 : decode cL_law 527 = .ok (.iload_n 3, 1) := by decide +kernel
theorem dL_law_528 : decode cL_law 528 = .ok (.iconst 5, 1) := by decide +kernel
theorem dL_law_529 : decode cL_law 529 = .ok (.iadd, 1) := by decide +kernel
theorem dL_law_530 : decode cL_law 530 = .ok (.iaload, 1) := by decide +kernel
theorem dL_law_531 : decode cL_law 531 = .ok (.aload_n 0, 1) := by decide +kernel
theorem dL_law_532 : decode cL_law 532 = .ok (.iload_n 3, 1) := by decide +kernel
theorem dL_law_533 : decode cL_law 533 = .ok (.bipush 6, 2) := by decide +kernel
theorem dL_law_535 : decode cL_law 535 = .ok (.iadd, 1) := by decide +kernel
theorem dL_law_536 : decode cL_law 536 = .ok (.iaload, 1) := by decide +kernel
theorem dL_law_537 : decode cL_law 537 = .ok (.invokevirtual 38, 3) := by decide +kernel
theorem dL_law_540 : decode cL_law 540 = .ok (.pop, 1) := by decide +kernel
theorem dL_law_541 : decode cL_law 541 = .ok (.aload_n 2, 1) := by decide +kernel
theorem dL_law_542 : decode cL_law 542 = .ok (.aload_n 0, 1) := by decide +kernel
theorem dL_law_543 : decode cL_law 543 = .ok (.iload_n 3, 1) := by decide +kernel
theorem dL_law_544 : decode cL_law 544 = .ok (.iconst 1, 1) := by decide +kernel
theorem dL_law_545 : decode cL_law 545 = .ok (.iadd, 1) := by decide +kernel
theorem dL_law_546 : decode cL_law 546 = .ok (.iaload, 1) := by decide +kernel
theorem dL_law_547 : decode cL_law 547 = .ok (.aload_n 0, 1) := by decide +kernel
theorem dL_law_548 : decode cL_law 548 = .ok (.iload_n 3, 1) := by decide +kernel
theorem dL_law_549 : decode cL_law 549 = .ok (.iconst 2, 1) := by decide +kernel
theorem dL_law_550 : decode cL_law 550 = .ok (.iadd, 1) := by decide +kernel
theorem dL_law_551 : decode cL_law 551 = .ok (.iaload, 1) := by decide +kernel
theorem dL_law_552 : decode cL_law 552 = .ok (.aload_n 0, 1) := by decide +kernel
theorem dL_law_553 : decode cL_law 553 = .ok (.iload_n 3, 1) := by decide +kernel
theorem dL_law_554 : decode cL_law 554 = .ok (.iconst 3, 1) := by decide +kernel
theorem dL_law_555 : decode cL_law 555 = .ok (.iadd, 1) := by decide +kernel
theorem dL_law_556 : decode cL_law 556 = .ok (.iaload, 1) := by decide +kernel
theorem dL_law_557 : decode cL_law 557 = .ok (.aload_n 0, 1) := by decide +kernel
theorem dL_law_558 : decode cL_law 558 = .ok (.iload_n 3, 1) := by decide +kernel
theorem dL_law_559 : decode cL_law 559 = .ok (.iconst 4, 1) := by decide +kernel
theorem dL_law_560 : decode cL_law 560 = .ok (.iadd, 1) := by decide +kernel
theorem dL_law_561 : decode cL_law 561 = .ok (.iaload, 1) := by decide +kernel
theorem dL_law_562 : decode cL_law 562 = .ok (.aload_n 0, 1) := by decide +kernel
theorem dL_law_563 : decode cL_law 563 = .ok (.iload_n 3, 1) := by decide +kernel
theorem dL_law_564 : decode cL_law 564 = .ok (.iconst 5, 1) := by decide +kernel
theorem dL_law_565 : decode cL_law 565 = .ok (.iadd, 1) := by decide +kernel
theorem dL_law_566 : decode cL_law 566 = .ok (.iaload, 1) := by decide +kernel
theorem dL_law_567 : decode cL_law 567 = .ok (.aload_n 0, 1) := by decide +kernel
theorem dL_law_568 : decode cL_law 568 = .ok (.iload_n 3, 1) := by decide +kernel
theorem dL_law_569 : decode cL_law 569 = .ok (.bipush 6, 2) := by decide +kernel
theorem dL_law_571 : decode cL_law 571 = .ok (.iadd, 1) := by decide +kernel
theorem dL_law_572 : decode cL_law 572 = .ok (.iaload, 1) := by decide +kernel
theorem dL_law_573 : decode cL_law 573 = .ok (.invokevirtual 42, 3) := by decide +kernel
theorem dL_law_576 : decode cL_law 576 = .ok (.pop, 1) := by decide +kernel
theorem dL_law_577 : decode cL_law 577 = .ok (.goto 954, 3) := by decide +kernel
set_option maxHeartbeats 4000000 in
theorem lc_5 {p : Program} {l : Launch} {e : Env} {s : State} {m : MethodId} {below : List Frame} {meth : Method} {c : Code} {b N : Nat} {ii : Int32} {xs : Nat → Int32} {D : va_G} {A : Nat → Prop} {ad : Nat → Nat} {ns : List Nat} {I : MI} {L : ML} {G : MG} {H : Heap} {locs : List Loc} {ls : Array Slot} {cells slots : Nat} (F : LF p s m meth c b N xs D A) (hN : N ≤ 4096) (hi : 0 ≤ ii.toInt ∧ ii.toInt + 8 ≤ N) (hc : cells ≤ 500000) (hs : slots ≤ 7000000) (fw : WD ns I G) (hM : Mem D A ad ns I L G H) (hS : va_S A s.heap H locs) (hl : lv_has ls 4 [(0, .ref (b)), (1, .ref (ad (0))), (2, .ref (ad (1000))), (3, .int (ii))]) (kk : LK p l e s m below meth c b ii D A cells slots) : W p l e room_1 s m #[Value.ref b] below meth c H locs cells slots (lw_Z below #[Value.ref b] s) (F0 m 505 ls []) := by
  obtain ⟨hx, hb, hml, hown, hts, hX, hbl, hbA, hA, hE⟩ := F
  obtain ⟨hC, hJ, hI, hLM, hRel⟩ := fw
  have hG := hC.1
  have hL := hC.lws
  have hIm := hC.2.1.ims
  have tii := tn hi.1
  have k0 : (0 : Int32).toInt = 0 := by decide
  have k1 : (1 : Int32).toInt = 1 := by decide
  have k2 : (2 : Int32).toInt = 2 := by decide
  have k3 : (3 : Int32).toInt = 3 := by decide
  have k4 : (4 : Int32).toInt = 4 := by decide
  have k5 : (5 : Int32).toInt = 5 := by decide
  have k6 : (6 : Int32).toInt = 6 := by decide
  refine lv_aload_n hx hb dL_law_505 rfl (lv_at hl 1 rfl) ?_
  refine lv_aload_n hx hb dL_law_506 rfl (lv_at hl 0 rfl) ?_
  refine lv_iload_n hx hb dL_law_507 rfl (lv_at hl 3 rfl) ?_
  refine lv_iconst (v := (1)) hx hb dL_law_508 (by decide) ?_
  refine lv_iadd hx hb dL_law_509 ?_
  refine lv_topi (fun v1 ev1 => ?_)
  have tv1 := a_add ev1 (by omega) (by omega)
  refine va_sld hx hb hX hbl hbA hS (i := v1) (vp_in_iff.mpr (by omega)) dL_law_510 ?_
  rw [show Int32.toNatClampNeg v1 = ii.toNatClampNeg + 1 from by have tt := tn (i := v1) (by omega); omega]
  refine lv_aload_n hx hb dL_law_511 rfl (lv_at hl 0 rfl) ?_
  refine lv_iload_n hx hb dL_law_512 rfl (lv_at hl 3 rfl) ?_
  refine lv_iconst (v := (2)) hx hb dL_law_513 (by decide) ?_
  refine lv_iadd hx hb dL_law_514 ?_
  refine lv_topi (fun v2 ev2 => ?_)
  have tv2 := a_add ev2 (by omega) (by omega)
  refine va_sld hx hb hX hbl hbA hS (i := v2) (vp_in_iff.mpr (by omega)) dL_law_515 ?_
  rw [show Int32.toNatClampNeg v2 = ii.toNatClampNeg + 2 from by have tt := tn (i := v2) (by omega); omega]
  refine lv_aload_n hx hb dL_law_516 rfl (lv_at hl 0 rfl) ?_
  refine lv_iload_n hx hb dL_law_517 rfl (lv_at hl 3 rfl) ?_
  refine lv_iconst (v := (3)) hx hb dL_law_518 (by decide) ?_
  refine lv_iadd hx hb dL_law_519 ?_
  refine lv_topi (fun v3 ev3 => ?_)
  have tv3 := a_add ev3 (by omega) (by omega)
  refine va_sld hx hb hX hbl hbA hS (i := v3) (vp_in_iff.mpr (by omega)) dL_law_520 ?_
  rw [show Int32.toNatClampNeg v3 = ii.toNatClampNeg + 3 from by have tt := tn (i := v3) (by omega); omega]
  refine lv_aload_n hx hb dL_law_521 rfl (lv_at hl 0 rfl) ?_
  refine lv_iload_n hx hb dL_law_522 rfl (lv_at hl 3 rfl) ?_
  refine lv_iconst (v := (4)) hx hb dL_law_523 (by decide) ?_
  refine lv_iadd hx hb dL_law_524 ?_
  refine lv_topi (fun v4 ev4 => ?_)
  have tv4 := a_add ev4 (by omega) (by omega)
  refine va_sld hx hb hX hbl hbA hS (i := v4) (vp_in_iff.mpr (by omega)) dL_law_525 ?_
  rw [show Int32.toNatClampNeg v4 = ii.toNatClampNeg + 4 from by have tt := tn (i := v4) (by omega); omega]
  refine lv_aload_n hx hb dL_law_526 rfl (lv_at hl 0 rfl) ?_
  refine lv_iload_n hx hb dL_law_527 rfl (lv_at hl 3 rfl) ?_
  refine lv_iconst (v := (5)) hx hb dL_law_528 (by decide) ?_
  refine lv_iadd hx hb dL_law_529 ?_
  refine lv_topi (fun v5 ev5 => ?_)
  have tv5 := a_add ev5 (by omega) (by omega)
  refine va_sld hx hb hX hbl hbA hS (i := v5) (vp_in_iff.mpr (by omega)) dL_law_530 ?_
  rw [show Int32.toNatClampNeg v5 = ii.toNatClampNeg + 5 from by have tt := tn (i := v5) (by omega); omega]
  refine lv_aload_n hx hb dL_law_531 rfl (lv_at hl 0 rfl) ?_
  refine lv_iload_n hx hb dL_law_532 rfl (lv_at hl 3 rfl) ?_
  refine lv_bipush (v := (6)) hx hb dL_law_533 (by decide) ?_
  refine lv_iadd hx hb dL_law_535 ?_
  refine lv_topi (fun v6 ev6 => ?_)
  have tv6 := a_add ev6 (by omega) (by omega)
  refine va_sld hx hb hX hbl hbA hS (i := v6) (vp_in_iff.mpr (by omega)) dL_law_536 ?_
  rw [show Int32.toNatClampNeg v6 = ii.toNatClampNeg + 6 from by have tt := tn (i := v6) (by omega); omega]
  refine m_calli (m_runV (0) (As := [.int (xs (ii.toNatClampNeg + 1)), .int (xs (ii.toNatClampNeg + 2)), .int (xs (ii.toNatClampNeg + 3)), .int (xs (ii.toNatClampNeg + 4)), .int (xs (ii.toNatClampNeg + 5)), .int (xs (ii.toNatClampNeg + 6))]) (rest := []) hx hb hml hown hts hE hM hS hA ce_X9_yard tb_520 (V_X9_yard l D A ad ns I L G (xs (ii.toNatClampNeg + 1)) (xs (ii.toNatClampNeg + 2)) (xs (ii.toNatClampNeg + 3)) (xs (ii.toNatClampNeg + 4)) (xs (ii.toNatClampNeg + 5)) (xs (ii.toNatClampNeg + 6)) hG hI) rfl rfl ⟨Nat.le_of_ble_eq_true rfl, Nat.le_of_ble_eq_true rfl⟩ (hG.1 0 (by decide)) rfl rfl (by decide) rfl hl.1 rfl (Nat.le_of_ble_eq_true rfl) dL_law_537 ⟨(by show _ + _ ≤ 600000; omega), (by show _ + _ ≤ 7302250; omega)⟩) hS (fun r7 u H locs hw hM hS => ?_)
  obtain ⟨I1, L1, rfl, hI, hk1⟩ := hw
  have hM : Mem D A ad ns I1 L1 G H := hM
  replace hC : CW ns I1 G := cw_keep hC (hk1.get 0 14 rfl)
  replace hLM : LWM I1 := hLM.out (hk1.out rfl)
  refine lv_pop hx hb dL_law_540 rfl ?_
  refine lv_aload_n hx hb dL_law_541 rfl (lv_at hl 2 rfl) ?_
  refine lv_aload_n hx hb dL_law_542 rfl (lv_at hl 0 rfl) ?_
  refine lv_iload_n hx hb dL_law_543 rfl (lv_at hl 3 rfl) ?_
  refine lv_iconst (v := (1)) hx hb dL_law_544 (by decide) ?_
  refine lv_iadd hx hb dL_law_545 ?_
  refine lv_topi (fun v8 ev8 => ?_)
  have tv8 := a_add ev8 (by omega) (by omega)
  refine va_sld hx hb hX hbl hbA hS (i := v8) (vp_in_iff.mpr (by omega)) dL_law_546 ?_
  rw [show Int32.toNatClampNeg v8 = ii.toNatClampNeg + 1 from by have tt := tn (i := v8) (by omega); omega]
  refine lv_aload_n hx hb dL_law_547 rfl (lv_at hl 0 rfl) ?_
  refine lv_iload_n hx hb dL_law_548 rfl (lv_at hl 3 rfl) ?_
  refine lv_iconst (v := (2)) hx hb dL_law_549 (by decide) ?_
  refine lv_iadd hx hb dL_law_550 ?_
  refine lv_topi (fun v9 ev9 => ?_)
  have tv9 := a_add ev9 (by omega) (by omega)
  refine va_sld hx hb hX hbl hbA hS (i := v9) (vp_in_iff.mpr (by omega)) dL_law_551 ?_
  rw [show Int32.toNatClampNeg v9 = ii.toNatClampNeg + 2 from by have tt := tn (i := v9) (by omega); omega]
  refine lv_aload_n hx hb dL_law_552 rfl (lv_at hl 0 rfl) ?_
  refine lv_iload_n hx hb dL_law_553 rfl (lv_at hl 3 rfl) ?_
  refine lv_iconst (v := (3)) hx hb dL_law_554 (by decide) ?_
  refine lv_iadd hx hb dL_law_555 ?_
  refine lv_topi (fun v10 ev10 => ?_)
  have tv10 := a_add ev10 (by omega) (by omega)
  refine va_sld hx hb hX hbl hbA hS (i := v10) (vp_in_iff.mpr (by omega)) dL_law_556 ?_
  rw [show Int32.toNatClampNeg v10 = ii.toNatClampNeg + 3 from by have tt := tn (i := v10) (by omega); omega]
  refine lv_aload_n hx hb dL_law_557 rfl (lv_at hl 0 rfl) ?_
  refine lv_iload_n hx hb dL_law_558 rfl (lv_at hl 3 rfl) ?_
  refine lv_iconst (v := (4)) hx hb dL_law_559 (by decide) ?_
  refine lv_iadd hx hb dL_law_560 ?_
  refine lv_topi (fun v11 ev11 => ?_)
  have tv11 := a_add ev11 (by omega) (by omega)
  refine va_sld hx hb hX hbl hbA hS (i := v11) (vp_in_iff.mpr (by omega)) dL_law_561 ?_
  rw [show Int32.toNatClampNeg v11 = ii.toNatClampNeg + 4 from by have tt := tn (i := v11) (by omega); omega]
  refine lv_aload_n hx hb dL_law_562 rfl (lv_at hl 0 rfl) ?_
  refine lv_iload_n hx hb dL_law_563 rfl (lv_at hl 3 rfl) ?_
  refine lv_iconst (v := (5)) hx hb dL_law_564 (by decide) ?_
  refine lv_iadd hx hb dL_law_565 ?_
  refine lv_topi (fun v12 ev12 => ?_)
  have tv12 := a_add ev12 (by omega) (by omega)
  refine va_sld hx hb hX hbl hbA hS (i := v12) (vp_in_iff.mpr (by omega)) dL_law_566 ?_
  rw [show Int32.toNatClampNeg v12 = ii.toNatClampNeg + 5 from by have tt := tn (i := v12) (by omega); omega]
  refine lv_aload_n hx hb dL_law_567 rfl (lv_at hl 0 rfl) ?_
  refine lv_iload_n hx hb dL_law_568 rfl (lv_at hl 3 rfl) ?_
  refine lv_bipush (v := (6)) hx hb dL_law_569 (by decide) ?_
  refine lv_iadd hx hb dL_law_571 ?_
  refine lv_topi (fun v13 ev13 => ?_)
  have tv13 := a_add ev13 (by omega) (by omega)
  refine va_sld hx hb hX hbl hbA hS (i := v13) (vp_in_iff.mpr (by omega)) dL_law_572 ?_
  rw [show Int32.toNatClampNeg v13 = ii.toNatClampNeg + 6 from by have tt := tn (i := v13) (by omega); omega]
  refine m_calli (m_runV (1000) (As := [.int (xs (ii.toNatClampNeg + 1)), .int (xs (ii.toNatClampNeg + 2)), .int (xs (ii.toNatClampNeg + 3)), .int (xs (ii.toNatClampNeg + 4)), .int (xs (ii.toNatClampNeg + 5)), .int (xs (ii.toNatClampNeg + 6))]) (rest := []) hx hb hml hown hts hE hM hS hA ce_X10_yard tb_1468 (V_X10_yard l D A ad ns I1 L1 G (xs (ii.toNatClampNeg + 1)) (xs (ii.toNatClampNeg + 2)) (xs (ii.toNatClampNeg + 3)) (xs (ii.toNatClampNeg + 4)) (xs (ii.toNatClampNeg + 5)) (xs (ii.toNatClampNeg + 6)) hJ hI) rfl rfl ⟨Nat.le_of_ble_eq_true rfl, Nat.le_of_ble_eq_true rfl⟩ hJ.1 rfl rfl (by decide) rfl hl.1 rfl (Nat.le_of_ble_eq_true rfl) dL_law_573 ⟨(by show _ + _ ≤ 600000; omega), (by show _ + _ ≤ 7302250; omega)⟩) hS (fun r14 u H locs hw hM hS => ?_)
  obtain ⟨I2, L2, rfl, hI, hk2⟩ := hw
  have hM : Mem D A ad ns I2 L2 G H := hM
  replace hC : CW ns I2 G := cw_keep hC (hk2.get 0 14 rfl)
  replace hLM : LWM I2 := hLM.kp hk2 rfl rfl
  refine lv_pop hx hb dL_law_576 rfl ?_
  refine lv_goto (tgt := 1531) hx hb dL_law_577 (by decide) ?_
  exact kk ad ns I2 L2 G _ _ _ _ _ (by omega) (by omega) ⟨hC, hJ, hI, hLM, trivial⟩ hM hS (lv_sub hl [0, 1, 2, 3] rfl)
theorem dL_law_580 : decode cL_law 580 = .ok (.aload_n 1, 1) := by decide +kernel
theorem dL_law_581 : decode cL_law 581 = .ok (.aload_n 0, 1) := by decide +kernel
theorem dL_law_582 : decode cL_law 582 = .ok (.iload_n 3, 1) := by decide +kernel
theorem dL_law_583 : decode cL_law 583 = .ok (.iconst 1, 1) := by decide +kernel
theorem dL_law_584 : decode cL_law 584 = .ok (.iadd, 1) := by decide +kernel
theorem dL_law_585 : decode cL_law 585 = .ok (.iaload, 1) := by decide +kernel
theorem dL_law_586 : decode cL_law 586 = .ok (.aload_n 0, 1) := by decide +kernel
theorem dL_law_587 : decode cL_law 587 = .ok (.iload_n 3, 1) := by decide +kernel
theorem dL_law_588 : decode cL_law 588 = .ok (.iconst 2, 1) := by decide +kernel
theorem dL_law_589 : decode cL_law 589 = .ok (.iadd, 1) := by decide +kernel
theorem dL_law_590 : decode cL_law 590 = .ok (.iaload, 1) := by decide +kernel
theorem dL_law_591 : decode cL_law 591 = .ok (.aload_n 0, 1) := by decide +kernel
theorem dL_law_592 : decode cL_law 592 = .ok (.iload_n 3, 1) := by decide +kernel
theorem dL_law_593 : decode cL_law 593 = .ok (.iconst 3, 1) := by decide +kernel
theorem dL_law_594 : decode cL_law 594 = .ok (.iadd, 1) := by decide +kernel
theorem dL_law_595 : decode cL_law 595 = .ok (.iaload, 1) := by decide +kernel
theorem dL_law_596 : decode cL_law 596 = .ok (.invokevirtual 43, 3) := by decide +kernel
theorem dL_law_599 : decode cL_law 599 = .ok (.pop, 1) := by decide +kernel
theorem dL_law_600 : decode cL_law 600 = .ok (.aload_n 2, 1) := by decide +kernel
theorem dL_law_601 : decode cL_law 601 = .ok (.aload_n 0, 1) := by decide +kernel
theorem dL_law_602 : decode cL_law 602 = .ok (.iload_n 3, 1) := by decide +kernel
theorem dL_law_603 : decode cL_law 603 = .ok (.iconst 1, 1) := by decide +kernel
theorem dL_law_604 : decode cL_law 604 = .ok (.iadd, 1) := by decide +kernel
theorem dL_law_605 : decode cL_law 605 = .ok (.iaload, 1) := by decide +kernel
theorem dL_law_606 : decode cL_law 606 = .ok (.aload_n 0, 1) := by decide +kernel
theorem dL_law_607 : decode cL_law 607 = .ok (.iload_n 3, 1) := by decide +kernel
theorem dL_law_608 : decode cL_law 608 = .ok (.iconst 2, 1) := by decide +kernel
theorem dL_law_609 : decode cL_law 609 = .ok (.iadd, 1) := by decide +kernel
theorem dL_law_610 : decode cL_law 610 = .ok (.iaload, 1) := by decide +kernel
theorem dL_law_611 : decode cL_law 611 = .ok (.aload_n 0, 1) := by decide +kernel
theorem dL_law_612 : decode cL_law 612 = .ok (.iload_n 3, 1) := by decide +kernel
theorem dL_law_613 : decode cL_law 613 = .ok (.iconst 3, 1) := by decide +kernel
theorem dL_law_614 : decode cL_law 614 = .ok (.iadd, 1) := by decide +kernel
theorem dL_law_615 : decode cL_law 615 = .ok (.iaload, 1) := by decide +kernel
theorem dL_law_616 : decode cL_law 616 = .ok (.invokevirtual 46, 3) := by decide +kernel
theorem dL_law_619 : decode cL_law 619 = .ok (.pop, 1) := by decide +kernel
theorem dL_law_620 : decode cL_law 620 = .ok (.goto 911, 3) := by decide +kernel
set_option maxHeartbeats 4000000 in
theorem lc_6 {p : Program} {l : Launch} {e : Env} {s : State} {m : MethodId} {below : List Frame} {meth : Method} {c : Code} {b N : Nat} {ii : Int32} {xs : Nat → Int32} {D : va_G} {A : Nat → Prop} {ad : Nat → Nat} {ns : List Nat} {I : MI} {L : ML} {G : MG} {H : Heap} {locs : List Loc} {ls : Array Slot} {cells slots : Nat} (F : LF p s m meth c b N xs D A) (hN : N ≤ 4096) (hi : 0 ≤ ii.toInt ∧ ii.toInt + 8 ≤ N) (hc : cells ≤ 500000) (hs : slots ≤ 7000000) (fw : WD ns I G) (hM : Mem D A ad ns I L G H) (hS : va_S A s.heap H locs) (hl : lv_has ls 4 [(0, .ref (b)), (1, .ref (ad (0))), (2, .ref (ad (1000))), (3, .int (ii))]) (kk : LK p l e s m below meth c b ii D A cells slots) : W p l e room_1 s m #[Value.ref b] below meth c H locs cells slots (lw_Z below #[Value.ref b] s) (F0 m 580 ls []) := by
  obtain ⟨hx, hb, hml, hown, hts, hX, hbl, hbA, hA, hE⟩ := F
  obtain ⟨hC, hJ, hI, hLM, hRel⟩ := fw
  have hG := hC.1
  have hL := hC.lws
  have hIm := hC.2.1.ims
  have tii := tn hi.1
  have k0 : (0 : Int32).toInt = 0 := by decide
  have k1 : (1 : Int32).toInt = 1 := by decide
  have k2 : (2 : Int32).toInt = 2 := by decide
  have k3 : (3 : Int32).toInt = 3 := by decide
  refine lv_aload_n hx hb dL_law_580 rfl (lv_at hl 1 rfl) ?_
  refine lv_aload_n hx hb dL_law_581 rfl (lv_at hl 0 rfl) ?_
  refine lv_iload_n hx hb dL_law_582 rfl (lv_at hl 3 rfl) ?_
  refine lv_iconst (v := (1)) hx hb dL_law_583 (by decide) ?_
  refine lv_iadd hx hb dL_law_584 ?_
  refine lv_topi (fun v1 ev1 => ?_)
  have tv1 := a_add ev1 (by omega) (by omega)
  refine va_sld hx hb hX hbl hbA hS (i := v1) (vp_in_iff.mpr (by omega)) dL_law_585 ?_
  rw [show Int32.toNatClampNeg v1 = ii.toNatClampNeg + 1 from by have tt := tn (i := v1) (by omega); omega]
  refine lv_aload_n hx hb dL_law_586 rfl (lv_at hl 0 rfl) ?_
  refine lv_iload_n hx hb dL_law_587 rfl (lv_at hl 3 rfl) ?_
  refine lv_iconst (v := (2)) hx hb dL_law_588 (by decide) ?_
  refine lv_iadd hx hb dL_law_589 ?_
  refine lv_topi (fun v2 ev2 => ?_)
  have tv2 := a_add ev2 (by omega) (by omega)
  refine va_sld hx hb hX hbl hbA hS (i := v2) (vp_in_iff.mpr (by omega)) dL_law_590 ?_
  rw [show Int32.toNatClampNeg v2 = ii.toNatClampNeg + 2 from by have tt := tn (i := v2) (by omega); omega]
  refine lv_aload_n hx hb dL_law_591 rfl (lv_at hl 0 rfl) ?_
  refine lv_iload_n hx hb dL_law_592 rfl (lv_at hl 3 rfl) ?_
  refine lv_iconst (v := (3)) hx hb dL_law_593 (by decide) ?_
  refine lv_iadd hx hb dL_law_594 ?_
  refine lv_topi (fun v3 ev3 => ?_)
  have tv3 := a_add ev3 (by omega) (by omega)
  refine va_sld hx hb hX hbl hbA hS (i := v3) (vp_in_iff.mpr (by omega)) dL_law_595 ?_
  rw [show Int32.toNatClampNeg v3 = ii.toNatClampNeg + 3 from by have tt := tn (i := v3) (by omega); omega]
  refine m_calli (m_runV (0) (As := [.int (xs (ii.toNatClampNeg + 1)), .int (xs (ii.toNatClampNeg + 2)), .int (xs (ii.toNatClampNeg + 3))]) (rest := []) hx hb hml hown hts hE hM hS hA ce_X9_eyes tb_534 (V_X9_eyes l D A ad ns I L G (xs (ii.toNatClampNeg + 1)) (xs (ii.toNatClampNeg + 2)) (xs (ii.toNatClampNeg + 3)) hG hI) rfl rfl ⟨Nat.le_of_ble_eq_true rfl, Nat.le_of_ble_eq_true rfl⟩ (hG.1 0 (by decide)) rfl rfl (by decide) rfl hl.1 rfl (Nat.le_of_ble_eq_true rfl) dL_law_596 ⟨(by show _ + _ ≤ 600000; omega), (by show _ + _ ≤ 7302250; omega)⟩) hS (fun r4 u H locs hw hM hS => ?_)
  obtain ⟨I1, L1, rfl, hI, hk1⟩ := hw
  have hM : Mem D A ad ns I1 L1 G H := hM
  replace hC : CW ns I1 G := cw_keep hC (hk1.get 0 14 rfl)
  replace hLM : LWM I1 := hLM.out (hk1.out rfl)
  refine lv_pop hx hb dL_law_599 rfl ?_
  refine lv_aload_n hx hb dL_law_600 rfl (lv_at hl 2 rfl) ?_
  refine lv_aload_n hx hb dL_law_601 rfl (lv_at hl 0 rfl) ?_
  refine lv_iload_n hx hb dL_law_602 rfl (lv_at hl 3 rfl) ?_
  refine lv_iconst (v := (1)) hx hb dL_law_603 (by decide) ?_
  refine lv_iadd hx hb dL_law_604 ?_
  refine lv_topi (fun v5 ev5 => ?_)
  have tv5 := a_add ev5 (by omega) (by omega)
  refine va_sld hx hb hX hbl hbA hS (i := v5) (vp_in_iff.mpr (by omega)) dL_law_605 ?_
  rw [show Int32.toNatClampNeg v5 = ii.toNatClampNeg + 1 from by have tt := tn (i := v5) (by omega); omega]
  refine lv_aload_n hx hb dL_law_606 rfl (lv_at hl 0 rfl) ?_
  refine lv_iload_n hx hb dL_law_607 rfl (lv_at hl 3 rfl) ?_
  refine lv_iconst (v := (2)) hx hb dL_law_608 (by decide) ?_
  refine lv_iadd hx hb dL_law_609 ?_
  refine lv_topi (fun v6 ev6 => ?_)
  have tv6 := a_add ev6 (by omega) (by omega)
  refine va_sld hx hb hX hbl hbA hS (i := v6) (vp_in_iff.mpr (by omega)) dL_law_610 ?_
  rw [show Int32.toNatClampNeg v6 = ii.toNatClampNeg + 2 from by have tt := tn (i := v6) (by omega); omega]
  refine lv_aload_n hx hb dL_law_611 rfl (lv_at hl 0 rfl) ?_
  refine lv_iload_n hx hb dL_law_612 rfl (lv_at hl 3 rfl) ?_
  refine lv_iconst (v := (3)) hx hb dL_law_613 (by decide) ?_
  refine lv_iadd hx hb dL_law_614 ?_
  refine lv_topi (fun v7 ev7 => ?_)
  have tv7 := a_add ev7 (by omega) (by omega)
  refine va_sld hx hb hX hbl hbA hS (i := v7) (vp_in_iff.mpr (by omega)) dL_law_615 ?_
  rw [show Int32.toNatClampNeg v7 = ii.toNatClampNeg + 3 from by have tt := tn (i := v7) (by omega); omega]
  refine m_calli (m_runV (1000) (As := [.int (xs (ii.toNatClampNeg + 1)), .int (xs (ii.toNatClampNeg + 2)), .int (xs (ii.toNatClampNeg + 3))]) (rest := []) hx hb hml hown hts hE hM hS hA ce_X10_eyes tb_1473 (V_X10_eyes l D A ad ns I1 L1 G (xs (ii.toNatClampNeg + 1)) (xs (ii.toNatClampNeg + 2)) (xs (ii.toNatClampNeg + 3)) hJ hI) rfl rfl ⟨Nat.le_of_ble_eq_true rfl, Nat.le_of_ble_eq_true rfl⟩ hJ.1 rfl rfl (by decide) rfl hl.1 rfl (Nat.le_of_ble_eq_true rfl) dL_law_616 ⟨(by show _ + _ ≤ 600000; omega), (by show _ + _ ≤ 7302250; omega)⟩) hS (fun r8 u H locs hw hM hS => ?_)
  obtain ⟨I2, L2, rfl, hI, hk2⟩ := hw
  have hM : Mem D A ad ns I2 L2 G H := hM
  replace hC : CW ns I2 G := cw_keep hC (hk2.get 0 14 rfl)
  replace hLM : LWM I2 := hLM.kp hk2 rfl rfl
  refine lv_pop hx hb dL_law_619 rfl ?_
  refine lv_goto (tgt := 1531) hx hb dL_law_620 (by decide) ?_
  exact kk ad ns I2 L2 G _ _ _ _ _ (by omega) (by omega) ⟨hC, hJ, hI, hLM, trivial⟩ hM hS (lv_sub hl [0, 1, 2, 3] rfl)
theorem dL_law_623 : decode cL_law 623 = .ok (.aload_n 1, 1) := by decide +kernel
theorem dL_law_624 : decode cL_law 624 = .ok (.aload_n 0, 1) := by decide +kernel
theorem dL_law_625 : decode cL_law 625 = .ok (.iload_n 3, 1) := by decide +kernel
theorem dL_law_626 : decode cL_law 626 = .ok (.iconst 1, 1) := by decide +kernel
theorem dL_law_627 : decode cL_law 627 = .ok (.iadd, 1) := by decide +kernel
theorem dL_law_628 : decode cL_law 628 = .ok (.iaload, 1) := by decide +kernel
theorem dL_law_629 : decode cL_law 629 = .ok (.invokevirtual 47, 3) := by decide +kernel
theorem dL_law_632 : decode cL_law 632 = .ok (.pop, 1) := by decide +kernel
theorem dL_law_633 : decode cL_law 633 = .ok (.aload_n 2, 1) := by decide +kernel
theorem dL_law_634 : decode cL_law 634 = .ok (.aload_n 0, 1) := by decide +kernel
theorem dL_law_635 : decode cL_law 635 = .ok (.iload_n 3, 1) := by decide +kernel
theorem dL_law_636 : decode cL_law 636 = .ok (.iconst 1, 1) := by decide +kernel
theorem dL_law_637 : decode cL_law 637 = .ok (.iadd, 1) := by decide +kernel
theorem dL_law_638 : decode cL_law 638 = .ok (.iaload, 1) := by decide +kernel
theorem dL_law_639 : decode cL_law 639 = .ok (.invokevirtual 51, 3) := by decide +kernel
theorem dL_law_642 : decode cL_law 642 = .ok (.pop, 1) := by decide +kernel
theorem dL_law_643 : decode cL_law 643 = .ok (.goto 888, 3) := by decide +kernel
set_option maxHeartbeats 4000000 in
theorem lc_7 {p : Program} {l : Launch} {e : Env} {s : State} {m : MethodId} {below : List Frame} {meth : Method} {c : Code} {b N : Nat} {ii : Int32} {xs : Nat → Int32} {D : va_G} {A : Nat → Prop} {ad : Nat → Nat} {ns : List Nat} {I : MI} {L : ML} {G : MG} {H : Heap} {locs : List Loc} {ls : Array Slot} {cells slots : Nat} (F : LF p s m meth c b N xs D A) (hN : N ≤ 4096) (hi : 0 ≤ ii.toInt ∧ ii.toInt + 8 ≤ N) (hc : cells ≤ 500000) (hs : slots ≤ 7000000) (fw : WD ns I G) (hM : Mem D A ad ns I L G H) (hS : va_S A s.heap H locs) (hl : lv_has ls 4 [(0, .ref (b)), (1, .ref (ad (0))), (2, .ref (ad (1000))), (3, .int (ii))]) (kk : LK p l e s m below meth c b ii D A cells slots) : W p l e room_1 s m #[Value.ref b] below meth c H locs cells slots (lw_Z below #[Value.ref b] s) (F0 m 623 ls []) := by
  obtain ⟨hx, hb, hml, hown, hts, hX, hbl, hbA, hA, hE⟩ := F
  obtain ⟨hC, hJ, hI, hLM, hRel⟩ := fw
  have hG := hC.1
  have hL := hC.lws
  have hIm := hC.2.1.ims
  have tii := tn hi.1
  have k0 : (0 : Int32).toInt = 0 := by decide
  have k1 : (1 : Int32).toInt = 1 := by decide
  refine lv_aload_n hx hb dL_law_623 rfl (lv_at hl 1 rfl) ?_
  refine lv_aload_n hx hb dL_law_624 rfl (lv_at hl 0 rfl) ?_
  refine lv_iload_n hx hb dL_law_625 rfl (lv_at hl 3 rfl) ?_
  refine lv_iconst (v := (1)) hx hb dL_law_626 (by decide) ?_
  refine lv_iadd hx hb dL_law_627 ?_
  refine lv_topi (fun v1 ev1 => ?_)
  have tv1 := a_add ev1 (by omega) (by omega)
  refine va_sld hx hb hX hbl hbA hS (i := v1) (vp_in_iff.mpr (by omega)) dL_law_628 ?_
  rw [show Int32.toNatClampNeg v1 = ii.toNatClampNeg + 1 from by have tt := tn (i := v1) (by omega); omega]
  refine m_calli (m_runV (0) (As := [.int (xs (ii.toNatClampNeg + 1))]) (rest := []) hx hb hml hown hts hE hM hS hA ce_X9_month tb_538 (V_X9_month l D A ad ns I L G (xs (ii.toNatClampNeg + 1)) hG hI) rfl rfl ⟨Nat.le_of_ble_eq_true rfl, Nat.le_of_ble_eq_true rfl⟩ (hG.1 0 (by decide)) rfl rfl (by decide) rfl hl.1 rfl (Nat.le_of_ble_eq_true rfl) dL_law_629 ⟨(by show _ + _ ≤ 600000; omega), (by show _ + _ ≤ 7302250; omega)⟩) hS (fun r2 u H locs hw hM hS => ?_)
  obtain ⟨I1, L1, rfl, hI, hk1⟩ := hw
  have hM : Mem D A ad ns I1 L1 G H := hM
  replace hC : CW ns I1 G := cw_keep hC (hk1.get 0 14 rfl)
  replace hLM : LWM I1 := hLM.out (hk1.out rfl)
  refine lv_pop hx hb dL_law_632 rfl ?_
  refine lv_aload_n hx hb dL_law_633 rfl (lv_at hl 2 rfl) ?_
  refine lv_aload_n hx hb dL_law_634 rfl (lv_at hl 0 rfl) ?_
  refine lv_iload_n hx hb dL_law_635 rfl (lv_at hl 3 rfl) ?_
  refine lv_iconst (v := (1)) hx hb dL_law_636 (by decide) ?_
  refine lv_iadd hx hb dL_law_637 ?_
  refine lv_topi (fun v3 ev3 => ?_)
  have tv3 := a_add ev3 (by omega) (by omega)
  refine va_sld hx hb hX hbl hbA hS (i := v3) (vp_in_iff.mpr (by omega)) dL_law_638 ?_
  rw [show Int32.toNatClampNeg v3 = ii.toNatClampNeg + 1 from by have tt := tn (i := v3) (by omega); omega]
  refine m_calli (m_runV (1000) (As := [.int (xs (ii.toNatClampNeg + 1))]) (rest := []) hx hb hml hown hts hE hM hS hA ce_X10_month tb_1477 (V_X10_month l D A ad ns I1 L1 G (xs (ii.toNatClampNeg + 1)) hJ hI) rfl rfl ⟨Nat.le_of_ble_eq_true rfl, Nat.le_of_ble_eq_true rfl⟩ hJ.1 rfl rfl (by decide) rfl hl.1 rfl (Nat.le_of_ble_eq_true rfl) dL_law_639 ⟨(by show _ + _ ≤ 600000; omega), (by show _ + _ ≤ 7302250; omega)⟩) hS (fun r4 u H locs hw hM hS => ?_)
  obtain ⟨I2, L2, rfl, hI, hk2⟩ := hw
  have hM : Mem D A ad ns I2 L2 G H := hM
  replace hC : CW ns I2 G := cw_keep hC (hk2.get 0 14 rfl)
  replace hLM : LWM I2 := hLM.kp hk2 rfl rfl
  refine lv_pop hx hb dL_law_642 rfl ?_
  refine lv_goto (tgt := 1531) hx hb dL_law_643 (by decide) ?_
  exact kk ad ns I2 L2 G _ _ _ _ _ (by omega) (by omega) ⟨hC, hJ, hI, hLM, trivial⟩ hM hS (lv_sub hl [0, 1, 2, 3] rfl)
theorem dL_law_646 : decode cL_law 646 = .ok (.aload_n 1, 1) := by decide +kernel
theorem dL_law_647 : decode cL_law 647 = .ok (.aload_n 0, 1) := by decide +kernel
theorem dL_law_648 : decode cL_law 648 = .ok (.iload_n 3, 1) := by decide +kernel
theorem dL_law_649 : decode cL_law 649 = .ok (.iconst 1, 1) := by decide +kernel
theorem dL_law_650 : decode cL_law 650 = .ok (.iadd, 1) := by decide +kernel
theorem dL_law_651 : decode cL_law 651 = .ok (.iaload, 1) := by decide +kernel
theorem dL_law_652 : decode cL_law 652 = .ok (.invokevirtual 52, 3) := by decide +kernel
theorem dL_law_655 : decode cL_law 655 = .ok (.pop, 1) := by decide +kernel
theorem dL_law_656 : decode cL_law 656 = .ok (.aload_n 2, 1) := by decide +kernel
theorem dL_law_657 : decode cL_law 657 = .ok (.aload_n 0, 1) := by decide +kernel
theorem dL_law_658 : decode cL_law 658 = .ok (.iload_n 3, 1) := by decide +kernel
theorem dL_law_659 : decode cL_law 659 = .ok (.iconst 1, 1) := by decide +kernel
theorem dL_law_660 : decode cL_law 660 = .ok (.iadd, 1) := by decide +kernel
theorem dL_law_661 : decode cL_law 661 = .ok (.iaload, 1) := by decide +kernel
theorem dL_law_662 : decode cL_law 662 = .ok (.invokevirtual 55, 3) := by decide +kernel
theorem dL_law_665 : decode cL_law 665 = .ok (.pop, 1) := by decide +kernel
theorem dL_law_666 : decode cL_law 666 = .ok (.goto 865, 3) := by decide +kernel
set_option maxHeartbeats 4000000 in
theorem lc_8 {p : Program} {l : Launch} {e : Env} {s : State} {m : MethodId} {below : List Frame} {meth : Method} {c : Code} {b N : Nat} {ii : Int32} {xs : Nat → Int32} {D : va_G} {A : Nat → Prop} {ad : Nat → Nat} {ns : List Nat} {I : MI} {L : ML} {G : MG} {H : Heap} {locs : List Loc} {ls : Array Slot} {cells slots : Nat} (F : LF p s m meth c b N xs D A) (hN : N ≤ 4096) (hi : 0 ≤ ii.toInt ∧ ii.toInt + 8 ≤ N) (hc : cells ≤ 500000) (hs : slots ≤ 7000000) (fw : WD ns I G) (hM : Mem D A ad ns I L G H) (hS : va_S A s.heap H locs) (hl : lv_has ls 4 [(0, .ref (b)), (1, .ref (ad (0))), (2, .ref (ad (1000))), (3, .int (ii))]) (kk : LK p l e s m below meth c b ii D A cells slots) : W p l e room_1 s m #[Value.ref b] below meth c H locs cells slots (lw_Z below #[Value.ref b] s) (F0 m 646 ls []) := by
  obtain ⟨hx, hb, hml, hown, hts, hX, hbl, hbA, hA, hE⟩ := F
  obtain ⟨hC, hJ, hI, hLM, hRel⟩ := fw
  have hG := hC.1
  have hL := hC.lws
  have hIm := hC.2.1.ims
  have tii := tn hi.1
  have k0 : (0 : Int32).toInt = 0 := by decide
  have k1 : (1 : Int32).toInt = 1 := by decide
  refine lv_aload_n hx hb dL_law_646 rfl (lv_at hl 1 rfl) ?_
  refine lv_aload_n hx hb dL_law_647 rfl (lv_at hl 0 rfl) ?_
  refine lv_iload_n hx hb dL_law_648 rfl (lv_at hl 3 rfl) ?_
  refine lv_iconst (v := (1)) hx hb dL_law_649 (by decide) ?_
  refine lv_iadd hx hb dL_law_650 ?_
  refine lv_topi (fun v1 ev1 => ?_)
  have tv1 := a_add ev1 (by omega) (by omega)
  refine va_sld hx hb hX hbl hbA hS (i := v1) (vp_in_iff.mpr (by omega)) dL_law_651 ?_
  rw [show Int32.toNatClampNeg v1 = ii.toNatClampNeg + 1 from by have tt := tn (i := v1) (by omega); omega]
  refine m_calli (m_runV (0) (As := [.int (xs (ii.toNatClampNeg + 1))]) (rest := []) hx hb hml hown hts hE hM hS hA ce_X9_falls tb_542 (V_X9_falls l D A ad ns I L G (xs (ii.toNatClampNeg + 1)) hG hI) rfl rfl ⟨Nat.le_of_ble_eq_true rfl, Nat.le_of_ble_eq_true rfl⟩ (hG.1 0 (by decide)) rfl rfl (by decide) rfl hl.1 rfl (Nat.le_of_ble_eq_true rfl) dL_law_652 ⟨(by show _ + _ ≤ 600000; omega), (by show _ + _ ≤ 7302250; omega)⟩) hS (fun r2 u H locs hw hM hS => ?_)
  obtain ⟨I1, L1, rfl, hI, hk1⟩ := hw
  have hM : Mem D A ad ns I1 L1 G H := hM
  replace hC : CW ns I1 G := cw_keep hC (hk1.get 0 14 rfl)
  replace hLM : LWM I1 := hLM.out (hk1.out rfl)
  refine lv_pop hx hb dL_law_655 rfl ?_
  refine lv_aload_n hx hb dL_law_656 rfl (lv_at hl 2 rfl) ?_
  refine lv_aload_n hx hb dL_law_657 rfl (lv_at hl 0 rfl) ?_
  refine lv_iload_n hx hb dL_law_658 rfl (lv_at hl 3 rfl) ?_
  refine lv_iconst (v := (1)) hx hb dL_law_659 (by decide) ?_
  refine lv_iadd hx hb dL_law_660 ?_
  refine lv_topi (fun v3 ev3 => ?_)
  have tv3 := a_add ev3 (by omega) (by omega)
  refine va_sld hx hb hX hbl hbA hS (i := v3) (vp_in_iff.mpr (by omega)) dL_law_661 ?_
  rw [show Int32.toNatClampNeg v3 = ii.toNatClampNeg + 1 from by have tt := tn (i := v3) (by omega); omega]
  refine m_calli (m_runV (1000) (As := [.int (xs (ii.toNatClampNeg + 1))]) (rest := []) hx hb hml hown hts hE hM hS hA ce_X10_falls tb_1481 (V_X10_falls l D A ad ns I1 L1 G (xs (ii.toNatClampNeg + 1)) hJ hI) rfl rfl ⟨Nat.le_of_ble_eq_true rfl, Nat.le_of_ble_eq_true rfl⟩ hJ.1 rfl rfl (by decide) rfl hl.1 rfl (Nat.le_of_ble_eq_true rfl) dL_law_662 ⟨(by show _ + _ ≤ 600000; omega), (by show _ + _ ≤ 7302250; omega)⟩) hS (fun r4 u H locs hw hM hS => ?_)
  obtain ⟨I2, L2, rfl, hI, hk2⟩ := hw
  have hM : Mem D A ad ns I2 L2 G H := hM
  replace hC : CW ns I2 G := cw_keep hC (hk2.get 0 14 rfl)
  replace hLM : LWM I2 := hLM.kp hk2 rfl rfl
  refine lv_pop hx hb dL_law_665 rfl ?_
  refine lv_goto (tgt := 1531) hx hb dL_law_666 (by decide) ?_
  exact kk ad ns I2 L2 G _ _ _ _ _ (by omega) (by omega) ⟨hC, hJ, hI, hLM, trivial⟩ hM hS (lv_sub hl [0, 1, 2, 3] rfl)
theorem dL_law_669 : decode cL_law 669 = .ok (.aload_n 1, 1) := by decide +kernel
theorem dL_law_670 : decode cL_law 670 = .ok (.aload_n 0, 1) := by decide +kernel
theorem dL_law_671 : decode cL_law 671 = .ok (.iload_n 3, 1) := by decide +kernel
theorem dL_law_672 : decode cL_law 672 = .ok (.iconst 1, 1) := by decide +kernel
theorem dL_law_673 : decode cL_law 673 = .ok (.iadd, 1) := by decide +kernel
theorem dL_law_674 : decode cL_law 674 = .ok (.iaload, 1) := by decide +kernel
theorem dL_law_675 : decode cL_law 675 = .ok (.aload_n 0, 1) := by decide +kernel
theorem dL_law_676 : decode cL_law 676 = .ok (.iload_n 3, 1) := by decide +kernel
theorem dL_law_677 : decode cL_law 677 = .ok (.iconst 2, 1) := by decide +kernel
theorem dL_law_678 : decode cL_law 678 = .ok (.iadd, 1) := by decide +kernel
theorem dL_law_679 : decode cL_law 679 = .ok (.iaload, 1) := by decide +kernel
theorem dL_law_680 : decode cL_law 680 = .ok (.aload_n 0, 1) := by decide +kernel
theorem dL_law_681 : decode cL_law 681 = .ok (.iload_n 3, 1) := by decide +kernel
theorem dL_law_682 : decode cL_law 682 = .ok (.iconst 3, 1) := by decide +kernel
theorem dL_law_683 : decode cL_law 683 = .ok (.iadd, 1) := by decide +kernel
theorem dL_law_684 : decode cL_law 684 = .ok (.iaload, 1) := by decide +kernel
theorem dL_law_685 : decode cL_law 685 = .ok (.aload_n 0, 1) := by decide +kernel
theorem dL_law_686 : decode cL_law 686 = .ok (.iload_n 3, 1) := by decide +kernel
theorem dL_law_687 : decode cL_law 687 = .ok (.iconst 4, 1) := by decide +kernel
theorem dL_law_688 : decode cL_law 688 = .ok (.iadd, 1) := by decide +kernel
theorem dL_law_689 : decode cL_law 689 = .ok (.iaload, 1) := by decide +kernel
theorem dL_law_690 : decode cL_law 690 = .ok (.aload_n 0, 1) := by decide +kernel
theorem dL_law_691 : decode cL_law 691 = .ok (.iload_n 3, 1) := by decide +kernel
theorem dL_law_692 : decode cL_law 692 = .ok (.iconst 5, 1) := by decide +kernel
theorem dL_law_693 : decode cL_law 693 = .ok (.iadd, 1) := by decide +kernel
theorem dL_law_694 : decode cL_law 694 = .ok (.iaload, 1) := by decide +kernel
theorem dL_law_695 : decode cL_law 695 = .ok (.invokevirtual 56, 3) := by decide +kernel
theorem dL_law_698 : decode cL_law 698 = .ok (.pop, 1) := by decide +kernel
theorem dL_law_699 : decode cL_law 699 = .ok (.aload_n 2, 1) := by decide +kernel
theorem dL_law_700 : decode cL_law 700 = .ok (.aload_n 0, 1) := by decide +kernel
theorem dL_law_701 : decode cL_law 701 = .ok (.iload_n 3, 1) := by decide +kernel
theorem dL_law_702 : decode cL_law 702 = .ok (.iconst 1, 1) := by decide +kernel
theorem dL_law_703 : decode cL_law 703 = .ok (.iadd, 1) := by decide +kernel
theorem dL_law_704 : decode cL_law 704 = .ok (.iaload, 1) := by decide +kernel
theorem dL_law_705 : decode cL_law 705 = .ok (.aload_n 0, 1) := by decide +kernel
theorem dL_law_706 : decode cL_law 706 = .ok (.iload_n 3, 1) := by decide +kernel
theorem dL_law_707 : decode cL_law 707 = .ok (.iconst 2, 1) := by decide +kernel
theorem dL_law_708 : decode cL_law 708 = .ok (.iadd, 1) := by decide +kernel
theorem dL_law_709 : decode cL_law 709 = .ok (.iaload, 1) := by decide +kernel
theorem dL_law_710 : decode cL_law 710 = .ok (.aload_n 0, 1) := by decide +kernel
theorem dL_law_711 : decode cL_law 711 = .ok (.iload_n 3, 1) := by decide +kernel
theorem dL_law_712 : decode cL_law 712 = .ok (.iconst 3, 1) := by decide +kernel
theorem dL_law_713 : decode cL_law 713 = .ok (.iadd, 1) := by decide +kernel
theorem dL_law_714 : decode cL_law 714 = .ok (.iaload, 1) := by decide +kernel
theorem dL_law_715 : decode cL_law 715 = .ok (.aload_n 0, 1) := by decide +kernel
theorem dL_law_716 : decode cL_law 716 = .ok (.iload_n 3, 1) := by decide +kernel
theorem dL_law_717 : decode cL_law 717 = .ok (.iconst 4, 1) := by decide +kernel
theorem dL_law_718 : decode cL_law 718 = .ok (.iadd, 1) := by decide +kernel
theorem dL_law_719 : decode cL_law 719 = .ok (.iaload, 1) := by decide +kernel
theorem dL_law_720 : decode cL_law 720 = .ok (.aload_n 0, 1) := by decide +kernel
theorem dL_law_721 : decode cL_law 721 = .ok (.iload_n 3, 1) := by decide +kernel
theorem dL_law_722 : decode cL_law 722 = .ok (.iconst 5, 1) := by decide +kernel
theorem dL_law_723 : decode cL_law 723 = .ok (.iadd, 1) := by decide +kernel
theorem dL_law_724 : decode cL_law 724 = .ok (.iaload, 1) := by decide +kernel
theorem dL_law_725 : decode cL_law 725 = .ok (.invokevirtual 60, 3) := by decide +kernel
theorem dL_law_728 : decode cL_law 728 = .ok (.pop, 1) := by decide +kernel
theorem dL_law_729 : decode cL_law 729 = .ok (.goto 802, 3) := by decide +kernel
set_option maxHeartbeats 4000000 in
theorem lc_9 {p : Program} {l : Launch} {e : Env} {s : State} {m : MethodId} {below : List Frame} {meth : Method} {c : Code} {b N : Nat} {ii : Int32} {xs : Nat → Int32} {D : va_G} {A : Nat → Prop} {ad : Nat → Nat} {ns : List Nat} {I : MI} {L : ML} {G : MG} {H : Heap} {locs : List Loc} {ls : Array Slot} {cells slots : Nat} (F : LF p s m meth c b N xs D A) (hN : N ≤ 4096) (hi : 0 ≤ ii.toInt ∧ ii.toInt + 8 ≤ N) (hc : cells ≤ 500000) (hs : slots ≤ 7000000) (fw : WD ns I G) (hM : Mem D A ad ns I L G H) (hS : va_S A s.heap H locs) (hl : lv_has ls 4 [(0, .ref (b)), (1, .ref (ad (0))), (2, .ref (ad (1000))), (3, .int (ii))]) (kk : LK p l e s m below meth c b ii D A cells slots) : W p l e room_1 s m #[Value.ref b] below meth c H locs cells slots (lw_Z below #[Value.ref b] s) (F0 m 669 ls []) := by
  obtain ⟨hx, hb, hml, hown, hts, hX, hbl, hbA, hA, hE⟩ := F
  obtain ⟨hC, hJ, hI, hLM, hRel⟩ := fw
  have hG := hC.1
  have hL := hC.lws
  have hIm := hC.2.1.ims
  have tii := tn hi.1
  have k0 : (0 : Int32).toInt = 0 := by decide
  have k1 : (1 : Int32).toInt = 1 := by decide
  have k2 : (2 : Int32).toInt = 2 := by decide
  have k3 : (3 : Int32).toInt = 3 := by decide
  have k4 : (4 : Int32).toInt = 4 := by decide
  have k5 : (5 : Int32).toInt = 5 := by decide
  refine lv_aload_n hx hb dL_law_669 rfl (lv_at hl 1 rfl) ?_
  refine lv_aload_n hx hb dL_law_670 rfl (lv_at hl 0 rfl) ?_
  refine lv_iload_n hx hb dL_law_671 rfl (lv_at hl 3 rfl) ?_
  refine lv_iconst (v := (1)) hx hb dL_law_672 (by decide) ?_
  refine lv_iadd hx hb dL_law_673 ?_
  refine lv_topi (fun v1 ev1 => ?_)
  have tv1 := a_add ev1 (by omega) (by omega)
  refine va_sld hx hb hX hbl hbA hS (i := v1) (vp_in_iff.mpr (by omega)) dL_law_674 ?_
  rw [show Int32.toNatClampNeg v1 = ii.toNatClampNeg + 1 from by have tt := tn (i := v1) (by omega); omega]
  refine lv_aload_n hx hb dL_law_675 rfl (lv_at hl 0 rfl) ?_
  refine lv_iload_n hx hb dL_law_676 rfl (lv_at hl 3 rfl) ?_
  refine lv_iconst (v := (2)) hx hb dL_law_677 (by decide) ?_
  refine lv_iadd hx hb dL_law_678 ?_
  refine lv_topi (fun v2 ev2 => ?_)
  have tv2 := a_add ev2 (by omega) (by omega)
  refine va_sld hx hb hX hbl hbA hS (i := v2) (vp_in_iff.mpr (by omega)) dL_law_679 ?_
  rw [show Int32.toNatClampNeg v2 = ii.toNatClampNeg + 2 from by have tt := tn (i := v2) (by omega); omega]
  refine lv_aload_n hx hb dL_law_680 rfl (lv_at hl 0 rfl) ?_
  refine lv_iload_n hx hb dL_law_681 rfl (lv_at hl 3 rfl) ?_
  refine lv_iconst (v := (3)) hx hb dL_law_682 (by decide) ?_
  refine lv_iadd hx hb dL_law_683 ?_
  refine lv_topi (fun v3 ev3 => ?_)
  have tv3 := a_add ev3 (by omega) (by omega)
  refine va_sld hx hb hX hbl hbA hS (i := v3) (vp_in_iff.mpr (by omega)) dL_law_684 ?_
  rw [show Int32.toNatClampNeg v3 = ii.toNatClampNeg + 3 from by have tt := tn (i := v3) (by omega); omega]
  refine lv_aload_n hx hb dL_law_685 rfl (lv_at hl 0 rfl) ?_
  refine lv_iload_n hx hb dL_law_686 rfl (lv_at hl 3 rfl) ?_
  refine lv_iconst (v := (4)) hx hb dL_law_687 (by decide) ?_
  refine lv_iadd hx hb dL_law_688 ?_
  refine lv_topi (fun v4 ev4 => ?_)
  have tv4 := a_add ev4 (by omega) (by omega)
  refine va_sld hx hb hX hbl hbA hS (i := v4) (vp_in_iff.mpr (by omega)) dL_law_689 ?_
  rw [show Int32.toNatClampNeg v4 = ii.toNatClampNeg + 4 from by have tt := tn (i := v4) (by omega); omega]
  refine lv_aload_n hx hb dL_law_690 rfl (lv_at hl 0 rfl) ?_
  refine lv_iload_n hx hb dL_law_691 rfl (lv_at hl 3 rfl) ?_
  refine lv_iconst (v := (5)) hx hb dL_law_692 (by decide) ?_
  refine lv_iadd hx hb dL_law_693 ?_
  refine lv_topi (fun v5 ev5 => ?_)
  have tv5 := a_add ev5 (by omega) (by omega)
  refine va_sld hx hb hX hbl hbA hS (i := v5) (vp_in_iff.mpr (by omega)) dL_law_694 ?_
  rw [show Int32.toNatClampNeg v5 = ii.toNatClampNeg + 5 from by have tt := tn (i := v5) (by omega); omega]
  refine m_calli (m_runV (0) (As := [.int (xs (ii.toNatClampNeg + 1)), .int (xs (ii.toNatClampNeg + 2)), .int (xs (ii.toNatClampNeg + 3)), .int (xs (ii.toNatClampNeg + 4)), .int (xs (ii.toNatClampNeg + 5))]) (rest := []) hx hb hml hown hts hE hM hS hA ce_X9_feed tb_546 (V_X9_feed l D A ad ns I L G (xs (ii.toNatClampNeg + 1)) (xs (ii.toNatClampNeg + 2)) (xs (ii.toNatClampNeg + 3)) (xs (ii.toNatClampNeg + 4)) (xs (ii.toNatClampNeg + 5)) hG hI) rfl rfl ⟨Nat.le_of_ble_eq_true rfl, Nat.le_of_ble_eq_true rfl⟩ (hG.1 0 (by decide)) rfl rfl (by decide) rfl hl.1 rfl (Nat.le_of_ble_eq_true rfl) dL_law_695 ⟨(by show _ + _ ≤ 600000; omega), (by show _ + _ ≤ 7302250; omega)⟩) hS (fun r6 u H locs hw hM hS => ?_)
  obtain ⟨I1, L1, rfl, hI, hk1⟩ := hw
  have hM : Mem D A ad ns I1 L1 G H := hM
  replace hC : CW ns I1 G := cw_keep hC (hk1.get 0 14 rfl)
  replace hLM : LWM I1 := hLM.out (hk1.out rfl)
  refine lv_pop hx hb dL_law_698 rfl ?_
  refine lv_aload_n hx hb dL_law_699 rfl (lv_at hl 2 rfl) ?_
  refine lv_aload_n hx hb dL_law_700 rfl (lv_at hl 0 rfl) ?_
  refine lv_iload_n hx hb dL_law_701 rfl (lv_at hl 3 rfl) ?_
  refine lv_iconst (v := (1)) hx hb dL_law_702 (by decide) ?_
  refine lv_iadd hx hb dL_law_703 ?_
  refine lv_topi (fun v7 ev7 => ?_)
  have tv7 := a_add ev7 (by omega) (by omega)
  refine va_sld hx hb hX hbl hbA hS (i := v7) (vp_in_iff.mpr (by omega)) dL_law_704 ?_
  rw [show Int32.toNatClampNeg v7 = ii.toNatClampNeg + 1 from by have tt := tn (i := v7) (by omega); omega]
  refine lv_aload_n hx hb dL_law_705 rfl (lv_at hl 0 rfl) ?_
  refine lv_iload_n hx hb dL_law_706 rfl (lv_at hl 3 rfl) ?_
  refine lv_iconst (v := (2)) hx hb dL_law_707 (by decide) ?_
  refine lv_iadd hx hb dL_law_708 ?_
  refine lv_topi (fun v8 ev8 => ?_)
  have tv8 := a_add ev8 (by omega) (by omega)
  refine va_sld hx hb hX hbl hbA hS (i := v8) (vp_in_iff.mpr (by omega)) dL_law_709 ?_
  rw [show Int32.toNatClampNeg v8 = ii.toNatClampNeg + 2 from by have tt := tn (i := v8) (by omega); omega]
  refine lv_aload_n hx hb dL_law_710 rfl (lv_at hl 0 rfl) ?_
  refine lv_iload_n hx hb dL_law_711 rfl (lv_at hl 3 rfl) ?_
  refine lv_iconst (v := (3)) hx hb dL_law_712 (by decide) ?_
  refine lv_iadd hx hb dL_law_713 ?_
  refine lv_topi (fun v9 ev9 => ?_)
  have tv9 := a_add ev9 (by omega) (by omega)
  refine va_sld hx hb hX hbl hbA hS (i := v9) (vp_in_iff.mpr (by omega)) dL_law_714 ?_
  rw [show Int32.toNatClampNeg v9 = ii.toNatClampNeg + 3 from by have tt := tn (i := v9) (by omega); omega]
  refine lv_aload_n hx hb dL_law_715 rfl (lv_at hl 0 rfl) ?_
  refine lv_iload_n hx hb dL_law_716 rfl (lv_at hl 3 rfl) ?_
  refine lv_iconst (v := (4)) hx hb dL_law_717 (by decide) ?_
  refine lv_iadd hx hb dL_law_718 ?_
  refine lv_topi (fun v10 ev10 => ?_)
  have tv10 := a_add ev10 (by omega) (by omega)
  refine va_sld hx hb hX hbl hbA hS (i := v10) (vp_in_iff.mpr (by omega)) dL_law_719 ?_
  rw [show Int32.toNatClampNeg v10 = ii.toNatClampNeg + 4 from by have tt := tn (i := v10) (by omega); omega]
  refine lv_aload_n hx hb dL_law_720 rfl (lv_at hl 0 rfl) ?_
  refine lv_iload_n hx hb dL_law_721 rfl (lv_at hl 3 rfl) ?_
  refine lv_iconst (v := (5)) hx hb dL_law_722 (by decide) ?_
  refine lv_iadd hx hb dL_law_723 ?_
  refine lv_topi (fun v11 ev11 => ?_)
  have tv11 := a_add ev11 (by omega) (by omega)
  refine va_sld hx hb hX hbl hbA hS (i := v11) (vp_in_iff.mpr (by omega)) dL_law_724 ?_
  rw [show Int32.toNatClampNeg v11 = ii.toNatClampNeg + 5 from by have tt := tn (i := v11) (by omega); omega]
  refine m_calli (m_runV (1000) (As := [.int (xs (ii.toNatClampNeg + 1)), .int (xs (ii.toNatClampNeg + 2)), .int (xs (ii.toNatClampNeg + 3)), .int (xs (ii.toNatClampNeg + 4)), .int (xs (ii.toNatClampNeg + 5))]) (rest := []) hx hb hml hown hts hE hM hS hA ce_X10_feed tb_1486 (V_X10_feed l D A ad ns I1 L1 G (xs (ii.toNatClampNeg + 1)) (xs (ii.toNatClampNeg + 2)) (xs (ii.toNatClampNeg + 3)) (xs (ii.toNatClampNeg + 4)) (xs (ii.toNatClampNeg + 5)) hJ hI) rfl rfl ⟨Nat.le_of_ble_eq_true rfl, Nat.le_of_ble_eq_true rfl⟩ hJ.1 rfl rfl (by decide) rfl hl.1 rfl (Nat.le_of_ble_eq_true rfl) dL_law_725 ⟨(by show _ + _ ≤ 600000; omega), (by show _ + _ ≤ 7302250; omega)⟩) hS (fun r12 u H locs hw hM hS => ?_)
  obtain ⟨I2, L2, rfl, hI, hk2⟩ := hw
  have hM : Mem D A ad ns I2 L2 G H := hM
  replace hC : CW ns I2 G := cw_keep hC (hk2.get 0 14 rfl)
  replace hLM : LWM I2 := hLM.kp hk2 rfl rfl
  refine lv_pop hx hb dL_law_728 rfl ?_
  refine lv_goto (tgt := 1531) hx hb dL_law_729 (by decide) ?_
  exact kk ad ns I2 L2 G _ _ _ _ _ (by omega) (by omega) ⟨hC, hJ, hI, hLM, trivial⟩ hM hS (lv_sub hl [0, 1, 2, 3] rfl)
theorem dL_law_732 : decode cL_law 732 = .ok (.aload_n 1, 1) := by decide +kernel
theorem dL_law_733 : decode cL_law 733 = .ok (.aload_n 0, 1) := by decide +kernel
theorem dL_law_734 : decode cL_law 734 = .ok (.iload_n 3, 1) := by decide +kernel
theorem dL_law_735 : decode cL_law 735 = .ok (.iconst 1, 1) := by decide +kernel
theorem dL_law_736 : decode cL_law 736 = .ok (.iadd, 1) := by decide +kernel
theorem dL_law_737 : decode cL_law 737 = .ok (.iaload, 1) := by decide +kernel
theorem dL_law_738 : decode cL_law 738 = .ok (.invokevirtual 61, 3) := by decide +kernel
theorem dL_law_741 : decode cL_law 741 = .ok (.pop, 1) := by decide +kernel
theorem dL_law_742 : decode cL_law 742 = .ok (.aload_n 2, 1) := by decide +kernel
theorem dL_law_743 : decode cL_law 743 = .ok (.aload_n 0, 1) := by decide +kernel
theorem dL_law_744 : decode cL_law 744 = .ok (.iload_n 3, 1) := by decide +kernel
theorem dL_law_745 : decode cL_law 745 = .ok (.iconst 1, 1) := by decide +kernel
theorem dL_law_746 : decode cL_law 746 = .ok (.iadd, 1) := by decide +kernel
theorem dL_law_747 : decode cL_law 747 = .ok (.iaload, 1) := by decide +kernel
theorem dL_law_748 : decode cL_law 748 = .ok (.invokevirtual 64, 3) := by decide +kernel
theorem dL_law_751 : decode cL_law 751 = .ok (.pop, 1) := by decide +kernel
theorem dL_law_752 : decode cL_law 752 = .ok (.goto 779, 3) := by decide +kernel
set_option maxHeartbeats 4000000 in
theorem lc_10 {p : Program} {l : Launch} {e : Env} {s : State} {m : MethodId} {below : List Frame} {meth : Method} {c : Code} {b N : Nat} {ii : Int32} {xs : Nat → Int32} {D : va_G} {A : Nat → Prop} {ad : Nat → Nat} {ns : List Nat} {I : MI} {L : ML} {G : MG} {H : Heap} {locs : List Loc} {ls : Array Slot} {cells slots : Nat} (F : LF p s m meth c b N xs D A) (hN : N ≤ 4096) (hi : 0 ≤ ii.toInt ∧ ii.toInt + 8 ≤ N) (hc : cells ≤ 500000) (hs : slots ≤ 7000000) (fw : WD ns I G) (hM : Mem D A ad ns I L G H) (hS : va_S A s.heap H locs) (hl : lv_has ls 4 [(0, .ref (b)), (1, .ref (ad (0))), (2, .ref (ad (1000))), (3, .int (ii))]) (kk : LK p l e s m below meth c b ii D A cells slots) : W p l e room_1 s m #[Value.ref b] below meth c H locs cells slots (lw_Z below #[Value.ref b] s) (F0 m 732 ls []) := by
  obtain ⟨hx, hb, hml, hown, hts, hX, hbl, hbA, hA, hE⟩ := F
  obtain ⟨hC, hJ, hI, hLM, hRel⟩ := fw
  have hG := hC.1
  have hL := hC.lws
  have hIm := hC.2.1.ims
  have tii := tn hi.1
  have k0 : (0 : Int32).toInt = 0 := by decide
  have k1 : (1 : Int32).toInt = 1 := by decide
  refine lv_aload_n hx hb dL_law_732 rfl (lv_at hl 1 rfl) ?_
  refine lv_aload_n hx hb dL_law_733 rfl (lv_at hl 0 rfl) ?_
  refine lv_iload_n hx hb dL_law_734 rfl (lv_at hl 3 rfl) ?_
  refine lv_iconst (v := (1)) hx hb dL_law_735 (by decide) ?_
  refine lv_iadd hx hb dL_law_736 ?_
  refine lv_topi (fun v1 ev1 => ?_)
  have tv1 := a_add ev1 (by omega) (by omega)
  refine va_sld hx hb hX hbl hbA hS (i := v1) (vp_in_iff.mpr (by omega)) dL_law_737 ?_
  rw [show Int32.toNatClampNeg v1 = ii.toNatClampNeg + 1 from by have tt := tn (i := v1) (by omega); omega]
  refine m_calli (m_runV (0) (As := [.int (xs (ii.toNatClampNeg + 1))]) (rest := []) hx hb hml hown hts hE hM hS hA ce_X9_end tb_554 (V_X9_end l D A ad ns I L G (xs (ii.toNatClampNeg + 1)) hG hI) rfl rfl ⟨Nat.le_of_ble_eq_true rfl, Nat.le_of_ble_eq_true rfl⟩ (hG.1 0 (by decide)) rfl rfl (by decide) rfl hl.1 rfl (Nat.le_of_ble_eq_true rfl) dL_law_738 ⟨(by show _ + _ ≤ 600000; omega), (by show _ + _ ≤ 7302250; omega)⟩) hS (fun r2 u H locs hw hM hS => ?_)
  obtain ⟨I1, L1, rfl, hI, hk1⟩ := hw
  have hM : Mem D A ad ns I1 L1 G H := hM
  replace hC : CW ns I1 G := cw_keep hC (hk1.get 0 14 rfl)
  replace hLM : LWM I1 := hLM.out (hk1.out rfl)
  refine lv_pop hx hb dL_law_741 rfl ?_
  refine lv_aload_n hx hb dL_law_742 rfl (lv_at hl 2 rfl) ?_
  refine lv_aload_n hx hb dL_law_743 rfl (lv_at hl 0 rfl) ?_
  refine lv_iload_n hx hb dL_law_744 rfl (lv_at hl 3 rfl) ?_
  refine lv_iconst (v := (1)) hx hb dL_law_745 (by decide) ?_
  refine lv_iadd hx hb dL_law_746 ?_
  refine lv_topi (fun v3 ev3 => ?_)
  have tv3 := a_add ev3 (by omega) (by omega)
  refine va_sld hx hb hX hbl hbA hS (i := v3) (vp_in_iff.mpr (by omega)) dL_law_747 ?_
  rw [show Int32.toNatClampNeg v3 = ii.toNatClampNeg + 1 from by have tt := tn (i := v3) (by omega); omega]
  refine m_calli (m_runV (1000) (As := [.int (xs (ii.toNatClampNeg + 1))]) (rest := []) hx hb hml hown hts hE hM hS hA ce_X10_end tb_1494 (V_X10_end l D A ad ns I1 L1 G (xs (ii.toNatClampNeg + 1)) hJ hI) rfl rfl ⟨Nat.le_of_ble_eq_true rfl, Nat.le_of_ble_eq_true rfl⟩ hJ.1 rfl rfl (by decide) rfl hl.1 rfl (Nat.le_of_ble_eq_true rfl) dL_law_748 ⟨(by show _ + _ ≤ 600000; omega), (by show _ + _ ≤ 7302250; omega)⟩) hS (fun r4 u H locs hw hM hS => ?_)
  obtain ⟨I2, L2, rfl, hI, hk2⟩ := hw
  have hM : Mem D A ad ns I2 L2 G H := hM
  replace hC : CW ns I2 G := cw_keep hC (hk2.get 0 14 rfl)
  replace hLM : LWM I2 := hLM.kp hk2 rfl rfl
  refine lv_pop hx hb dL_law_751 rfl ?_
  refine lv_goto (tgt := 1531) hx hb dL_law_752 (by decide) ?_
  exact kk ad ns I2 L2 G _ _ _ _ _ (by omega) (by omega) ⟨hC, hJ, hI, hLM, trivial⟩ hM hS (lv_sub hl [0, 1, 2, 3] rfl)
theorem dL_law_755 : decode cL_law 755 = .ok (.aload_n 1, 1) := by decide +kernel
theorem dL_law_756 : decode cL_law 756 = .ok (.invokevirtual 65, 3) := by decide +kernel
theorem dL_law_759 : decode cL_law 759 = .ok (.pop, 1) := by decide +kernel
theorem dL_law_760 : decode cL_law 760 = .ok (.aload_n 2, 1) := by decide +kernel
theorem dL_law_761 : decode cL_law 761 = .ok (.invokevirtual 69, 3) := by decide +kernel
theorem dL_law_764 : decode cL_law 764 = .ok (.pop, 1) := by decide +kernel
theorem dL_law_765 : decode cL_law 765 = .ok (.goto 766, 3) := by decide +kernel
set_option maxHeartbeats 4000000 in
theorem lc_11 {p : Program} {l : Launch} {e : Env} {s : State} {m : MethodId} {below : List Frame} {meth : Method} {c : Code} {b N : Nat} {ii : Int32} {xs : Nat → Int32} {D : va_G} {A : Nat → Prop} {ad : Nat → Nat} {ns : List Nat} {I : MI} {L : ML} {G : MG} {H : Heap} {locs : List Loc} {ls : Array Slot} {cells slots : Nat} (F : LF p s m meth c b N xs D A) (hN : N ≤ 4096) (hi : 0 ≤ ii.toInt ∧ ii.toInt + 8 ≤ N) (hc : cells ≤ 500000) (hs : slots ≤ 7000000) (fw : WD ns I G) (hM : Mem D A ad ns I L G H) (hS : va_S A s.heap H locs) (hl : lv_has ls 4 [(0, .ref (b)), (1, .ref (ad (0))), (2, .ref (ad (1000))), (3, .int (ii))]) (kk : LK p l e s m below meth c b ii D A cells slots) : W p l e room_1 s m #[Value.ref b] below meth c H locs cells slots (lw_Z below #[Value.ref b] s) (F0 m 755 ls []) := by
  obtain ⟨hx, hb, hml, hown, hts, hX, hbl, hbA, hA, hE⟩ := F
  obtain ⟨hC, hJ, hI, hLM, hRel⟩ := fw
  have hJ0 := hJ
  have hG := hC.1
  have hL := hC.lws
  have hIm := hC.2.1.ims
  have tii := tn hi.1
  have k0 : (0 : Int32).toInt = 0 := by decide
  refine lv_aload_n hx hb dL_law_755 rfl (lv_at hl 1 rfl) ?_
  refine m_calli (m_runV (0) (As := []) (rest := []) hx hb hml hown hts hE hM hS hA ce_X9_law tb_558 (V_X9_law l D A ad ns I L G hI hC) rfl rfl ⟨Nat.le_of_ble_eq_true rfl, Nat.le_of_ble_eq_true rfl⟩ (hG.1 0 (by decide)) rfl rfl (by decide) rfl hl.1 rfl (Nat.le_of_ble_eq_true rfl) dL_law_756 ⟨(by show _ + _ ≤ 600000; omega), (by show _ + _ ≤ 7302250; omega)⟩) hS (fun r1 u H locs hw hM hS => ?_)
  obtain ⟨ad1, ns1, I1, L1, G1, rfl, hI, hC, hext, hout⟩ := hw
  have hM : Mem D A ad1 ns1 I1 L1 G1 H := hM
  replace hJ : SGM ns1 G1 := hJ.ext hext (fun n hn => (hout n hn).2)
  replace hLM : LWM I1 := hLM.out (fun n hn => (hout n hn).1)
  rw [← (hext 0 (hG.1 0 (by decide))).2] at hl
  rw [← (hext 1000 hJ0.1).2] at hl
  replace hG := hC.1
  refine lv_pop hx hb dL_law_759 rfl ?_
  refine lv_aload_n hx hb dL_law_760 rfl (lv_at hl 2 rfl) ?_
  refine m_calli (m_runV (1000) (As := []) (rest := []) hx hb hml hown hts hE hM hS hA ce_X10_law tb_1498 (V_X10_law l D A ad1 ns1 I1 L1 G1 hJ hI hLM) rfl rfl ⟨Nat.le_of_ble_eq_true rfl, Nat.le_of_ble_eq_true rfl⟩ hJ.1 rfl rfl (by decide) rfl hl.1 rfl (Nat.le_of_ble_eq_true rfl) dL_law_761 ⟨(by show _ + _ ≤ 600000; omega), (by show _ + _ ≤ 7302250; omega)⟩) hS (fun r2 u H locs hw hM hS => ?_)
  obtain ⟨I2, L2, rfl, hI, hk2, y2⟩ := hw
  have hM : Mem D A ad1 ns1 I2 L2 G1 H := hM
  replace hC : CW ns1 I2 G1 := cw_keep hC (hk2.get 0 14 rfl)
  replace hLM : LWM I2 := y2
  refine lv_pop hx hb dL_law_764 rfl ?_
  refine lv_goto (tgt := 1531) hx hb dL_law_765 (by decide) ?_
  exact kk ad1 ns1 I2 L2 G1 _ _ _ _ _ (by omega) (by omega) ⟨hC, hJ, hI, hLM, trivial⟩ hM hS (lv_sub hl [0, 1, 2, 3] rfl)
