set_option maxHeartbeats 4000000 in
set_option maxRecDepth 20000 in
theorem V_X10_goesDay_z (l : Launch) (D : va_G) (A : Nat → Prop) (ad : Nat → Nat) (ns : List Nat) (I : MI) (L : ML) (G : MG) (a0 : Int32) (hJ : SGM ns G) (hI : INV I) (hLR : LWR I (a0).toNatClampNeg) (ha0 : 0 ≤ a0.toInt ∧ a0.toInt ≤ 5) : Met l yX10_goesDay (wd yX10_goesDay cX10_goesDay 4 none) ({ frames := 5, cells := 0, slots := 0, locals := 128 }) (va_Pc [.ref (ad (1000)), .int a0] (PM D A ad ns I L G)) (va_Qv (fun u => ∃ I2 L2, u = (ad, ns, I2, L2, G) ∧ INV I2 ∧ Kp [(1009, 1010), (1014, 1015), (1023, 1024), (1045, 1051), (1058, 1059), (1061, 1063), (1064, 1065)] [(1000, 51), (1000, 52), (1000, 53), (1000, 54), (1000, 55), (1000, 56), (1000, 59), (1000, 63), (1000, 65), (1001, 6)] I I2 ∧ (Z59 I I2)) (BM D A) A) 0 0 A := by
  refine m_ofW (by decide) (Nat.le_of_ble_eq_true rfl) ?_
  intro p e s m below meth c ls args hC hE hM hA hS hl
  obtain ⟨hx, hb, hml, hown, hts, hr, hlocks, hin⟩ := hC
  have km1 : (-1 : Int32).toInt = -1 := by decide
  have k0 : (0 : Int32).toInt = 0 := by decide
  have k1 : (1 : Int32).toInt = 1 := by decide
  have k6 : (6 : Int32).toInt = 6 := by decide
  have k7 : (7 : Int32).toInt = 7 := by decide
  have k8 : (8 : Int32).toInt = 8 := by decide
  have k9 : (9 : Int32).toInt = 9 := by decide
  have k24 : (24 : Int32).toInt = 24 := by decide
  have k1000 : (1000 : Int32).toInt = 1000 := by decide
  have hK : Kp [(1009, 1010), (1014, 1015), (1023, 1024), (1045, 1051), (1058, 1059), (1061, 1063), (1064, 1065)] [(1000, 51), (1000, 52), (1000, 53), (1000, 54), (1000, 55), (1000, 56), (1000, 59), (1000, 63), (1000, 65), (1001, 6)] I I := Kp.rf
  have hl : lv_has ls 4 [(0, .ref (ad (1000))), (1, .int (a0))] := hl
  refine lv_iconst (v := (0)) hx hb dX10_goesDay_0 (by decide) ?_
  refine lv_istore_n (lv' := [(2, .int (0)), (0, .ref (ad (1000))), (1, .int (a0))]) hx hb dX10_goesDay_1 rfl hl (by decide) rfl (fun ls hl => ?_)
  have loop2 : ∀ (n : Nat) (x2_2 : Int32) (Ia2 : MI) (La2 : ML) (H : Heap) (locs : List Loc) (ls : Array Slot), INV Ia2 → Kp [(1009, 1010), (1014, 1015), (1023, 1024), (1045, 1051), (1058, 1059), (1061, 1063), (1064, 1065)] [(1000, 51), (1000, 52), (1000, 53), (1000, 54), (1000, 55), (1000, 56), (1000, 59), (1000, 63), (1000, 65), (1001, 6)] I Ia2 → (0 ≤ x2_2.toInt ∧ x2_2.toInt ≤ 8) → (Z59 I Ia2) → (8 - x2_2.toInt).toNat < n → Mem D A ad ns Ia2 La2 G H → va_S A s.heap H locs → lv_has ls 4 [(2, .int (x2_2)), (0, .ref (ad (1000))), (1, .int (a0))] → W p l e ({ frames := 5, cells := 0, slots := 0, locals := 128 } : Room) s m args below meth c H locs 0 0 (MQ below (va_Qv (fun u => ∃ I2 L2, u = (ad, ns, I2, L2, G) ∧ INV I2 ∧ Kp [(1009, 1010), (1014, 1015), (1023, 1024), (1045, 1051), (1058, 1059), (1061, 1063), (1064, 1065)] [(1000, 51), (1000, 52), (1000, 53), (1000, 54), (1000, 55), (1000, 56), (1000, 59), (1000, 63), (1000, 65), (1001, 6)] I I2 ∧ (Z59 I I2)) (BM D A) A) args s 0 0 A) (F0 m 2 ls []) := by
    intro n
    induction n with
    | zero =>
      intro x2_2 Ia2 La2 H locs ls hI hK hr2_2 zz2 hmu
      exact absurd hmu (Nat.not_lt_zero _)
    | succ n ih2 =>
      intro x2_2 Ia2 La2 H locs ls hI hK hr2_2 zz2 hmu2 hM hS hl
      refine lv_iload_n hx hb dX10_goesDay_2 rfl (lv_at hl 0 rfl) ?_
      refine lv_bipush (v := (8)) hx hb dX10_goesDay_3 (by decide) ?_
      refine lv_icmp_ge (tgt := 21) hx hb dX10_goesDay_5 (by decide) (fun c1 => ?_) (fun c1 => ?_)
      · have hc1 := c1
        have q1 := q_le hc1
        refine lv_iconst (v := (0)) hx hb dX10_goesDay_21 (by decide) ?_
        refine lv_istore_n (lv' := [(2, .int (0)), (0, .ref (ad (1000))), (1, .int (a0))]) hx hb dX10_goesDay_22 rfl hl (by decide) rfl (fun ls hl => ?_)
        have loop23 : ∀ (n : Nat) (x2_23 : Int32) (Ia23 : MI) (La23 : ML) (H : Heap) (locs : List Loc) (ls : Array Slot), INV Ia23 → Kp [(1009, 1010), (1014, 1015), (1023, 1024), (1045, 1051), (1058, 1059), (1061, 1063), (1064, 1065)] [(1000, 51), (1000, 52), (1000, 53), (1000, 54), (1000, 55), (1000, 56), (1000, 59), (1000, 63), (1000, 65), (1001, 6)] I Ia23 → (0 ≤ x2_23.toInt ∧ x2_23.toInt ≤ 24) → (Z59 I Ia23) → (24 - x2_23.toInt).toNat < n → Mem D A ad ns Ia23 La23 G H → va_S A s.heap H locs → lv_has ls 4 [(2, .int (x2_23)), (0, .ref (ad (1000))), (1, .int (a0))] → W p l e ({ frames := 5, cells := 0, slots := 0, locals := 128 } : Room) s m args below meth c H locs 0 0 (MQ below (va_Qv (fun u => ∃ I2 L2, u = (ad, ns, I2, L2, G) ∧ INV I2 ∧ Kp [(1009, 1010), (1014, 1015), (1023, 1024), (1045, 1051), (1058, 1059), (1061, 1063), (1064, 1065)] [(1000, 51), (1000, 52), (1000, 53), (1000, 54), (1000, 55), (1000, 56), (1000, 59), (1000, 63), (1000, 65), (1001, 6)] I I2 ∧ (Z59 I I2)) (BM D A) A) args s 0 0 A) (F0 m 23 ls []) := by
          intro n
          induction n with
          | zero =>
            intro x2_23 Ia23 La23 H locs ls hI hK hr2_23 zz23 hmu
            exact absurd hmu (Nat.not_lt_zero _)
          | succ n ih23 =>
            intro x2_23 Ia23 La23 H locs ls hI hK hr2_23 zz23 hmu23 hM hS hl
            refine lv_iload_n hx hb dX10_goesDay_23 rfl (lv_at hl 0 rfl) ?_
            refine lv_bipush (v := (24)) hx hb dX10_goesDay_24 (by decide) ?_
            refine lv_icmp_ge (tgt := 130) hx hb dX10_goesDay_26 (by decide) (fun c2 => ?_) (fun c2 => ?_)
            · have hc2 := c2
              have q2 := q_le hc2
              refine lv_iconst (v := (0)) hx hb dX10_goesDay_130 (by decide) ?_
              refine lv_istore_n (lv' := [(2, .int (0)), (0, .ref (ad (1000))), (1, .int (a0))]) hx hb dX10_goesDay_131 rfl hl (by decide) rfl (fun ls hl => ?_)
              have loop132 : ∀ (n : Nat) (x2_132 : Int32) (Ia132 : MI) (La132 : ML) (H : Heap) (locs : List Loc) (ls : Array Slot), INV Ia132 → Kp [(1009, 1010), (1014, 1015), (1023, 1024), (1045, 1051), (1058, 1059), (1061, 1063), (1064, 1065)] [(1000, 51), (1000, 52), (1000, 53), (1000, 54), (1000, 55), (1000, 56), (1000, 59), (1000, 63), (1000, 65), (1001, 6)] I Ia132 → (0 ≤ x2_132.toInt ∧ x2_132.toInt ≤ 24) → (Z59 I Ia132) → (24 - x2_132.toInt).toNat < n → Mem D A ad ns Ia132 La132 G H → va_S A s.heap H locs → lv_has ls 4 [(2, .int (x2_132)), (0, .ref (ad (1000))), (1, .int (a0))] → W p l e ({ frames := 5, cells := 0, slots := 0, locals := 128 } : Room) s m args below meth c H locs 0 0 (MQ below (va_Qv (fun u => ∃ I2 L2, u = (ad, ns, I2, L2, G) ∧ INV I2 ∧ Kp [(1009, 1010), (1014, 1015), (1023, 1024), (1045, 1051), (1058, 1059), (1061, 1063), (1064, 1065)] [(1000, 51), (1000, 52), (1000, 53), (1000, 54), (1000, 55), (1000, 56), (1000, 59), (1000, 63), (1000, 65), (1001, 6)] I I2 ∧ (Z59 I I2)) (BM D A) A) args s 0 0 A) (F0 m 132 ls []) := by
                intro n
                induction n with
                | zero =>
                  intro x2_132 Ia132 La132 H locs ls hI hK hr2_132 zz132 hmu
                  exact absurd hmu (Nat.not_lt_zero _)
                | succ n ih132 =>
                  intro x2_132 Ia132 La132 H locs ls hI hK hr2_132 zz132 hmu132 hM hS hl
                  refine lv_iload_n hx hb dX10_goesDay_132 rfl (lv_at hl 0 rfl) ?_
                  refine lv_aload_n hx hb dX10_goesDay_133 rfl (lv_at hl 1 rfl) ?_
                  refine m_getr (1000) 1 (1001) hx hb hts hown hE oc10 hM hJ.1 rfl (by decide) rfl (hJ.2 1 (by decide)).2 (by decide) tb_1178 dX10_goesDay_134 ?_
                  refine lv_bipush (v := (8)) hx hb dX10_goesDay_137 (by decide) ?_
                  refine m_iald (1001) hx hb hE hM (hJ.2 1 (by decide)).1 rfl (vp_in_iff.mpr (by decide)) dX10_goesDay_139 ?_
                  rw [show (8 : Int32).toNatClampNeg = 8 from rfl]
                  have g3 := hI.get (1001) 8 (lo := 0) (hi := 24) rfl
                  refine lv_icmp_ge (tgt := 195) hx hb dX10_goesDay_140 (by decide) (fun c4 => ?_) (fun c4 => ?_)
                  · have hc4 := c4
                    have q4 := q_le hc4
                    refine lv_iconst (v := (0)) hx hb dX10_goesDay_195 (by decide) ?_
                    refine lv_istore_n (lv' := [(2, .int (0)), (0, .ref (ad (1000))), (1, .int (a0))]) hx hb dX10_goesDay_196 rfl hl (by decide) rfl (fun ls hl => ?_)
                    have loop197 : ∀ (n : Nat) (x2_197 : Int32) (Ia197 : MI) (La197 : ML) (H : Heap) (locs : List Loc) (ls : Array Slot), INV Ia197 → Kp [(1009, 1010), (1014, 1015), (1023, 1024), (1045, 1051), (1058, 1059), (1061, 1063), (1064, 1065)] [(1000, 51), (1000, 52), (1000, 53), (1000, 54), (1000, 55), (1000, 56), (1000, 59), (1000, 63), (1000, 65), (1001, 6)] I Ia197 → (0 ≤ x2_197.toInt ∧ x2_197.toInt ≤ 8) → (Z59 I Ia197) → (8 - x2_197.toInt).toNat < n → Mem D A ad ns Ia197 La197 G H → va_S A s.heap H locs → lv_has ls 4 [(2, .int (x2_197)), (0, .ref (ad (1000))), (1, .int (a0))] → W p l e ({ frames := 5, cells := 0, slots := 0, locals := 128 } : Room) s m args below meth c H locs 0 0 (MQ below (va_Qv (fun u => ∃ I2 L2, u = (ad, ns, I2, L2, G) ∧ INV I2 ∧ Kp [(1009, 1010), (1014, 1015), (1023, 1024), (1045, 1051), (1058, 1059), (1061, 1063), (1064, 1065)] [(1000, 51), (1000, 52), (1000, 53), (1000, 54), (1000, 55), (1000, 56), (1000, 59), (1000, 63), (1000, 65), (1001, 6)] I I2 ∧ (Z59 I I2)) (BM D A) A) args s 0 0 A) (F0 m 197 ls []) := by
                      intro n
                      induction n with
                      | zero =>
                        intro x2_197 Ia197 La197 H locs ls hI hK hr2_197 zz197 hmu
                        exact absurd hmu (Nat.not_lt_zero _)
                      | succ n ih197 =>
                        intro x2_197 Ia197 La197 H locs ls hI hK hr2_197 zz197 hmu197 hM hS hl
                        refine lv_iload_n hx hb dX10_goesDay_197 rfl (lv_at hl 0 rfl) ?_
                        refine lv_aload_n hx hb dX10_goesDay_198 rfl (lv_at hl 1 rfl) ?_
                        refine m_getr (1000) 1 (1001) hx hb hts hown hE oc10 hM hJ.1 rfl (by decide) rfl (hJ.2 1 (by decide)).2 (by decide) tb_1178 dX10_goesDay_199 ?_
                        refine lv_bipush (v := (9)) hx hb dX10_goesDay_202 (by decide) ?_
                        refine m_iald (1001) hx hb hE hM (hJ.2 1 (by decide)).1 rfl (vp_in_iff.mpr (by decide)) dX10_goesDay_204 ?_
                        rw [show (9 : Int32).toNatClampNeg = 9 from rfl]
                        have g5 := hI.get (1001) 9 (lo := 0) (hi := 8) rfl
                        refine lv_icmp_ge (tgt := 226) hx hb dX10_goesDay_205 (by decide) (fun c6 => ?_) (fun c6 => ?_)
                        · have hc6 := c6
                          have q6 := q_le hc6
                          refine lv_aload_n hx hb dX10_goesDay_226 rfl (lv_at hl 1 rfl) ?_
                          refine m_getr (1000) 1 (1001) hx hb hts hown hE oc10 hM hJ.1 rfl (by decide) rfl (hJ.2 1 (by decide)).2 (by decide) tb_1178 dX10_goesDay_227 ?_
                          refine lv_bipush (v := (6)) hx hb dX10_goesDay_230 (by decide) ?_
                          refine lv_dup2_11 hx hb dX10_goesDay_232 rfl rfl ?_
                          refine m_iald (1001) hx hb hE hM (hJ.2 1 (by decide)).1 rfl (vp_in_iff.mpr (by decide)) dX10_goesDay_233 ?_
                          rw [show (6 : Int32).toNatClampNeg = 6 from rfl]
                          refine lv_iconst (v := (1)) hx hb dX10_goesDay_234 (by decide) ?_
                          refine lv_iadd hx hb dX10_goesDay_235 ?_
                          refine lv_topi (fun v7 ev7 => ?_)
                          refine m_iast (1001) hx hb hE hM hS (hJ.2 1 (by decide)).1 rfl (vp_in_iff.mpr (by decide)) dX10_goesDay_236 (fun H locs I8 eI8 hM hS => ?_)
                          rw [show (6 : Int32).toNatClampNeg = 6 from rfl] at eI8
                          subst eI8
                          have hI := hI.putF (n := 1001) (k := 6) (v := v7) rfl
                          have hK := hK.put (n := 1001) (k := 6) (v := v7) (by first | rfl | simp [inR])
                          have zt9 : Z59 I (u2 Ia197 (1001) 6 (v7)) := zz197.pt (by decide)
                          exact m_vret hx hb hr hlocks hM hS (Nat.le_of_ble_eq_true rfl) (Nat.le_of_ble_eq_true rfl) ⟨_, _, rfl, hI, hK, zt9⟩ dX10_goesDay_237
                        · have hc6 := c6
                          have q6 := q_nle hc6
                          refine lv_aload_n hx hb dX10_goesDay_208 rfl (lv_at hl 1 rfl) ?_
                          refine m_getr (1000) 23 (1023) hx hb hts hown hE oc10 hM hJ.1 rfl (by decide) rfl (hJ.2 23 (by decide)).2 (by decide) tb_1200 dX10_goesDay_209 ?_
                          refine lv_iload_n hx hb dX10_goesDay_212 rfl (lv_at hl 0 rfl) ?_
                          refine lv_aload_n hx hb dX10_goesDay_213 rfl (lv_at hl 1 rfl) ?_
                          refine m_getr (1000) 64 (1064) hx hb hts hown hE oc10 hM hJ.1 rfl (by decide) rfl (hJ.2 64 (by decide)).2 (by decide) tb_1241 dX10_goesDay_214 ?_
                          refine lv_iload_n hx hb dX10_goesDay_217 rfl (lv_at hl 0 rfl) ?_
                          refine m_iald (1064) hx hb hE hM (hJ.2 64 (by decide)).1 rfl (vp_in_iff.mpr (by omega)) dX10_goesDay_218 ?_
                          refine m_iast (1023) hx hb hE hM hS (hJ.2 23 (by decide)).1 rfl (vp_in_iff.mpr (by omega)) dX10_goesDay_219 (fun H locs I10 eI10 hM hS => ?_)
                          subst eI10
                          have hI := hI.putF (n := 1023) (k := ((x2_197).toNatClampNeg)) (v := Ia197 (1064) (x2_197).toNatClampNeg) rfl
                          have hK := hK.put (n := 1023) (k := ((x2_197).toNatClampNeg)) (v := Ia197 (1064) (x2_197).toNatClampNeg) (by first | rfl | simp [inR])
                          have zt11 : Z59 I (u2 Ia197 (1023) ((x2_197).toNatClampNeg) (Ia197 (1064) (x2_197).toNatClampNeg)) := zz197.pt (fun z => absurd z.1 (by decide))
                          obtain ⟨v12, ev12⟩ : ∃ z : Int32, z = x2_197 + Int32.ofInt (1) := ⟨_, rfl⟩
                          have tv12 := a_inc ev12 (by decide) (by omega) (by omega)
                          refine lv_iinc (v := v12) (lv' := [(2, .int (v12)), (0, .ref (ad (1000))), (1, .int (a0))]) hx hb dX10_goesDay_220 hl (k := 0) rfl ev12.symm (by decide) rfl (fun ls hl => ?_)
                          refine lv_goto (tgt := 197) hx hb dX10_goesDay_223 (by decide) ?_
                          exact ih197 (v12) (u2 Ia197 (1023) ((x2_197).toNatClampNeg) (Ia197 (1064) (x2_197).toNatClampNeg)) La197 _ _ ls hI hK (by first | omega | decide) zt11 (by omega) hM hS (lv_sub hl [0, 1, 2] rfl)
                    exact loop197 (_ + 1) (0) Ia132 La132 _ _ ls hI hK (by first | omega | decide) zz132 (Nat.lt_succ_self _) hM hS (lv_sub hl [0, 1, 2] rfl)
                  · have hc4 := c4
                    have q4 := q_nle hc4
                    refine lv_aload_n hx hb dX10_goesDay_143 rfl (lv_at hl 1 rfl) ?_
                    refine m_getr (1000) 14 (1014) hx hb hts hown hE oc10 hM hJ.1 rfl (by decide) rfl (hJ.2 14 (by decide)).2 (by decide) tb_1191 dX10_goesDay_144 ?_
                    refine lv_iload_n hx hb dX10_goesDay_147 rfl (lv_at hl 0 rfl) ?_
                    refine lv_aload_n hx hb dX10_goesDay_148 rfl (lv_at hl 1 rfl) ?_
                    refine m_getr (1000) 14 (1014) hx hb hts hown hE oc10 hM hJ.1 rfl (by decide) rfl (hJ.2 14 (by decide)).2 (by decide) tb_1191 dX10_goesDay_149 ?_
                    refine lv_iload_n hx hb dX10_goesDay_152 rfl (lv_at hl 0 rfl) ?_
                    refine m_iald (1014) hx hb hE hM (hJ.2 14 (by decide)).1 rfl (vp_in_iff.mpr (by omega)) dX10_goesDay_153 ?_
                    refine lv_aload_n hx hb dX10_goesDay_154 rfl (lv_at hl 1 rfl) ?_
                    refine m_getr (1000) 1 (1001) hx hb hts hown hE oc10 hM hJ.1 rfl (by decide) rfl (hJ.2 1 (by decide)).2 (by decide) tb_1178 dX10_goesDay_155 ?_
                    refine lv_bipush (v := (7)) hx hb dX10_goesDay_158 (by decide) ?_
                    refine m_iald (1001) hx hb hE hM (hJ.2 1 (by decide)).1 rfl (vp_in_iff.mpr (by decide)) dX10_goesDay_160 ?_
                    rw [show (7 : Int32).toNatClampNeg = 7 from rfl]
                    refine lv_iadd hx hb dX10_goesDay_161 ?_
                    refine lv_topi (fun v13 ev13 => ?_)
                    refine lv_sipush (v := (1000)) hx hb dX10_goesDay_162 (by decide) ?_
                    refine lv_icmp_le (tgt := 174) hx hb dX10_goesDay_165 (by decide) (fun c14 => ?_) (fun c14 => ?_)
                    · have hc14 := c14
                      have q14 := q_le hc14
                      refine lv_aload_n hx hb dX10_goesDay_174 rfl (lv_at hl 1 rfl) ?_
                      refine m_getr (1000) 14 (1014) hx hb hts hown hE oc10 hM hJ.1 rfl (by decide) rfl (hJ.2 14 (by decide)).2 (by decide) tb_1191 dX10_goesDay_175 ?_
                      refine lv_iload_n hx hb dX10_goesDay_178 rfl (lv_at hl 0 rfl) ?_
                      refine m_iald (1014) hx hb hE hM (hJ.2 14 (by decide)).1 rfl (vp_in_iff.mpr (by omega)) dX10_goesDay_179 ?_
                      refine lv_aload_n hx hb dX10_goesDay_180 rfl (lv_at hl 1 rfl) ?_
                      refine m_getr (1000) 1 (1001) hx hb hts hown hE oc10 hM hJ.1 rfl (by decide) rfl (hJ.2 1 (by decide)).2 (by decide) tb_1178 dX10_goesDay_181 ?_
                      refine lv_bipush (v := (7)) hx hb dX10_goesDay_184 (by decide) ?_
                      refine m_iald (1001) hx hb hE hM (hJ.2 1 (by decide)).1 rfl (vp_in_iff.mpr (by decide)) dX10_goesDay_186 ?_
                      rw [show (7 : Int32).toNatClampNeg = 7 from rfl]
                      refine lv_iadd hx hb dX10_goesDay_187 ?_
                      refine lv_topi (fun v15 ev15 => ?_)
                      refine m_iast (1014) hx hb hE hM hS (hJ.2 14 (by decide)).1 rfl (vp_in_iff.mpr (by omega)) dX10_goesDay_188 (fun H locs I16 eI16 hM hS => ?_)
                      subst eI16
                      have hI := hI.putF (n := 1014) (k := ((x2_132).toNatClampNeg)) (v := v15) rfl
                      have hK := hK.put (n := 1014) (k := ((x2_132).toNatClampNeg)) (v := v15) (by first | rfl | simp [inR])
                      have zt17 : Z59 I (u2 Ia132 (1014) ((x2_132).toNatClampNeg) (v15)) := zz132.pt (fun z => absurd z.1 (by decide))
                      obtain ⟨v18, ev18⟩ : ∃ z : Int32, z = x2_132 + Int32.ofInt (1) := ⟨_, rfl⟩
                      have tv18 := a_inc ev18 (by decide) (by omega) (by omega)
                      refine lv_iinc (v := v18) (lv' := [(2, .int (v18)), (0, .ref (ad (1000))), (1, .int (a0))]) hx hb dX10_goesDay_189 hl (k := 0) rfl ev18.symm (by decide) rfl (fun ls hl => ?_)
                      refine lv_goto (tgt := 132) hx hb dX10_goesDay_192 (by decide) ?_
                      exact ih132 (v18) (u2 Ia132 (1014) ((x2_132).toNatClampNeg) (v15)) La132 _ _ ls hI hK (by first | omega | decide) zt17 (by omega) hM hS (lv_sub hl [0, 1, 2] rfl)
                    · have hc14 := c14
                      have q14 := q_nle hc14
                      refine lv_sipush (v := (1000)) hx hb dX10_goesDay_168 (by decide) ?_
                      refine lv_goto (tgt := 188) hx hb dX10_goesDay_171 (by decide) ?_
                      refine m_iast (1014) hx hb hE hM hS (hJ.2 14 (by decide)).1 rfl (vp_in_iff.mpr (by omega)) dX10_goesDay_188 (fun H locs I19 eI19 hM hS => ?_)
                      subst eI19
                      have hI := hI.putF (n := 1014) (k := ((x2_132).toNatClampNeg)) (v := 1000) rfl
                      have hK := hK.put (n := 1014) (k := ((x2_132).toNatClampNeg)) (v := 1000) (by first | rfl | simp [inR])
                      have zt20 : Z59 I (u2 Ia132 (1014) ((x2_132).toNatClampNeg) (1000)) := zz132.pt (fun z => absurd z.1 (by decide))
                      obtain ⟨v21, ev21⟩ : ∃ z : Int32, z = x2_132 + Int32.ofInt (1) := ⟨_, rfl⟩
                      have tv21 := a_inc ev21 (by decide) (by omega) (by omega)
                      refine lv_iinc (v := v21) (lv' := [(2, .int (v21)), (0, .ref (ad (1000))), (1, .int (a0))]) hx hb dX10_goesDay_189 hl (k := 0) rfl ev21.symm (by decide) rfl (fun ls hl => ?_)
                      refine lv_goto (tgt := 132) hx hb dX10_goesDay_192 (by decide) ?_
                      exact ih132 (v21) (u2 Ia132 (1014) ((x2_132).toNatClampNeg) (1000)) La132 _ _ ls hI hK (by first | omega | decide) zt20 (by omega) hM hS (lv_sub hl [0, 1, 2] rfl)
              exact loop132 (_ + 1) (0) Ia23 La23 _ _ ls hI hK (by first | omega | decide) zz23 (Nat.lt_succ_self _) hM hS (lv_sub hl [0, 1, 2] rfl)
            · have hc2 := c2
              have q2 := q_nle hc2
              refine lv_iconst (v := (0)) hx hb dX10_goesDay_29 (by decide) ?_
              refine lv_istore_n (lv' := [(3, .int (0)), (2, .int (x2_23)), (0, .ref (ad (1000))), (1, .int (a0))]) hx hb dX10_goesDay_30 rfl hl (by decide) rfl (fun ls hl => ?_)
              have loop31 : ∀ (n : Nat) (x3_31 : Int32) (Ia31 : MI) (La31 : ML) (H : Heap) (locs : List Loc) (ls : Array Slot), INV Ia31 → Kp [(1009, 1010), (1014, 1015), (1023, 1024), (1045, 1051), (1058, 1059), (1061, 1063), (1064, 1065)] [(1000, 51), (1000, 52), (1000, 53), (1000, 54), (1000, 55), (1000, 56), (1000, 59), (1000, 63), (1000, 65), (1001, 6)] I Ia31 → (0 ≤ x3_31.toInt ∧ x3_31.toInt ≤ 24) → (Z59 I Ia31) → (24 - x3_31.toInt).toNat < n → Mem D A ad ns Ia31 La31 G H → va_S A s.heap H locs → lv_has ls 4 [(3, .int (x3_31)), (2, .int (x2_23)), (0, .ref (ad (1000))), (1, .int (a0))] → W p l e ({ frames := 5, cells := 0, slots := 0, locals := 128 } : Room) s m args below meth c H locs 0 0 (MQ below (va_Qv (fun u => ∃ I2 L2, u = (ad, ns, I2, L2, G) ∧ INV I2 ∧ Kp [(1009, 1010), (1014, 1015), (1023, 1024), (1045, 1051), (1058, 1059), (1061, 1063), (1064, 1065)] [(1000, 51), (1000, 52), (1000, 53), (1000, 54), (1000, 55), (1000, 56), (1000, 59), (1000, 63), (1000, 65), (1001, 6)] I I2 ∧ (Z59 I I2)) (BM D A) A) args s 0 0 A) (F0 m 31 ls []) := by
                intro n
                induction n with
                | zero =>
                  intro x3_31 Ia31 La31 H locs ls hI hK hr3_31 zz31 hmu
                  exact absurd hmu (Nat.not_lt_zero _)
                | succ n ih31 =>
                  intro x3_31 Ia31 La31 H locs ls hI hK hr3_31 zz31 hmu31 hM hS hl
                  refine lv_iload_n hx hb dX10_goesDay_31 rfl (lv_at hl 0 rfl) ?_
                  refine lv_aload_n hx hb dX10_goesDay_32 rfl (lv_at hl 2 rfl) ?_
                  refine m_getr (1000) 1 (1001) hx hb hts hown hE oc10 hM hJ.1 rfl (by decide) rfl (hJ.2 1 (by decide)).2 (by decide) tb_1178 dX10_goesDay_33 ?_
                  refine lv_bipush (v := (8)) hx hb dX10_goesDay_36 (by decide) ?_
                  refine m_iald (1001) hx hb hE hM (hJ.2 1 (by decide)).1 rfl (vp_in_iff.mpr (by decide)) dX10_goesDay_38 ?_
                  rw [show (8 : Int32).toNatClampNeg = 8 from rfl]
                  have g22 := hI.get (1001) 8 (lo := 0) (hi := 24) rfl
                  refine lv_icmp_ge (tgt := 55) hx hb dX10_goesDay_39 (by decide) (fun c23 => ?_) (fun c23 => ?_)
                  · have hc23 := c23
                    have q23 := q_le hc23
                    refine lv_aload_n hx hb dX10_goesDay_55 rfl (lv_at hl 2 rfl) ?_
                    refine lv_iload_n hx hb dX10_goesDay_56 rfl (lv_at hl 1 rfl) ?_
                    refine m_calli (m_runV (1000) (As := [.int (x2_23)]) (rest := []) hx hb hml hown hts hE hM hS hA ce_X10_sunOf tb_1625 (V_X10_sunOf l D A ad ns Ia31 La31 G (x2_23) hJ hI (by first | omega | decide)) rfl rfl ⟨Nat.le_of_ble_eq_true rfl, Nat.le_of_ble_eq_true rfl⟩ hJ.1 rfl rfl (by decide) rfl hl.1 rfl (Nat.le_of_ble_eq_true rfl) dX10_goesDay_57 ⟨Nat.le_of_ble_eq_true rfl, Nat.le_of_ble_eq_true rfl⟩) hS (fun r24 u H locs hw hM hS => ?_)
                    obtain ⟨rfl, xr24⟩ := hw
                    have hM : Mem D A ad ns Ia31 La31 G H := hM
                    refine lv_iconst (v := (-1)) hx hb dX10_goesDay_60 (by decide) ?_
                    refine lv_icmp_eq (tgt := 124) hx hb dX10_goesDay_61 (by decide) (fun c25 => ?_) (fun c25 => ?_)
                    · have hc25 := c25
                      have q25 := q_eq hc25
                      obtain ⟨v26, ev26⟩ : ∃ z : Int32, z = x2_23 + Int32.ofInt (1) := ⟨_, rfl⟩
                      have tv26 := a_inc ev26 (by decide) (by omega) (by omega)
                      refine lv_iinc (v := v26) (lv' := [(2, .int (v26)), (3, .int (x3_31)), (0, .ref (ad (1000))), (1, .int (a0))]) hx hb dX10_goesDay_124 hl (k := 1) rfl ev26.symm (by decide) rfl (fun ls hl => ?_)
                      refine lv_goto (tgt := 23) hx hb dX10_goesDay_127 (by decide) ?_
                      exact ih23 (v26) Ia31 La31 _ _ ls hI hK (by first | omega | decide) zz31 (by omega) hM hS (lv_sub hl [0, 2, 3] rfl)
                    · have hc25 := c25
                      have q25 := q_ne hc25
                      refine lv_aload_n hx hb dX10_goesDay_64 rfl (lv_at hl 2 rfl) ?_
                      refine lv_iload_n hx hb dX10_goesDay_65 rfl (lv_at hl 1 rfl) ?_
                      refine m_callv (m_runV (1000) (As := [.int (x2_23)]) (rest := []) hx hb hml hown hts hE hM hS hA ce_X10_shines tb_1640 (V_X10_shines_z l D A ad ns Ia31 La31 G (x2_23) hJ hI (by first | omega | decide)) rfl rfl ⟨Nat.le_of_ble_eq_true rfl, Nat.le_of_ble_eq_true rfl⟩ hJ.1 rfl rfl (by decide) rfl hl.1 rfl (Nat.le_of_ble_eq_true rfl) dX10_goesDay_66 ⟨Nat.le_of_ble_eq_true rfl, Nat.le_of_ble_eq_true rfl⟩) hS (fun u H locs hw hM hS => ?_)
                      obtain ⟨I27, L28, rfl, hI, hkI27, xI27⟩ := hw
                      have hM : Mem D A ad ns I27 L28 G H := hM
                      have hK := hK.trans hkI27 rfl
                      have zI27 := xI27
                      have zt29a : ZA I27 := zI27
                      refine lv_iconst (v := (0)) hx hb dX10_goesDay_69 (by decide) ?_
                      refine lv_istore_n (lv' := [(3, .int (0)), (2, .int (x2_23)), (0, .ref (ad (1000))), (1, .int (a0))]) hx hb dX10_goesDay_70 rfl hl (by decide) rfl (fun ls hl => ?_)
                      have loop71 : ∀ (n : Nat) (x3_71 : Int32) (Ia71 : MI) (La71 : ML) (H : Heap) (locs : List Loc) (ls : Array Slot), INV Ia71 → Kp [(1009, 1010), (1014, 1015), (1023, 1024), (1045, 1051), (1058, 1059), (1061, 1063), (1064, 1065)] [(1000, 51), (1000, 52), (1000, 53), (1000, 54), (1000, 55), (1000, 56), (1000, 59), (1000, 63), (1000, 65), (1001, 6)] I Ia71 → (0 ≤ x3_71.toInt ∧ x3_71.toInt ≤ 8) → (Z59 I Ia71) → (8 - x3_71.toInt).toNat < n → Mem D A ad ns Ia71 La71 G H → va_S A s.heap H locs → lv_has ls 4 [(3, .int (x3_71)), (2, .int (x2_23)), (0, .ref (ad (1000))), (1, .int (a0))] → W p l e ({ frames := 5, cells := 0, slots := 0, locals := 128 } : Room) s m args below meth c H locs 0 0 (MQ below (va_Qv (fun u => ∃ I2 L2, u = (ad, ns, I2, L2, G) ∧ INV I2 ∧ Kp [(1009, 1010), (1014, 1015), (1023, 1024), (1045, 1051), (1058, 1059), (1061, 1063), (1064, 1065)] [(1000, 51), (1000, 52), (1000, 53), (1000, 54), (1000, 55), (1000, 56), (1000, 59), (1000, 63), (1000, 65), (1001, 6)] I I2 ∧ (Z59 I I2)) (BM D A) A) args s 0 0 A) (F0 m 71 ls []) := by
                        intro n
                        induction n with
                        | zero =>
                          intro x3_71 Ia71 La71 H locs ls hI hK hr3_71 zz71 hmu
                          exact absurd hmu (Nat.not_lt_zero _)
                        | succ n ih71 =>
                          intro x3_71 Ia71 La71 H locs ls hI hK hr3_71 zz71 hmu71 hM hS hl
                          refine lv_iload_n hx hb dX10_goesDay_71 rfl (lv_at hl 0 rfl) ?_
                          refine lv_aload_n hx hb dX10_goesDay_72 rfl (lv_at hl 2 rfl) ?_
                          refine m_getr (1000) 1 (1001) hx hb hts hown hE oc10 hM hJ.1 rfl (by decide) rfl (hJ.2 1 (by decide)).2 (by decide) tb_1178 dX10_goesDay_73 ?_
                          refine lv_bipush (v := (9)) hx hb dX10_goesDay_76 (by decide) ?_
                          refine m_iald (1001) hx hb hE hM (hJ.2 1 (by decide)).1 rfl (vp_in_iff.mpr (by decide)) dX10_goesDay_78 ?_
                          rw [show (9 : Int32).toNatClampNeg = 9 from rfl]
                          have g30 := hI.get (1001) 9 (lo := 0) (hi := 8) rfl
                          refine lv_icmp_ge (tgt := 103) hx hb dX10_goesDay_79 (by decide) (fun c31 => ?_) (fun c31 => ?_)
                          · have hc31 := c31
                            have q31 := q_le hc31
                            refine lv_aload_n hx hb dX10_goesDay_103 rfl (lv_at hl 2 rfl) ?_
                            refine lv_dup hx hb dX10_goesDay_104 rfl ?_
                            refine m_geti (1000) 65 hx hb hts hown hE oc10 hM hJ.1 rfl (by decide) rfl tb_1242 dX10_goesDay_105 ?_
                            refine lv_aload_n hx hb dX10_goesDay_108 rfl (lv_at hl 2 rfl) ?_
                            refine m_calli (m_runV (1000) (As := []) (rest := [.int (Ia71 (1000) 65), .ref (ad (1000))]) hx hb hml hown hts hE hM hS hA ce_X10_blindCells tb_1670 (V_X10_blindCells l D A ad ns Ia71 La71 G hJ hI) rfl rfl ⟨Nat.le_of_ble_eq_true rfl, Nat.le_of_ble_eq_true rfl⟩ hJ.1 rfl rfl (by decide) rfl hl.1 rfl (Nat.le_of_ble_eq_true rfl) dX10_goesDay_109 ⟨Nat.le_of_ble_eq_true rfl, Nat.le_of_ble_eq_true rfl⟩) hS (fun r32 u H locs hw hM hS => ?_)
                            obtain ⟨rfl, xr32⟩ := hw
                            have hM : Mem D A ad ns Ia71 La71 G H := hM
                            refine lv_if_le (tgt := 119) hx hb dX10_goesDay_112 (by decide) (fun c33 => ?_) (fun c33 => ?_)
                            · have hc33 := c33
                              have q33 := q_le hc33
                              refine lv_iconst (v := (0)) hx hb dX10_goesDay_119 (by decide) ?_
                              refine lv_iadd hx hb dX10_goesDay_120 ?_
                              refine lv_topi (fun v34 ev34 => ?_)
                              refine m_puti (1000) 65 hx hb hts hown hE oc10 hM hS hJ.1 rfl (by decide) rfl rfl rfl rfl tb_1242 dX10_goesDay_121 (fun H locs I35 eI35 hM hS => ?_)
                              subst eI35
                              have hI := hI.putF (n := 1000) (k := 65) (v := v34) rfl
                              have hK := hK.put (n := 1000) (k := 65) (v := v34) (by first | rfl | simp [inR])
                              have zt36 : Z59 I (u2 Ia71 (1000) 65 (v34)) := zz71.pt (by decide)
                              obtain ⟨v37, ev37⟩ : ∃ z : Int32, z = x2_23 + Int32.ofInt (1) := ⟨_, rfl⟩
                              have tv37 := a_inc ev37 (by decide) (by omega) (by omega)
                              refine lv_iinc (v := v37) (lv' := [(2, .int (v37)), (3, .int (x3_71)), (0, .ref (ad (1000))), (1, .int (a0))]) hx hb dX10_goesDay_124 hl (k := 1) rfl ev37.symm (by decide) rfl (fun ls hl => ?_)
                              refine lv_goto (tgt := 23) hx hb dX10_goesDay_127 (by decide) ?_
                              exact ih23 (v37) (u2 Ia71 (1000) 65 (v34)) La71 _ _ ls hI hK (by first | omega | decide) zt36 (by omega) hM hS (lv_sub hl [0, 2, 3] rfl)
                            · have hc33 := c33
                              have q33 := q_nle hc33
                              refine lv_iconst (v := (1)) hx hb dX10_goesDay_115 (by decide) ?_
                              refine lv_goto (tgt := 120) hx hb dX10_goesDay_116 (by decide) ?_
                              refine lv_iadd hx hb dX10_goesDay_120 ?_
                              refine lv_topi (fun v38 ev38 => ?_)
                              refine m_puti (1000) 65 hx hb hts hown hE oc10 hM hS hJ.1 rfl (by decide) rfl rfl rfl rfl tb_1242 dX10_goesDay_121 (fun H locs I39 eI39 hM hS => ?_)
                              subst eI39
                              have hI := hI.putF (n := 1000) (k := 65) (v := v38) rfl
                              have hK := hK.put (n := 1000) (k := 65) (v := v38) (by first | rfl | simp [inR])
                              have zt40 : Z59 I (u2 Ia71 (1000) 65 (v38)) := zz71.pt (by decide)
                              obtain ⟨v41, ev41⟩ : ∃ z : Int32, z = x2_23 + Int32.ofInt (1) := ⟨_, rfl⟩
                              have tv41 := a_inc ev41 (by decide) (by omega) (by omega)
                              refine lv_iinc (v := v41) (lv' := [(2, .int (v41)), (3, .int (x3_71)), (0, .ref (ad (1000))), (1, .int (a0))]) hx hb dX10_goesDay_124 hl (k := 1) rfl ev41.symm (by decide) rfl (fun ls hl => ?_)
                              refine lv_goto (tgt := 23) hx hb dX10_goesDay_127 (by decide) ?_
                              exact ih23 (v41) (u2 Ia71 (1000) 65 (v38)) La71 _ _ ls hI hK (by first | omega | decide) zt40 (by omega) hM hS (lv_sub hl [0, 2, 3] rfl)
                          · have hc31 := c31
                            have q31 := q_nle hc31
                            refine lv_aload_n hx hb dX10_goesDay_82 rfl (lv_at hl 2 rfl) ?_
                            refine m_getr (1000) 64 (1064) hx hb hts hown hE oc10 hM hJ.1 rfl (by decide) rfl (hJ.2 64 (by decide)).2 (by decide) tb_1241 dX10_goesDay_83 ?_
                            refine lv_iload_n hx hb dX10_goesDay_86 rfl (lv_at hl 0 rfl) ?_
                            refine lv_dup2_11 hx hb dX10_goesDay_87 rfl rfl ?_
                            refine m_iald (1064) hx hb hE hM (hJ.2 64 (by decide)).1 rfl (vp_in_iff.mpr (by omega)) dX10_goesDay_88 ?_
                            refine lv_aload_n hx hb dX10_goesDay_89 rfl (lv_at hl 2 rfl) ?_
                            refine m_getr (1000) 50 (1050) hx hb hts hown hE oc10 hM hJ.1 rfl (by decide) rfl (hJ.2 50 (by decide)).2 (by decide) tb_1227 dX10_goesDay_90 ?_
                            refine lv_iload_n hx hb dX10_goesDay_93 rfl (lv_at hl 0 rfl) ?_
                            refine m_iald (1050) hx hb hE hM (hJ.2 50 (by decide)).1 rfl (vp_in_iff.mpr (by omega)) dX10_goesDay_94 ?_
                            refine lv_iadd hx hb dX10_goesDay_95 ?_
                            refine lv_topi (fun v42 ev42 => ?_)
                            refine m_iast (1064) hx hb hE hM hS (hJ.2 64 (by decide)).1 rfl (vp_in_iff.mpr (by omega)) dX10_goesDay_96 (fun H locs I43 eI43 hM hS => ?_)
                            subst eI43
                            have hI := hI.putF (n := 1064) (k := ((x3_71).toNatClampNeg)) (v := v42) rfl
                            have hK := hK.put (n := 1064) (k := ((x3_71).toNatClampNeg)) (v := v42) (by first | rfl | simp [inR])
                            have zt44 : Z59 I (u2 Ia71 (1064) ((x3_71).toNatClampNeg) (v42)) := zz71.pt (fun z => absurd z.1 (by decide))
                            obtain ⟨v45, ev45⟩ : ∃ z : Int32, z = x3_71 + Int32.ofInt (1) := ⟨_, rfl⟩
                            have tv45 := a_inc ev45 (by decide) (by omega) (by omega)
                            refine lv_iinc (v := v45) (lv' := [(3, .int (v45)), (2, .int (x2_23)), (0, .ref (ad (1000))), (1, .int (a0))]) hx hb dX10_goesDay_97 hl (k := 0) rfl ev45.symm (by decide) rfl (fun ls hl => ?_)
                            refine lv_goto (tgt := 71) hx hb dX10_goesDay_100 (by decide) ?_
                            exact ih71 (v45) (u2 Ia71 (1064) ((x3_71).toNatClampNeg) (v42)) La71 _ _ ls hI hK (by first | omega | decide) zt44 (by omega) hM hS (lv_sub hl [0, 1, 2, 3] rfl)
                      exact loop71 (_ + 1) (0) I27 L28 _ _ ls hI hK (by first | omega | decide) (ZA.z zt29a) (Nat.lt_succ_self _) hM hS (lv_sub hl [0, 1, 2, 3] rfl)
                  · have hc23 := c23
                    have q23 := q_nle hc23
                    refine lv_aload_n hx hb dX10_goesDay_42 rfl (lv_at hl 2 rfl) ?_
                    refine lv_iload_n hx hb dX10_goesDay_43 rfl (lv_at hl 3 rfl) ?_
                    refine lv_iload_n hx hb dX10_goesDay_44 rfl (lv_at hl 1 rfl) ?_
                    refine lv_iload_n hx hb dX10_goesDay_45 rfl (lv_at hl 0 rfl) ?_
                    refine m_callv (m_runV (1000) (As := [.int (a0), .int (x2_23), .int (x3_31)]) (rest := []) hx hb hml hown hts hE hM hS hA ce_X10_turns tb_1617 (V_X10_turns l D A ad ns Ia31 La31 G (a0) (x2_23) (x3_31) hJ hI (hLR.kp hK rfl) (by first | omega | decide) (by first | omega | decide) (by first | omega | decide)) rfl rfl ⟨Nat.le_of_ble_eq_true rfl, Nat.le_of_ble_eq_true rfl⟩ hJ.1 rfl rfl (by decide) rfl hl.1 rfl (Nat.le_of_ble_eq_true rfl) dX10_goesDay_46 ⟨Nat.le_of_ble_eq_true rfl, Nat.le_of_ble_eq_true rfl⟩) hS (fun u H locs hw hM hS => ?_)
                    obtain ⟨I46, L47, rfl, hI, hkI46⟩ := hw
                    have hM : Mem D A ad ns I46 L47 G H := hM
                    have hK := hK.trans hkI46 rfl
                    have zt48 : Z59 I I46 := zz31.eq (hkI46.get 1000 59 rfl)
                    obtain ⟨v49, ev49⟩ : ∃ z : Int32, z = x3_31 + Int32.ofInt (1) := ⟨_, rfl⟩
                    have tv49 := a_inc ev49 (by decide) (by omega) (by omega)
                    refine lv_iinc (v := v49) (lv' := [(3, .int (v49)), (2, .int (x2_23)), (0, .ref (ad (1000))), (1, .int (a0))]) hx hb dX10_goesDay_49 hl (k := 0) rfl ev49.symm (by decide) rfl (fun ls hl => ?_)
                    refine lv_goto (tgt := 31) hx hb dX10_goesDay_52 (by decide) ?_
                    exact ih31 (v49) I46 L47 _ _ ls hI hK (by first | omega | decide) zt48 (by omega) hM hS (lv_sub hl [0, 1, 2, 3] rfl)
              exact loop31 (_ + 1) (0) Ia23 La23 _ _ ls hI hK (by first | omega | decide) zz23 (Nat.lt_succ_self _) hM hS (lv_sub hl [0, 1, 2, 3] rfl)
        exact loop23 (_ + 1) (0) Ia2 La2 _ _ ls hI hK (by first | omega | decide) zz2 (Nat.lt_succ_self _) hM hS (lv_sub hl [0, 1, 2] rfl)
      · have hc1 := c1
        have q1 := q_nle hc1
        refine lv_aload_n hx hb dX10_goesDay_8 rfl (lv_at hl 1 rfl) ?_
        refine m_getr (1000) 64 (1064) hx hb hts hown hE oc10 hM hJ.1 rfl (by decide) rfl (hJ.2 64 (by decide)).2 (by decide) tb_1241 dX10_goesDay_9 ?_
        refine lv_iload_n hx hb dX10_goesDay_12 rfl (lv_at hl 0 rfl) ?_
        refine lv_iconst (v := (0)) hx hb dX10_goesDay_13 (by decide) ?_
        refine m_iast (1064) hx hb hE hM hS (hJ.2 64 (by decide)).1 rfl (vp_in_iff.mpr (by omega)) dX10_goesDay_14 (fun H locs I50 eI50 hM hS => ?_)
        subst eI50
        have hI := hI.putF (n := 1064) (k := ((x2_2).toNatClampNeg)) (v := 0) rfl
        have hK := hK.put (n := 1064) (k := ((x2_2).toNatClampNeg)) (v := 0) (by first | rfl | simp [inR])
        have zt51 : Z59 I (u2 Ia2 (1064) ((x2_2).toNatClampNeg) (0)) := zz2.pt (fun z => absurd z.1 (by decide))
        obtain ⟨v52, ev52⟩ : ∃ z : Int32, z = x2_2 + Int32.ofInt (1) := ⟨_, rfl⟩
        have tv52 := a_inc ev52 (by decide) (by omega) (by omega)
        refine lv_iinc (v := v52) (lv' := [(2, .int (v52)), (0, .ref (ad (1000))), (1, .int (a0))]) hx hb dX10_goesDay_15 hl (k := 0) rfl ev52.symm (by decide) rfl (fun ls hl => ?_)
        refine lv_goto (tgt := 2) hx hb dX10_goesDay_18 (by decide) ?_
        exact ih2 (v52) (u2 Ia2 (1064) ((x2_2).toNatClampNeg) (0)) La2 _ _ ls hI hK (by first | omega | decide) zt51 (by omega) hM hS (lv_sub hl [0, 1, 2] rfl)
  exact loop2 (_ + 1) (0) I L _ _ ls hI hK (by first | omega | decide) Z59.rf (Nat.lt_succ_self _) hM hS (lv_sub hl [0, 1, 2] rfl)
