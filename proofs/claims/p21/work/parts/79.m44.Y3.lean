set_option maxHeartbeats 4000000 in
set_option maxRecDepth 20000 in
theorem V_X10_goesDay_y (l : Launch) (D : va_G) (A : Nat → Prop) (ad : Nat → Nat) (ns : List Nat) (I : MI) (L : ML) (G : MG) (lw : LWt) (a0 : Int32) (hJ : SGM ns G) (hI : INV I) (hLR : LRL lw I (a0).toNatClampNeg) (hLF : LWF lw) (hOK : OKW (live I)) (hRK : RKw (live I)) (ht1 : (I 1001 0).toInt = 1) (hsk : (I 1000 59).toInt = 0) (ha0 : 0 ≤ a0.toInt ∧ a0.toInt ≤ 5) : Met l yX10_goesDay (wd yX10_goesDay cX10_goesDay 4 none) ({ frames := 5, cells := 0, slots := 0, locals := 128 }) (va_Pc [.ref (ad (1000)), .int a0] (PM D A ad ns I L G)) (va_Qv (fun u => ∃ I2 L2, u = (ad, ns, I2, L2, G) ∧ INV I2 ∧ Kp [(1009, 1010), (1014, 1015), (1023, 1024), (1045, 1051), (1064, 1065)] [(1000, 51), (1000, 52), (1000, 53), (1000, 54), (1000, 55), (1000, 56), (1000, 59), (1000, 65), (1001, 6)] I I2 ∧ (EqV (dayS lw (live I)) (live I2) ∧ (I2 1000 59).toInt = 0 ∧ I2 1000 65 = I 1000 65 + blS lw (live I) 24)) (BM D A) A) 0 0 A := by
  refine m_ofW (by decide) (Nat.le_of_ble_eq_true rfl) ?_
  intro p e s m below meth c ls args hC hE hM hA hS hl
  obtain ⟨hx, hb, hml, hown, hts, hr, hlocks, hin⟩ := hC
  have km1 : (-1 : Int32).toInt = -1 := by decide
  have k0 : (0 : Int32).toInt = 0 := by decide
  have k1 : (1 : Int32).toInt = 1 := by decide
  have k6 : (6 : Int32).toInt = 6 := by decide
  have k7 : (7 : Int32).toInt = 7 := by decide
  have k8 : (8 : Int32).toInt = 8 := by decide
  have k9 : (9 : Int32).toInt = 9 := by decide
  have k24 : (24 : Int32).toInt = 24 := by decide
  have k1000 : (1000 : Int32).toInt = 1000 := by decide
  have hK : Kp [(1009, 1010), (1014, 1015), (1023, 1024), (1045, 1051), (1064, 1065)] [(1000, 51), (1000, 52), (1000, 53), (1000, 54), (1000, 55), (1000, 56), (1000, 59), (1000, 65), (1001, 6)] I I := Kp.rf
  have hl : lv_has ls 4 [(0, .ref (ad (1000))), (1, .int (a0))] := hl
  refine lv_iconst (v := (0)) hx hb dX10_goesDay_0 (by decide) ?_
  refine lv_istore_n (lv' := [(2, .int (0)), (0, .ref (ad (1000))), (1, .int (a0))]) hx hb dX10_goesDay_1 rfl hl (by decide) rfl (fun ls hl => ?_)
  have loop2 : ∀ (n : Nat) (x2_2 : Int32) (Ia2 : MI) (La2 : ML) (H : Heap) (locs : List Loc) (ls : Array Slot), INV Ia2 → Kp [(1009, 1010), (1014, 1015), (1023, 1024), (1045, 1051), (1064, 1065)] [(1000, 51), (1000, 52), (1000, 53), (1000, 54), (1000, 55), (1000, 56), (1000, 59), (1000, 65), (1001, 6)] I Ia2 → (0 ≤ x2_2.toInt ∧ x2_2.toInt ≤ 8) → (EqV (live I) (live Ia2)) → (∀ j : Nat, j < (x2_2).toNatClampNeg → Ia2 1064 j = 0) → (Ia2 1000 59 = I 1000 59) → (Ia2 1000 65 = I 1000 65) → (8 - x2_2.toInt).toNat < n → Mem D A ad ns Ia2 La2 G H → va_S A s.heap H locs → lv_has ls 4 [(2, .int (x2_2)), (0, .ref (ad (1000))), (1, .int (a0))] → W p l e ({ frames := 5, cells := 0, slots := 0, locals := 128 } : Room) s m args below meth c H locs 0 0 (MQ below (va_Qv (fun u => ∃ I2 L2, u = (ad, ns, I2, L2, G) ∧ INV I2 ∧ Kp [(1009, 1010), (1014, 1015), (1023, 1024), (1045, 1051), (1064, 1065)] [(1000, 51), (1000, 52), (1000, 53), (1000, 54), (1000, 55), (1000, 56), (1000, 59), (1000, 65), (1001, 6)] I I2 ∧ (EqV (dayS lw (live I)) (live I2) ∧ (I2 1000 59).toInt = 0 ∧ I2 1000 65 = I 1000 65 + blS lw (live I) 24)) (BM D A) A) args s 0 0 A) (F0 m 2 ls []) := by
    intro n
    induction n with
    | zero =>
      intro x2_2 Ia2 La2 H locs ls hI hK hr2_2 hv2 hg2 hs2 hb2 hmu
      exact absurd hmu (Nat.not_lt_zero _)
    | succ n ih2 =>
      intro x2_2 Ia2 La2 H locs ls hI hK hr2_2 hv2 hg2 hs2 hb2 hmu2 hM hS hl
      refine lv_iload_n hx hb dX10_goesDay_2 rfl (lv_at hl 0 rfl) ?_
      refine lv_bipush (v := (8)) hx hb dX10_goesDay_3 (by decide) ?_
      refine lv_icmp_ge (tgt := 21) hx hb dX10_goesDay_5 (by decide) (fun c1 => ?_) (fun c1 => ?_)
      · have hc1 := c1
        have q1 := q_le hc1
        refine lv_iconst (v := (0)) hx hb dX10_goesDay_21 (by decide) ?_
        refine lv_istore_n (lv' := [(2, .int (0)), (0, .ref (ad (1000))), (1, .int (a0))]) hx hb dX10_goesDay_22 rfl hl (by decide) rfl (fun ls hl => ?_)
        have loop23 : ∀ (n : Nat) (x2_23 : Int32) (Ia23 : MI) (La23 : ML) (H : Heap) (locs : List Loc) (ls : Array Slot), INV Ia23 → Kp [(1009, 1010), (1014, 1015), (1023, 1024), (1045, 1051), (1064, 1065)] [(1000, 51), (1000, 52), (1000, 53), (1000, 54), (1000, 55), (1000, 56), (1000, 59), (1000, 65), (1001, 6)] I Ia23 → (0 ≤ x2_23.toInt ∧ x2_23.toInt ≤ 24) → (EqV ((dyS lw (live I) (x2_23).toNatClampNeg).1) (live Ia23)) → (∀ j : Nat, j < 8 → Ia23 1064 j = (dyS lw (live I) (x2_23).toNatClampNeg).2 j) → ((Ia23 1000 59).toInt = 0) → (Ia23 1000 65 = I 1000 65 + blS lw (live I) (x2_23).toNatClampNeg) → (24 - x2_23.toInt).toNat < n → Mem D A ad ns Ia23 La23 G H → va_S A s.heap H locs → lv_has ls 4 [(2, .int (x2_23)), (0, .ref (ad (1000))), (1, .int (a0))] → W p l e ({ frames := 5, cells := 0, slots := 0, locals := 128 } : Room) s m args below meth c H locs 0 0 (MQ below (va_Qv (fun u => ∃ I2 L2, u = (ad, ns, I2, L2, G) ∧ INV I2 ∧ Kp [(1009, 1010), (1014, 1015), (1023, 1024), (1045, 1051), (1064, 1065)] [(1000, 51), (1000, 52), (1000, 53), (1000, 54), (1000, 55), (1000, 56), (1000, 59), (1000, 65), (1001, 6)] I I2 ∧ (EqV (dayS lw (live I)) (live I2) ∧ (I2 1000 59).toInt = 0 ∧ I2 1000 65 = I 1000 65 + blS lw (live I) 24)) (BM D A) A) args s 0 0 A) (F0 m 23 ls []) := by
          intro n
          induction n with
          | zero =>
            intro x2_23 Ia23 La23 H locs ls hI hK hr2_23 hv23 hg23 hs23 hb23 hmu
            exact absurd hmu (Nat.not_lt_zero _)
          | succ n ih23 =>
            intro x2_23 Ia23 La23 H locs ls hI hK hr2_23 hv23 hg23 hs23 hb23 hmu23 hM hS hl
            have hw23 : OKW (dyS lw (live I) (x2_23).toNatClampNeg).1 := dyS_ok hOK _
            have hr23 : RKw (dyS lw (live I) (x2_23).toNatClampNeg).1 := dyS_rk hRK _
            have gm23 := hI.get 1001 8 (lo := 0) (hi := 24) rfl
            have gy23 := hI.get 1001 9 (lo := 0) (hi := 8) rfl
            have g523 := hI.get 1001 5 (lo := 0) (hi := 11) rfl
            have zh := tn (i := x2_23) (by omega)
            have ht23 : (Ia23 1001 0).toInt = 1 := by rw [show Ia23 1001 0 = live I 1 0 from (hv23 1 0 (by decide) (by decide) (by decide)).trans (dyS_st (by decide) _)]; exact ht1
            refine lv_iload_n hx hb dX10_goesDay_23 rfl (lv_at hl 0 rfl) ?_
            refine lv_bipush (v := (24)) hx hb dX10_goesDay_24 (by decide) ?_
            refine lv_icmp_ge (tgt := 130) hx hb dX10_goesDay_26 (by decide) (fun c2 => ?_) (fun c2 => ?_)
            · have hc2 := c2
              have q2 := q_le hc2
              have h24 : (x2_23).toNatClampNeg = 24 := by have z := tn (i := x2_23) (by omega); omega
              refine lv_iconst (v := (0)) hx hb dX10_goesDay_130 (by decide) ?_
              refine lv_istore_n (lv' := [(2, .int (0)), (0, .ref (ad (1000))), (1, .int (a0))]) hx hb dX10_goesDay_131 rfl hl (by decide) rfl (fun ls hl => ?_)
              have loop132 : ∀ (n : Nat) (x2_132 : Int32) (Ia132 : MI) (La132 : ML) (H : Heap) (locs : List Loc) (ls : Array Slot), INV Ia132 → Kp [(1009, 1010), (1014, 1015), (1023, 1024), (1045, 1051), (1064, 1065)] [(1000, 51), (1000, 52), (1000, 53), (1000, 54), (1000, 55), (1000, 56), (1000, 59), (1000, 65), (1001, 6)] I Ia132 → (0 ≤ x2_132.toInt ∧ x2_132.toInt ≤ 24) → (EqV (e14 (dyS lw (live I) 24).1 (x2_132).toNatClampNeg) (live Ia132)) → ((x2_132).toInt ≤ (Ia132 1001 8).toInt) → (∀ j : Nat, j < 8 → Ia132 1064 j = (dyS lw (live I) 24).2 j) → ((Ia132 1000 59).toInt = 0) → (Ia132 1000 65 = I 1000 65 + blS lw (live I) 24) → (24 - x2_132.toInt).toNat < n → Mem D A ad ns Ia132 La132 G H → va_S A s.heap H locs → lv_has ls 4 [(2, .int (x2_132)), (0, .ref (ad (1000))), (1, .int (a0))] → W p l e ({ frames := 5, cells := 0, slots := 0, locals := 128 } : Room) s m args below meth c H locs 0 0 (MQ below (va_Qv (fun u => ∃ I2 L2, u = (ad, ns, I2, L2, G) ∧ INV I2 ∧ Kp [(1009, 1010), (1014, 1015), (1023, 1024), (1045, 1051), (1064, 1065)] [(1000, 51), (1000, 52), (1000, 53), (1000, 54), (1000, 55), (1000, 56), (1000, 59), (1000, 65), (1001, 6)] I I2 ∧ (EqV (dayS lw (live I)) (live I2) ∧ (I2 1000 59).toInt = 0 ∧ I2 1000 65 = I 1000 65 + blS lw (live I) 24)) (BM D A) A) args s 0 0 A) (F0 m 132 ls []) := by
                intro n
                induction n with
                | zero =>
                  intro x2_132 Ia132 La132 H locs ls hI hK hr2_132 hv132 hle132 hg132 hs132 hb132 hmu
                  exact absurd hmu (Nat.not_lt_zero _)
                | succ n ih132 =>
                  intro x2_132 Ia132 La132 H locs ls hI hK hr2_132 hv132 hle132 hg132 hs132 hb132 hmu132 hM hS hl
                  have gm132 := hI.get 1001 8 (lo := 0) (hi := 24) rfl
                  refine lv_iload_n hx hb dX10_goesDay_132 rfl (lv_at hl 0 rfl) ?_
                  refine lv_aload_n hx hb dX10_goesDay_133 rfl (lv_at hl 1 rfl) ?_
                  refine m_getr (1000) 1 (1001) hx hb hts hown hE oc10 hM hJ.1 rfl (by decide) rfl (hJ.2 1 (by decide)).2 (by decide) tb_1178 dX10_goesDay_134 ?_
                  refine lv_bipush (v := (8)) hx hb dX10_goesDay_137 (by decide) ?_
                  refine m_iald (1001) hx hb hE hM (hJ.2 1 (by decide)).1 rfl (vp_in_iff.mpr (by decide)) dX10_goesDay_139 ?_
                  rw [show (8 : Int32).toNatClampNeg = 8 from rfl]
                  have g3 := hI.get (1001) 8 (lo := 0) (hi := 24) rfl
                  refine lv_icmp_ge (tgt := 195) hx hb dX10_goesDay_140 (by decide) (fun c4 => ?_) (fun c4 => ?_)
                  · have hc4 := c4
                    have q4 := q_le hc4
                    have h8n : (x2_132).toNatClampNeg = ((dyS lw (live I) 24).1 1 8).toNatClampNeg := by rw [show (dyS lw (live I) 24).1 1 8 = Ia132 1001 8 from ((hv132 1 8 (by decide) (by decide) (by decide)).trans (e14_ne (by decide))).symm]; exact congrArg Int32.toNatClampNeg (Int32.toInt_inj.mp (by omega))
                    refine lv_iconst (v := (0)) hx hb dX10_goesDay_195 (by decide) ?_
                    refine lv_istore_n (lv' := [(2, .int (0)), (0, .ref (ad (1000))), (1, .int (a0))]) hx hb dX10_goesDay_196 rfl hl (by decide) rfl (fun ls hl => ?_)
                    have loop197 : ∀ (n : Nat) (x2_197 : Int32) (Ia197 : MI) (La197 : ML) (H : Heap) (locs : List Loc) (ls : Array Slot), INV Ia197 → Kp [(1009, 1010), (1014, 1015), (1023, 1024), (1045, 1051), (1064, 1065)] [(1000, 51), (1000, 52), (1000, 53), (1000, 54), (1000, 55), (1000, 56), (1000, 59), (1000, 65), (1001, 6)] I Ia197 → (0 ≤ x2_197.toInt ∧ x2_197.toInt ≤ 8) → (EqV (e23 (e14 (dyS lw (live I) 24).1 (x2_132).toNatClampNeg) (dyS lw (live I) 24).2 (x2_197).toNatClampNeg) (live Ia197)) → ((x2_197).toInt ≤ (Ia197 1001 9).toInt) → (∀ j : Nat, j < 8 → Ia197 1064 j = (dyS lw (live I) 24).2 j) → ((Ia197 1000 59).toInt = 0) → (Ia197 1000 65 = I 1000 65 + blS lw (live I) 24) → (8 - x2_197.toInt).toNat < n → Mem D A ad ns Ia197 La197 G H → va_S A s.heap H locs → lv_has ls 4 [(2, .int (x2_197)), (0, .ref (ad (1000))), (1, .int (a0))] → W p l e ({ frames := 5, cells := 0, slots := 0, locals := 128 } : Room) s m args below meth c H locs 0 0 (MQ below (va_Qv (fun u => ∃ I2 L2, u = (ad, ns, I2, L2, G) ∧ INV I2 ∧ Kp [(1009, 1010), (1014, 1015), (1023, 1024), (1045, 1051), (1064, 1065)] [(1000, 51), (1000, 52), (1000, 53), (1000, 54), (1000, 55), (1000, 56), (1000, 59), (1000, 65), (1001, 6)] I I2 ∧ (EqV (dayS lw (live I)) (live I2) ∧ (I2 1000 59).toInt = 0 ∧ I2 1000 65 = I 1000 65 + blS lw (live I) 24)) (BM D A) A) args s 0 0 A) (F0 m 197 ls []) := by
                      intro n
                      induction n with
                      | zero =>
                        intro x2_197 Ia197 La197 H locs ls hI hK hr2_197 hv197 hle197 hg197 hs197 hb197 hmu
                        exact absurd hmu (Nat.not_lt_zero _)
                      | succ n ih197 =>
                        intro x2_197 Ia197 La197 H locs ls hI hK hr2_197 hv197 hle197 hg197 hs197 hb197 hmu197 hM hS hl
                        have gy197 := hI.get 1001 9 (lo := 0) (hi := 8) rfl
                        refine lv_iload_n hx hb dX10_goesDay_197 rfl (lv_at hl 0 rfl) ?_
                        refine lv_aload_n hx hb dX10_goesDay_198 rfl (lv_at hl 1 rfl) ?_
                        refine m_getr (1000) 1 (1001) hx hb hts hown hE oc10 hM hJ.1 rfl (by decide) rfl (hJ.2 1 (by decide)).2 (by decide) tb_1178 dX10_goesDay_199 ?_
                        refine lv_bipush (v := (9)) hx hb dX10_goesDay_202 (by decide) ?_
                        refine m_iald (1001) hx hb hE hM (hJ.2 1 (by decide)).1 rfl (vp_in_iff.mpr (by decide)) dX10_goesDay_204 ?_
                        rw [show (9 : Int32).toNatClampNeg = 9 from rfl]
                        have g5 := hI.get (1001) 9 (lo := 0) (hi := 8) rfl
                        refine lv_icmp_ge (tgt := 226) hx hb dX10_goesDay_205 (by decide) (fun c6 => ?_) (fun c6 => ?_)
                        · have hc6 := c6
                          have q6 := q_le hc6
                          refine lv_aload_n hx hb dX10_goesDay_226 rfl (lv_at hl 1 rfl) ?_
                          refine m_getr (1000) 1 (1001) hx hb hts hown hE oc10 hM hJ.1 rfl (by decide) rfl (hJ.2 1 (by decide)).2 (by decide) tb_1178 dX10_goesDay_227 ?_
                          refine lv_bipush (v := (6)) hx hb dX10_goesDay_230 (by decide) ?_
                          refine lv_dup2_11 hx hb dX10_goesDay_232 rfl rfl ?_
                          refine m_iald (1001) hx hb hE hM (hJ.2 1 (by decide)).1 rfl (vp_in_iff.mpr (by decide)) dX10_goesDay_233 ?_
                          rw [show (6 : Int32).toNatClampNeg = 6 from rfl]
                          refine lv_iconst (v := (1)) hx hb dX10_goesDay_234 (by decide) ?_
                          refine lv_iadd hx hb dX10_goesDay_235 ?_
                          refine lv_topi (fun v7 ev7 => ?_)
                          refine m_iast (1001) hx hb hE hM hS (hJ.2 1 (by decide)).1 rfl (vp_in_iff.mpr (by decide)) dX10_goesDay_236 (fun H locs I8 eI8 hM hS => ?_)
                          rw [show (6 : Int32).toNatClampNeg = 6 from rfl] at eI8
                          subst eI8
                          have hI := hI.putF (n := 1001) (k := 6) (v := v7) rfl
                          have hK := hK.put (n := 1001) (k := 6) (v := v7) (by first | rfl | simp [inR])
                          have h9n : (x2_197).toNatClampNeg = ((dyS lw (live I) 24).1 1 9).toNatClampNeg := by rw [show (dyS lw (live I) 24).1 1 9 = Ia197 1001 9 from ((hv197 1 9 (by decide) (by decide) (by decide)).trans ((e23_ne (by decide)).trans (e14_ne (by decide)))).symm]; exact congrArg Int32.toNatClampNeg (Int32.toInt_inj.mp (by omega))
                          have h6n : v7 = (dyS lw (live I) 24).1 1 6 + 1 := by rw [show (dyS lw (live I) 24).1 1 6 = Ia197 1001 6 from ((hv197 1 6 (by decide) (by decide) (by decide)).trans ((e23_ne (by decide)).trans (e14_ne (by decide)))).symm]; exact ev7
                          exact m_vret hx hb hr hlocks hM hS (Nat.le_of_ble_eq_true rfl) (Nat.le_of_ble_eq_true rfl) ⟨_, _, rfl, hI, hK, ⟨by have h1 := live_st (n := 1) (k := 6) (v := v7) hv197; rw [ed_fin h8n h9n h6n] at h1; exact h1, by rw [(show (u2 Ia197 (1001) 6 (v7)) (1000) 59 = Ia197 (1000) 59 from by simp [u2_v])]; exact hs197, (((show (u2 Ia197 (1001) 6 (v7)) (1000) 65 = Ia197 (1000) 65 from by simp [u2_v])).trans hb197)⟩⟩ dX10_goesDay_237
                        · have hc6 := c6
                          have q6 := q_nle hc6
                          refine lv_aload_n hx hb dX10_goesDay_208 rfl (lv_at hl 1 rfl) ?_
                          refine m_getr (1000) 23 (1023) hx hb hts hown hE oc10 hM hJ.1 rfl (by decide) rfl (hJ.2 23 (by decide)).2 (by decide) tb_1200 dX10_goesDay_209 ?_
                          refine lv_iload_n hx hb dX10_goesDay_212 rfl (lv_at hl 0 rfl) ?_
                          refine lv_aload_n hx hb dX10_goesDay_213 rfl (lv_at hl 1 rfl) ?_
                          refine m_getr (1000) 64 (1064) hx hb hts hown hE oc10 hM hJ.1 rfl (by decide) rfl (hJ.2 64 (by decide)).2 (by decide) tb_1241 dX10_goesDay_214 ?_
                          refine lv_iload_n hx hb dX10_goesDay_217 rfl (lv_at hl 0 rfl) ?_
                          refine m_iald (1064) hx hb hE hM (hJ.2 64 (by decide)).1 rfl (vp_in_iff.mpr (by omega)) dX10_goesDay_218 ?_
                          refine m_iast (1023) hx hb hE hM hS (hJ.2 23 (by decide)).1 rfl (vp_in_iff.mpr (by omega)) dX10_goesDay_219 (fun H locs I9 eI9 hM hS => ?_)
                          subst eI9
                          have hI := hI.putF (n := 1023) (k := ((x2_197).toNatClampNeg)) (v := Ia197 (1064) (x2_197).toNatClampNeg) rfl
                          have hK := hK.put (n := 1023) (k := ((x2_197).toNatClampNeg)) (v := Ia197 (1064) (x2_197).toNatClampNeg) (by first | rfl | simp [inR])
                          obtain ⟨v10, ev10⟩ : ∃ z : Int32, z = x2_197 + Int32.ofInt (1) := ⟨_, rfl⟩
                          have tv10 := a_inc ev10 (by decide) (by omega) (by omega)
                          refine lv_iinc (v := v10) (lv' := [(2, .int (v10)), (0, .ref (ad (1000))), (1, .int (a0))]) hx hb dX10_goesDay_220 hl (k := 0) rfl ev10.symm (by decide) rfl (fun ls hl => ?_)
                          refine lv_goto (tgt := 197) hx hb dX10_goesDay_223 (by decide) ?_
                          exact ih197 (v10) (u2 Ia197 (1023) ((x2_197).toNatClampNeg) (Ia197 (1064) (x2_197).toNatClampNeg)) La197 _ _ ls hI hK (by first | omega | decide) (by rw [show (v10).toNatClampNeg = (x2_197).toNatClampNeg + 1 from (by have z1 := tn (i := v10) (by omega); have z2 := tn (i := x2_197) (by omega); omega)]; exact e23_step hv197 (live_st (n := 23) EqV.rf) (hg197 _ (by have z2 := tn (i := x2_197) (by omega); omega))) (by rw [(show (u2 Ia197 (1023) ((x2_197).toNatClampNeg) (Ia197 (1064) (x2_197).toNatClampNeg)) (1001) 9 = Ia197 (1001) 9 from by simp [u2_v])]; omega) (fun j hj => (congrFun ((show (u2 Ia197 (1023) ((x2_197).toNatClampNeg) (Ia197 (1064) (x2_197).toNatClampNeg)) 1064 = Ia197 1064 from by funext zz; simp [u2_v])) j).trans (hg197 j hj)) (by rw [(show (u2 Ia197 (1023) ((x2_197).toNatClampNeg) (Ia197 (1064) (x2_197).toNatClampNeg)) (1000) 59 = Ia197 (1000) 59 from by simp [u2_v])]; exact hs197) (((show (u2 Ia197 (1023) ((x2_197).toNatClampNeg) (Ia197 (1064) (x2_197).toNatClampNeg)) (1000) 65 = Ia197 (1000) 65 from by simp [u2_v])).trans hb197) (by omega) hM hS (lv_sub hl [0, 1, 2] rfl)
                    exact loop197 (_ + 1) (0) Ia132 La132 _ _ ls hI hK (by first | omega | decide) (by rw [show (0 : Int32).toNatClampNeg = 0 from rfl, e23_0]; exact hv132) (by have := hI.get 1001 9 (lo := 0) (hi := 8) rfl; omega) hg132 hs132 hb132 (Nat.lt_succ_self _) hM hS (lv_sub hl [0, 1, 2] rfl)
                  · have hc4 := c4
                    have q4 := q_nle hc4
                    refine lv_aload_n hx hb dX10_goesDay_143 rfl (lv_at hl 1 rfl) ?_
                    refine m_getr (1000) 14 (1014) hx hb hts hown hE oc10 hM hJ.1 rfl (by decide) rfl (hJ.2 14 (by decide)).2 (by decide) tb_1191 dX10_goesDay_144 ?_
                    refine lv_iload_n hx hb dX10_goesDay_147 rfl (lv_at hl 0 rfl) ?_
                    refine lv_aload_n hx hb dX10_goesDay_148 rfl (lv_at hl 1 rfl) ?_
                    refine m_getr (1000) 14 (1014) hx hb hts hown hE oc10 hM hJ.1 rfl (by decide) rfl (hJ.2 14 (by decide)).2 (by decide) tb_1191 dX10_goesDay_149 ?_
                    refine lv_iload_n hx hb dX10_goesDay_152 rfl (lv_at hl 0 rfl) ?_
                    refine m_iald (1014) hx hb hE hM (hJ.2 14 (by decide)).1 rfl (vp_in_iff.mpr (by omega)) dX10_goesDay_153 ?_
                    refine lv_aload_n hx hb dX10_goesDay_154 rfl (lv_at hl 1 rfl) ?_
                    refine m_getr (1000) 1 (1001) hx hb hts hown hE oc10 hM hJ.1 rfl (by decide) rfl (hJ.2 1 (by decide)).2 (by decide) tb_1178 dX10_goesDay_155 ?_
                    refine lv_bipush (v := (7)) hx hb dX10_goesDay_158 (by decide) ?_
                    refine m_iald (1001) hx hb hE hM (hJ.2 1 (by decide)).1 rfl (vp_in_iff.mpr (by decide)) dX10_goesDay_160 ?_
                    rw [show (7 : Int32).toNatClampNeg = 7 from rfl]
                    refine lv_iadd hx hb dX10_goesDay_161 ?_
                    refine lv_topi (fun v11 ev11 => ?_)
                    refine lv_sipush (v := (1000)) hx hb dX10_goesDay_162 (by decide) ?_
                    refine lv_icmp_le (tgt := 174) hx hb dX10_goesDay_165 (by decide) (fun c12 => ?_) (fun c12 => ?_)
                    · have hc12 := c12
                      have q12 := q_le hc12
                      refine lv_aload_n hx hb dX10_goesDay_174 rfl (lv_at hl 1 rfl) ?_
                      refine m_getr (1000) 14 (1014) hx hb hts hown hE oc10 hM hJ.1 rfl (by decide) rfl (hJ.2 14 (by decide)).2 (by decide) tb_1191 dX10_goesDay_175 ?_
                      refine lv_iload_n hx hb dX10_goesDay_178 rfl (lv_at hl 0 rfl) ?_
                      refine m_iald (1014) hx hb hE hM (hJ.2 14 (by decide)).1 rfl (vp_in_iff.mpr (by omega)) dX10_goesDay_179 ?_
                      refine lv_aload_n hx hb dX10_goesDay_180 rfl (lv_at hl 1 rfl) ?_
                      refine m_getr (1000) 1 (1001) hx hb hts hown hE oc10 hM hJ.1 rfl (by decide) rfl (hJ.2 1 (by decide)).2 (by decide) tb_1178 dX10_goesDay_181 ?_
                      refine lv_bipush (v := (7)) hx hb dX10_goesDay_184 (by decide) ?_
                      refine m_iald (1001) hx hb hE hM (hJ.2 1 (by decide)).1 rfl (vp_in_iff.mpr (by decide)) dX10_goesDay_186 ?_
                      rw [show (7 : Int32).toNatClampNeg = 7 from rfl]
                      refine lv_iadd hx hb dX10_goesDay_187 ?_
                      refine lv_topi (fun v13 ev13 => ?_)
                      refine m_iast (1014) hx hb hE hM hS (hJ.2 14 (by decide)).1 rfl (vp_in_iff.mpr (by omega)) dX10_goesDay_188 (fun H locs I14 eI14 hM hS => ?_)
                      subst eI14
                      have hI := hI.putF (n := 1014) (k := ((x2_132).toNatClampNeg)) (v := v13) rfl
                      have hK := hK.put (n := 1014) (k := ((x2_132).toNatClampNeg)) (v := v13) (by first | rfl | simp [inR])
                      obtain ⟨v15, ev15⟩ : ∃ z : Int32, z = x2_132 + Int32.ofInt (1) := ⟨_, rfl⟩
                      have tv15 := a_inc ev15 (by decide) (by omega) (by omega)
                      refine lv_iinc (v := v15) (lv' := [(2, .int (v15)), (0, .ref (ad (1000))), (1, .int (a0))]) hx hb dX10_goesDay_189 hl (k := 0) rfl ev15.symm (by decide) rfl (fun ls hl => ?_)
                      refine lv_goto (tgt := 132) hx hb dX10_goesDay_192 (by decide) ?_
                      exact ih132 (v15) (u2 Ia132 (1014) ((x2_132).toNatClampNeg) (v13)) La132 _ _ ls hI hK (by first | omega | decide) (by rw [show (v15).toNatClampNeg = (x2_132).toNatClampNeg + 1 from (by have z1 := tn (i := v15) (by omega); have z2 := tn (i := x2_132) (by omega); omega)]; exact e14_step hv132 (live_st (n := 14) EqV.rf) (by have z1 := tn (i := x2_132) (by omega); rw [show (dyS lw (live I) 24).1 14 (x2_132).toNatClampNeg = Ia132 1014 (x2_132).toNatClampNeg from ((hv132 14 (x2_132).toNatClampNeg (by decide) (by decide) (show (x2_132).toNatClampNeg < 24 by omega)).trans e14_at).symm, show (dyS lw (live I) 24).1 1 7 = Ia132 1001 7 from ((hv132 1 7 (by decide) (by decide) (by decide)).trans (e14_ne (by decide))).symm]; unfold dst; rw [if_neg (by have zz := congrArg Int32.toInt ev11; omega)]; exact ev13)) (by rw [(show (u2 Ia132 (1014) ((x2_132).toNatClampNeg) (v13)) (1001) 8 = Ia132 (1001) 8 from by simp [u2_v])]; omega) (fun j hj => (congrFun ((show (u2 Ia132 (1014) ((x2_132).toNatClampNeg) (v13)) 1064 = Ia132 1064 from by funext zz; simp [u2_v])) j).trans (hg132 j hj)) (by rw [(show (u2 Ia132 (1014) ((x2_132).toNatClampNeg) (v13)) (1000) 59 = Ia132 (1000) 59 from by simp [u2_v])]; exact hs132) (((show (u2 Ia132 (1014) ((x2_132).toNatClampNeg) (v13)) (1000) 65 = Ia132 (1000) 65 from by simp [u2_v])).trans hb132) (by omega) hM hS (lv_sub hl [0, 1, 2] rfl)
                    · have hc12 := c12
                      have q12 := q_nle hc12
                      refine lv_sipush (v := (1000)) hx hb dX10_goesDay_168 (by decide) ?_
                      refine lv_goto (tgt := 188) hx hb dX10_goesDay_171 (by decide) ?_
                      refine m_iast (1014) hx hb hE hM hS (hJ.2 14 (by decide)).1 rfl (vp_in_iff.mpr (by omega)) dX10_goesDay_188 (fun H locs I16 eI16 hM hS => ?_)
                      subst eI16
                      have hI := hI.putF (n := 1014) (k := ((x2_132).toNatClampNeg)) (v := 1000) rfl
                      have hK := hK.put (n := 1014) (k := ((x2_132).toNatClampNeg)) (v := 1000) (by first | rfl | simp [inR])
                      obtain ⟨v17, ev17⟩ : ∃ z : Int32, z = x2_132 + Int32.ofInt (1) := ⟨_, rfl⟩
                      have tv17 := a_inc ev17 (by decide) (by omega) (by omega)
                      refine lv_iinc (v := v17) (lv' := [(2, .int (v17)), (0, .ref (ad (1000))), (1, .int (a0))]) hx hb dX10_goesDay_189 hl (k := 0) rfl ev17.symm (by decide) rfl (fun ls hl => ?_)
                      refine lv_goto (tgt := 132) hx hb dX10_goesDay_192 (by decide) ?_
                      exact ih132 (v17) (u2 Ia132 (1014) ((x2_132).toNatClampNeg) (1000)) La132 _ _ ls hI hK (by first | omega | decide) (by rw [show (v17).toNatClampNeg = (x2_132).toNatClampNeg + 1 from (by have z1 := tn (i := v17) (by omega); have z2 := tn (i := x2_132) (by omega); omega)]; exact e14_step hv132 (live_st (n := 14) EqV.rf) (by have z1 := tn (i := x2_132) (by omega); rw [show (dyS lw (live I) 24).1 14 (x2_132).toNatClampNeg = Ia132 1014 (x2_132).toNatClampNeg from ((hv132 14 (x2_132).toNatClampNeg (by decide) (by decide) (show (x2_132).toNatClampNeg < 24 by omega)).trans e14_at).symm, show (dyS lw (live I) 24).1 1 7 = Ia132 1001 7 from ((hv132 1 7 (by decide) (by decide) (by decide)).trans (e14_ne (by decide))).symm]; unfold dst; rw [if_pos (by have zz := congrArg Int32.toInt ev11; omega)])) (by rw [(show (u2 Ia132 (1014) ((x2_132).toNatClampNeg) (1000)) (1001) 8 = Ia132 (1001) 8 from by simp [u2_v])]; omega) (fun j hj => (congrFun ((show (u2 Ia132 (1014) ((x2_132).toNatClampNeg) (1000)) 1064 = Ia132 1064 from by funext zz; simp [u2_v])) j).trans (hg132 j hj)) (by rw [(show (u2 Ia132 (1014) ((x2_132).toNatClampNeg) (1000)) (1000) 59 = Ia132 (1000) 59 from by simp [u2_v])]; exact hs132) (((show (u2 Ia132 (1014) ((x2_132).toNatClampNeg) (1000)) (1000) 65 = Ia132 (1000) 65 from by simp [u2_v])).trans hb132) (by omega) hM hS (lv_sub hl [0, 1, 2] rfl)
              exact loop132 (_ + 1) (0) Ia23 La23 _ _ ls hI hK (by first | omega | decide) (by rw [show (0 : Int32).toNatClampNeg = 0 from rfl, e14_0, ← h24]; exact hv23) (by have := hI.get 1001 8 (lo := 0) (hi := 24) rfl; omega) (fun j hj => by rw [← h24]; exact hg23 j hj) hs23 (by rw [← h24]; exact hb23) (Nat.lt_succ_self _) hM hS (lv_sub hl [0, 1, 2] rfl)
            · have hc2 := c2
              have q2 := q_nle hc2
              refine lv_iconst (v := (0)) hx hb dX10_goesDay_29 (by decide) ?_
              refine lv_istore_n (lv' := [(3, .int (0)), (2, .int (x2_23)), (0, .ref (ad (1000))), (1, .int (a0))]) hx hb dX10_goesDay_30 rfl hl (by decide) rfl (fun ls hl => ?_)
              have loop31 : ∀ (n : Nat) (x3_31 : Int32) (Ia31 : MI) (La31 : ML) (H : Heap) (locs : List Loc) (ls : Array Slot), INV Ia31 → Kp [(1009, 1010), (1014, 1015), (1023, 1024), (1045, 1051), (1064, 1065)] [(1000, 51), (1000, 52), (1000, 53), (1000, 54), (1000, 55), (1000, 56), (1000, 59), (1000, 65), (1001, 6)] I Ia31 → (0 ≤ x3_31.toInt ∧ x3_31.toInt ≤ 24) → (EqV (trK (dyS lw (live I) (x2_23).toNatClampNeg).1 x2_23 (dyS lw (live I) (x2_23).toNatClampNeg).2 lw (x3_31).toNatClampNeg) (live Ia31)) → ((x3_31).toInt ≤ (Ia31 1001 8).toInt) → (∀ j : Nat, j < 8 → Ia31 1064 j = (dyS lw (live I) (x2_23).toNatClampNeg).2 j) → ((Ia31 1000 59).toInt = 0) → (Ia31 1000 65 = I 1000 65 + blS lw (live I) (x2_23).toNatClampNeg) → ((Ia31 1001 0).toInt = 1) → (24 - x3_31.toInt).toNat < n → Mem D A ad ns Ia31 La31 G H → va_S A s.heap H locs → lv_has ls 4 [(3, .int (x3_31)), (2, .int (x2_23)), (0, .ref (ad (1000))), (1, .int (a0))] → W p l e ({ frames := 5, cells := 0, slots := 0, locals := 128 } : Room) s m args below meth c H locs 0 0 (MQ below (va_Qv (fun u => ∃ I2 L2, u = (ad, ns, I2, L2, G) ∧ INV I2 ∧ Kp [(1009, 1010), (1014, 1015), (1023, 1024), (1045, 1051), (1064, 1065)] [(1000, 51), (1000, 52), (1000, 53), (1000, 54), (1000, 55), (1000, 56), (1000, 59), (1000, 65), (1001, 6)] I I2 ∧ (EqV (dayS lw (live I)) (live I2) ∧ (I2 1000 59).toInt = 0 ∧ I2 1000 65 = I 1000 65 + blS lw (live I) 24)) (BM D A) A) args s 0 0 A) (F0 m 31 ls []) := by
                intro n
                induction n with
                | zero =>
                  intro x3_31 Ia31 La31 H locs ls hI hK hr3_31 hv31 hle31 hg31 hs31 hb31 ht31 hmu
                  exact absurd hmu (Nat.not_lt_zero _)
                | succ n ih31 =>
                  intro x3_31 Ia31 La31 H locs ls hI hK hr3_31 hv31 hle31 hg31 hs31 hb31 ht31 hmu31 hM hS hl
                  have hr31 : RKw (trK (dyS lw (live I) (x2_23).toNatClampNeg).1 x2_23 (dyS lw (live I) (x2_23).toNatClampNeg).2 lw (x3_31).toNatClampNeg) := RKw.tK hr23
                  have gm31 := hI.get 1001 8 (lo := 0) (hi := 24) rfl
                  refine lv_iload_n hx hb dX10_goesDay_31 rfl (lv_at hl 0 rfl) ?_
                  refine lv_aload_n hx hb dX10_goesDay_32 rfl (lv_at hl 2 rfl) ?_
                  refine m_getr (1000) 1 (1001) hx hb hts hown hE oc10 hM hJ.1 rfl (by decide) rfl (hJ.2 1 (by decide)).2 (by decide) tb_1178 dX10_goesDay_33 ?_
                  refine lv_bipush (v := (8)) hx hb dX10_goesDay_36 (by decide) ?_
                  refine m_iald (1001) hx hb hE hM (hJ.2 1 (by decide)).1 rfl (vp_in_iff.mpr (by decide)) dX10_goesDay_38 ?_
                  rw [show (8 : Int32).toNatClampNeg = 8 from rfl]
                  have g18 := hI.get (1001) 8 (lo := 0) (hi := 24) rfl
                  refine lv_icmp_ge (tgt := 55) hx hb dX10_goesDay_39 (by decide) (fun c19 => ?_) (fun c19 => ?_)
                  · have hc19 := c19
                    have q19 := q_le hc19
                    have z31 := tn (i := x3_31) (by omega)
                    have z8 := tn (i := Ia31 1001 8) (by omega)
                    have e8 : Ia31 1001 8 = (dyS lw (live I) (x2_23).toNatClampNeg).1 1 8 := (hv31 1 8 (by decide) (by decide) (by decide)).trans (trK_ne (by decide))
                    have hvT : EqV (trV (dyS lw (live I) (x2_23).toNatClampNeg).1 x2_23 (dyS lw (live I) (x2_23).toNatClampNeg).2 lw) (live Ia31) := by have h1 := hv31; rw [trK_fin (by rw [← e8]; omega)] at h1; exact h1
                    have hrT : RKw (trV (dyS lw (live I) (x2_23).toNatClampNeg).1 x2_23 (dyS lw (live I) (x2_23).toNatClampNeg).2 lw) := RKw.tV hr23
                    have g531 := hI.get 1001 5 (lo := 0) (hi := 11) rfl
                    refine lv_aload_n hx hb dX10_goesDay_55 rfl (lv_at hl 2 rfl) ?_
                    refine lv_iload_n hx hb dX10_goesDay_56 rfl (lv_at hl 1 rfl) ?_
                    refine m_calli (m_runV (1000) (As := [.int (x2_23)]) (rest := []) hx hb hml hown hts hE hM hS hA ce_X10_sunOf tb_1625 (V_X10_sunOf_l l D A ad ns Ia31 La31 G (x2_23) hJ hI (by first | omega | decide)) rfl rfl ⟨Nat.le_of_ble_eq_true rfl, Nat.le_of_ble_eq_true rfl⟩ hJ.1 rfl rfl (by decide) rfl hl.1 rfl (Nat.le_of_ble_eq_true rfl) dX10_goesDay_57 ⟨Nat.le_of_ble_eq_true rfl, Nat.le_of_ble_eq_true rfl⟩) hS (fun r20 u H locs hw hM hS => ?_)
                    obtain ⟨rfl, xr20⟩ := hw
                    have hM : Mem D A ad ns Ia31 La31 G H := hM
                    refine lv_iconst (v := (-1)) hx hb dX10_goesDay_60 (by decide) ?_
                    refine lv_icmp_eq (tgt := 124) hx hb dX10_goesDay_61 (by decide) (fun c21 => ?_) (fun c21 => ?_)
                    · have hc21 := c21
                      have q21 := q_eq hc21
                      obtain ⟨v22, ev22⟩ : ∃ z : Int32, z = x2_23 + Int32.ofInt (1) := ⟨_, rfl⟩
                      have tv22 := a_inc ev22 (by decide) (by omega) (by omega)
                      refine lv_iinc (v := v22) (lv' := [(2, .int (v22)), (3, .int (x3_31)), (0, .ref (ad (1000))), (1, .int (a0))]) hx hb dX10_goesDay_124 hl (k := 1) rfl ev22.symm (by decide) rfl (fun ls hl => ?_)
                      refine lv_goto (tgt := 23) hx hb dX10_goesDay_127 (by decide) ?_
                      have hnn : (v22).toNatClampNeg = (x2_23).toNatClampNeg + 1 := by have z1 := tn (i := v22) (by omega); have z2 := tn (i := x2_23) (by omega); omega
                      have hhI : hrI (x2_23).toNatClampNeg = x2_23 := hrI_of (by omega)
                      have hD1 : (dyS lw (live I) ((x2_23).toNatClampNeg + 1)).1 = (trV (dyS lw (live I) (x2_23).toNatClampNeg).1 x2_23 (dyS lw (live I) (x2_23).toNatClampNeg).2 lw) := by show trV (dyS lw (live I) (x2_23).toNatClampNeg).1 (hrI (x2_23).toNatClampNeg) (dyS lw (live I) (x2_23).toNatClampNeg).2 lw = _; rw [hhI]
                      have hD2 : ∀ j, (dyS lw (live I) ((x2_23).toNatClampNeg + 1)).2 j = adG (trV (dyS lw (live I) (x2_23).toNatClampNeg).1 x2_23 (dyS lw (live I) (x2_23).toNatClampNeg).2 lw) x2_23 (dyS lw (live I) (x2_23).toNatClampNeg).2 j := fun j => by show adG (trV (dyS lw (live I) (x2_23).toNatClampNeg).1 (hrI (x2_23).toNatClampNeg) (dyS lw (live I) (x2_23).toNatClampNeg).2 lw) (hrI (x2_23).toNatClampNeg) (dyS lw (live I) (x2_23).toNatClampNeg).2 j = _; rw [hhI]
                      have hD3 : blS lw (live I) ((x2_23).toNatClampNeg + 1) = blS lw (live I) (x2_23).toNatClampNeg + blH (trV (dyS lw (live I) (x2_23).toNatClampNeg).1 x2_23 (dyS lw (live I) (x2_23).toNatClampNeg).2 lw) x2_23 := by show _ + blH (dyS lw (live I) ((x2_23).toNatClampNeg + 1)).1 (hrI (x2_23).toNatClampNeg) = _; rw [hD1, hhI]
                      exact ih23 (v22) Ia31 La31 _ _ ls hI hK (by first | omega | decide) (by rw [hnn, hD1]; exact hvT) (fun j hj => by rw [hnn, hD2]; unfold adG; rw [if_pos (show (wyV (trV (dyS lw (live I) (x2_23).toNatClampNeg).1 x2_23 (dyS lw (live I) (x2_23).toNatClampNeg).2 lw) x2_23).toInt = -1 from by rw [(wyV_eq hvT (OKW.tV hw23).1 (by omega)).2.1.symm, wy_M, ← xr20]; omega)]; exact (congrFun (rfl) j).trans (hg31 j hj)) hs31 (by rw [hnn, hD3]; unfold blH; rw [if_pos (show (wyV (trV (dyS lw (live I) (x2_23).toNatClampNeg).1 x2_23 (dyS lw (live I) (x2_23).toNatClampNeg).2 lw) x2_23).toInt = -1 from by rw [(wyV_eq hvT (OKW.tV hw23).1 (by omega)).2.1.symm, wy_M, ← xr20]; omega), i_adz]; exact hb31) (by omega) hM hS (lv_sub hl [0, 2, 3] rfl)
                    · have hc21 := c21
                      have q21 := q_ne hc21
                      refine lv_aload_n hx hb dX10_goesDay_64 rfl (lv_at hl 2 rfl) ?_
                      refine lv_iload_n hx hb dX10_goesDay_65 rfl (lv_at hl 1 rfl) ?_
                      refine m_callv (m_runV (1000) (As := [.int (x2_23)]) (rest := []) hx hb hml hown hts hE hM hS hA ce_X10_shines tb_1640 (V_X10_shines_l l D A ad ns Ia31 La31 G (x2_23) hJ hI (RKw.mok hrT hvT (by omega) (by omega)) (by rw [← xr20]; omega) (by first | omega | decide)) rfl rfl ⟨Nat.le_of_ble_eq_true rfl, Nat.le_of_ble_eq_true rfl⟩ hJ.1 rfl rfl (by decide) rfl hl.1 rfl (Nat.le_of_ble_eq_true rfl) dX10_goesDay_66 ⟨Nat.le_of_ble_eq_true rfl, Nat.le_of_ble_eq_true rfl⟩) hS (fun u H locs hw hM hS => ?_)
                      obtain ⟨I23, L24, rfl, hI, hkI23, xI23⟩ := hw
                      have hM : Mem D A ad ns I23 L24 G H := hM
                      have hK := hK.trans hkI23 rfl
                      obtain ⟨S2, hS1, hS2⟩ := SHH.sh xI23.1
                      have hS3 : shV (trV (dyS lw (live I) (x2_23).toNatClampNeg).1 x2_23 (dyS lw (live I) (x2_23).toNatClampNeg).2 lw) x2_23 = (nM I23, S2) := (shV_eq (OKW.tV hw23) hvT (by omega)).symm.trans hS2
                      refine lv_iconst (v := (0)) hx hb dX10_goesDay_69 (by decide) ?_
                      refine lv_istore_n (lv' := [(3, .int (0)), (2, .int (x2_23)), (0, .ref (ad (1000))), (1, .int (a0))]) hx hb dX10_goesDay_70 rfl hl (by decide) rfl (fun ls hl => ?_)
                      have loop71 : ∀ (n : Nat) (x3_71 : Int32) (Ia71 : MI) (La71 : ML) (H : Heap) (locs : List Loc) (ls : Array Slot), INV Ia71 → Kp [(1009, 1010), (1014, 1015), (1023, 1024), (1045, 1051), (1064, 1065)] [(1000, 51), (1000, 52), (1000, 53), (1000, 54), (1000, 55), (1000, 56), (1000, 59), (1000, 65), (1001, 6)] I Ia71 → (0 ≤ x3_71.toInt ∧ x3_71.toInt ≤ 8) → (EqV ((trV (dyS lw (live I) (x2_23).toNatClampNeg).1 x2_23 (dyS lw (live I) (x2_23).toNatClampNeg).2 lw)) (live Ia71)) → ((x3_71).toInt ≤ (Ia71 1001 9).toInt) → (∀ j : Nat, j < 8 → Ia71 1064 j = if j < (x3_71).toNatClampNeg then (dyS lw (live I) (x2_23).toNatClampNeg).2 j + S2.got j else (dyS lw (live I) (x2_23).toNatClampNeg).2 j) → (∀ j : Nat, j < 8 → Ia71 1050 j = S2.got j) → (∀ c : Nat, c < 576 → Ia71 1049 c = S2.pas c) → ((Ia71 1000 59).toInt = 0) → (Ia71 1000 65 = I 1000 65 + blS lw (live I) (x2_23).toNatClampNeg) → (8 - x3_71.toInt).toNat < n → Mem D A ad ns Ia71 La71 G H → va_S A s.heap H locs → lv_has ls 4 [(3, .int (x3_71)), (2, .int (x2_23)), (0, .ref (ad (1000))), (1, .int (a0))] → W p l e ({ frames := 5, cells := 0, slots := 0, locals := 128 } : Room) s m args below meth c H locs 0 0 (MQ below (va_Qv (fun u => ∃ I2 L2, u = (ad, ns, I2, L2, G) ∧ INV I2 ∧ Kp [(1009, 1010), (1014, 1015), (1023, 1024), (1045, 1051), (1064, 1065)] [(1000, 51), (1000, 52), (1000, 53), (1000, 54), (1000, 55), (1000, 56), (1000, 59), (1000, 65), (1001, 6)] I I2 ∧ (EqV (dayS lw (live I)) (live I2) ∧ (I2 1000 59).toInt = 0 ∧ I2 1000 65 = I 1000 65 + blS lw (live I) 24)) (BM D A) A) args s 0 0 A) (F0 m 71 ls []) := by
                        intro n
                        induction n with
                        | zero =>
                          intro x3_71 Ia71 La71 H locs ls hI hK hr3_71 hv71 hle71 hg71 hk71 hp71 hs71 hb71 hmu
                          exact absurd hmu (Nat.not_lt_zero _)
                        | succ n ih71 =>
                          intro x3_71 Ia71 La71 H locs ls hI hK hr3_71 hv71 hle71 hg71 hk71 hp71 hs71 hb71 hmu71 hM hS hl
                          have gy71 := hI.get 1001 9 (lo := 0) (hi := 8) rfl
                          refine lv_iload_n hx hb dX10_goesDay_71 rfl (lv_at hl 0 rfl) ?_
                          refine lv_aload_n hx hb dX10_goesDay_72 rfl (lv_at hl 2 rfl) ?_
                          refine m_getr (1000) 1 (1001) hx hb hts hown hE oc10 hM hJ.1 rfl (by decide) rfl (hJ.2 1 (by decide)).2 (by decide) tb_1178 dX10_goesDay_73 ?_
                          refine lv_bipush (v := (9)) hx hb dX10_goesDay_76 (by decide) ?_
                          refine m_iald (1001) hx hb hE hM (hJ.2 1 (by decide)).1 rfl (vp_in_iff.mpr (by decide)) dX10_goesDay_78 ?_
                          rw [show (9 : Int32).toNatClampNeg = 9 from rfl]
                          have g25 := hI.get (1001) 9 (lo := 0) (hi := 8) rfl
                          refine lv_icmp_ge (tgt := 103) hx hb dX10_goesDay_79 (by decide) (fun c26 => ?_) (fun c26 => ?_)
                          · have hc26 := c26
                            have q26 := q_le hc26
                            refine lv_aload_n hx hb dX10_goesDay_103 rfl (lv_at hl 2 rfl) ?_
                            refine lv_dup hx hb dX10_goesDay_104 rfl ?_
                            refine m_geti (1000) 65 hx hb hts hown hE oc10 hM hJ.1 rfl (by decide) rfl tb_1242 dX10_goesDay_105 ?_
                            refine lv_aload_n hx hb dX10_goesDay_108 rfl (lv_at hl 2 rfl) ?_
                            refine m_calli (m_runV (1000) (As := []) (rest := [.int (Ia71 (1000) 65), .ref (ad (1000))]) hx hb hml hown hts hE hM hS hA ce_X10_blindCells tb_1670 (V_X10_blindCells_l l D A ad ns Ia71 La71 G hJ hI) rfl rfl ⟨Nat.le_of_ble_eq_true rfl, Nat.le_of_ble_eq_true rfl⟩ hJ.1 rfl rfl (by decide) rfl hl.1 rfl (Nat.le_of_ble_eq_true rfl) dX10_goesDay_109 ⟨Nat.le_of_ble_eq_true rfl, Nat.le_of_ble_eq_true rfl⟩) hS (fun r27 u H locs hw hM hS => ?_)
                            obtain ⟨rfl, xr27⟩ := hw
                            have hM : Mem D A ad ns Ia71 La71 G H := hM
                            have hbl : r27 = blN 576 ((trV (dyS lw (live I) (x2_23).toNatClampNeg).1 x2_23 (dyS lw (live I) (x2_23).toNatClampNeg).2 lw) 3) (shV (trV (dyS lw (live I) (x2_23).toNatClampNeg).1 x2_23 (dyS lw (live I) (x2_23).toNatClampNeg).2 lw) x2_23).2.pas := by rw [xr27, hS3]; exact blN.same (Nat.le_refl _) (fun c hc => hv71 3 c (by decide) (by decide) hc) (fun c hc => hp71 c hc)
                            refine lv_if_le (tgt := 119) hx hb dX10_goesDay_112 (by decide) (fun c28 => ?_) (fun c28 => ?_)
                            · have hc28 := c28
                              have q28 := q_le hc28
                              refine lv_iconst (v := (0)) hx hb dX10_goesDay_119 (by decide) ?_
                              refine lv_iadd hx hb dX10_goesDay_120 ?_
                              refine lv_topi (fun v29 ev29 => ?_)
                              refine m_puti (1000) 65 hx hb hts hown hE oc10 hM hS hJ.1 rfl (by decide) rfl rfl rfl rfl tb_1242 dX10_goesDay_121 (fun H locs I30 eI30 hM hS => ?_)
                              subst eI30
                              have hI := hI.putF (n := 1000) (k := 65) (v := v29) rfl
                              have hK := hK.put (n := 1000) (k := 65) (v := v29) (by first | rfl | simp [inR])
                              obtain ⟨v31, ev31⟩ : ∃ z : Int32, z = x2_23 + Int32.ofInt (1) := ⟨_, rfl⟩
                              have tv31 := a_inc ev31 (by decide) (by omega) (by omega)
                              refine lv_iinc (v := v31) (lv' := [(2, .int (v31)), (3, .int (x3_71)), (0, .ref (ad (1000))), (1, .int (a0))]) hx hb dX10_goesDay_124 hl (k := 1) rfl ev31.symm (by decide) rfl (fun ls hl => ?_)
                              refine lv_goto (tgt := 23) hx hb dX10_goesDay_127 (by decide) ?_
                              have hnn : (v31).toNatClampNeg = (x2_23).toNatClampNeg + 1 := by have z1 := tn (i := v31) (by omega); have z2 := tn (i := x2_23) (by omega); omega
                              have hhI : hrI (x2_23).toNatClampNeg = x2_23 := hrI_of (by omega)
                              have hD1 : (dyS lw (live I) ((x2_23).toNatClampNeg + 1)).1 = (trV (dyS lw (live I) (x2_23).toNatClampNeg).1 x2_23 (dyS lw (live I) (x2_23).toNatClampNeg).2 lw) := by show trV (dyS lw (live I) (x2_23).toNatClampNeg).1 (hrI (x2_23).toNatClampNeg) (dyS lw (live I) (x2_23).toNatClampNeg).2 lw = _; rw [hhI]
                              have hD2 : ∀ j, (dyS lw (live I) ((x2_23).toNatClampNeg + 1)).2 j = adG (trV (dyS lw (live I) (x2_23).toNatClampNeg).1 x2_23 (dyS lw (live I) (x2_23).toNatClampNeg).2 lw) x2_23 (dyS lw (live I) (x2_23).toNatClampNeg).2 j := fun j => by show adG (trV (dyS lw (live I) (x2_23).toNatClampNeg).1 (hrI (x2_23).toNatClampNeg) (dyS lw (live I) (x2_23).toNatClampNeg).2 lw) (hrI (x2_23).toNatClampNeg) (dyS lw (live I) (x2_23).toNatClampNeg).2 j = _; rw [hhI]
                              have hD3 : blS lw (live I) ((x2_23).toNatClampNeg + 1) = blS lw (live I) (x2_23).toNatClampNeg + blH (trV (dyS lw (live I) (x2_23).toNatClampNeg).1 x2_23 (dyS lw (live I) (x2_23).toNatClampNeg).2 lw) x2_23 := by show _ + blH (dyS lw (live I) ((x2_23).toNatClampNeg + 1)).1 (hrI (x2_23).toNatClampNeg) = _; rw [hD1, hhI]
                              exact ih23 (v31) (u2 Ia71 (1000) 65 (v29)) La71 _ _ ls hI hK (by first | omega | decide) (by rw [hnn, hD1]; exact (EqV.tr hv71 (live_ne (n := 1000) (by decide)))) (fun j hj => by rw [hnn, hD2]; unfold adG; rw [if_neg (show ¬ (wyV (trV (dyS lw (live I) (x2_23).toNatClampNeg).1 x2_23 (dyS lw (live I) (x2_23).toNatClampNeg).2 lw) x2_23).toInt = -1 from by rw [(wyV_eq hvT (OKW.tV hw23).1 (by omega)).2.1.symm, wy_M, ← xr20]; omega), hS3]; refine (congrFun ((show (u2 Ia71 (1000) 65 (v29)) 1064 = Ia71 1064 from by funext zz; simp [u2_v])) j).trans ((hg71 j hj).trans ?_); by_cases hq : j < (x3_71).toNatClampNeg; rw [if_pos hq]; rw [if_neg hq, show S2.got j = 0 from (by have h1 := shV_g (h := x2_23) (OKW.tV hw23) (k := j) (by have e9 : Ia71 1001 9 = (trV (dyS lw (live I) (x2_23).toNatClampNeg).1 x2_23 (dyS lw (live I) (x2_23).toNatClampNeg).2 lw) 1 9 := hv71 1 9 (by decide) (by decide) (by decide); rw [← e9]; have z1 := tn (i := x3_71) (by omega); have z2 := tn (i := Ia71 1001 9) (by omega); omega); rw [hS3] at h1; exact h1)]; exact (i_adz _).symm) (by rw [(show (u2 Ia71 (1000) 65 (v29)) (1000) 59 = Ia71 (1000) 59 from by simp [u2_v])]; exact hs71) (by rw [hnn, hD3]; unfold blH; rw [if_neg (show ¬ (wyV (trV (dyS lw (live I) (x2_23).toNatClampNeg).1 x2_23 (dyS lw (live I) (x2_23).toNatClampNeg).2 lw) x2_23).toInt = -1 from by rw [(wyV_eq hvT (OKW.tV hw23).1 (by omega)).2.1.symm, wy_M, ← xr20]; omega), ← hbl, if_neg (by omega)]; rw [u2_self, ev29, show Ia71 1000 65 = I 1000 65 + blS lw (live I) (x2_23).toNatClampNeg from hb71]; exact Int32.add_assoc _ _ _) (by omega) hM hS (lv_sub hl [0, 2, 3] rfl)
                            · have hc28 := c28
                              have q28 := q_nle hc28
                              refine lv_iconst (v := (1)) hx hb dX10_goesDay_115 (by decide) ?_
                              refine lv_goto (tgt := 120) hx hb dX10_goesDay_116 (by decide) ?_
                              refine lv_iadd hx hb dX10_goesDay_120 ?_
                              refine lv_topi (fun v32 ev32 => ?_)
                              refine m_puti (1000) 65 hx hb hts hown hE oc10 hM hS hJ.1 rfl (by decide) rfl rfl rfl rfl tb_1242 dX10_goesDay_121 (fun H locs I33 eI33 hM hS => ?_)
                              subst eI33
                              have hI := hI.putF (n := 1000) (k := 65) (v := v32) rfl
                              have hK := hK.put (n := 1000) (k := 65) (v := v32) (by first | rfl | simp [inR])
                              obtain ⟨v34, ev34⟩ : ∃ z : Int32, z = x2_23 + Int32.ofInt (1) := ⟨_, rfl⟩
                              have tv34 := a_inc ev34 (by decide) (by omega) (by omega)
                              refine lv_iinc (v := v34) (lv' := [(2, .int (v34)), (3, .int (x3_71)), (0, .ref (ad (1000))), (1, .int (a0))]) hx hb dX10_goesDay_124 hl (k := 1) rfl ev34.symm (by decide) rfl (fun ls hl => ?_)
                              refine lv_goto (tgt := 23) hx hb dX10_goesDay_127 (by decide) ?_
                              have hnn : (v34).toNatClampNeg = (x2_23).toNatClampNeg + 1 := by have z1 := tn (i := v34) (by omega); have z2 := tn (i := x2_23) (by omega); omega
                              have hhI : hrI (x2_23).toNatClampNeg = x2_23 := hrI_of (by omega)
                              have hD1 : (dyS lw (live I) ((x2_23).toNatClampNeg + 1)).1 = (trV (dyS lw (live I) (x2_23).toNatClampNeg).1 x2_23 (dyS lw (live I) (x2_23).toNatClampNeg).2 lw) := by show trV (dyS lw (live I) (x2_23).toNatClampNeg).1 (hrI (x2_23).toNatClampNeg) (dyS lw (live I) (x2_23).toNatClampNeg).2 lw = _; rw [hhI]
                              have hD2 : ∀ j, (dyS lw (live I) ((x2_23).toNatClampNeg + 1)).2 j = adG (trV (dyS lw (live I) (x2_23).toNatClampNeg).1 x2_23 (dyS lw (live I) (x2_23).toNatClampNeg).2 lw) x2_23 (dyS lw (live I) (x2_23).toNatClampNeg).2 j := fun j => by show adG (trV (dyS lw (live I) (x2_23).toNatClampNeg).1 (hrI (x2_23).toNatClampNeg) (dyS lw (live I) (x2_23).toNatClampNeg).2 lw) (hrI (x2_23).toNatClampNeg) (dyS lw (live I) (x2_23).toNatClampNeg).2 j = _; rw [hhI]
                              have hD3 : blS lw (live I) ((x2_23).toNatClampNeg + 1) = blS lw (live I) (x2_23).toNatClampNeg + blH (trV (dyS lw (live I) (x2_23).toNatClampNeg).1 x2_23 (dyS lw (live I) (x2_23).toNatClampNeg).2 lw) x2_23 := by show _ + blH (dyS lw (live I) ((x2_23).toNatClampNeg + 1)).1 (hrI (x2_23).toNatClampNeg) = _; rw [hD1, hhI]
                              exact ih23 (v34) (u2 Ia71 (1000) 65 (v32)) La71 _ _ ls hI hK (by first | omega | decide) (by rw [hnn, hD1]; exact (EqV.tr hv71 (live_ne (n := 1000) (by decide)))) (fun j hj => by rw [hnn, hD2]; unfold adG; rw [if_neg (show ¬ (wyV (trV (dyS lw (live I) (x2_23).toNatClampNeg).1 x2_23 (dyS lw (live I) (x2_23).toNatClampNeg).2 lw) x2_23).toInt = -1 from by rw [(wyV_eq hvT (OKW.tV hw23).1 (by omega)).2.1.symm, wy_M, ← xr20]; omega), hS3]; refine (congrFun ((show (u2 Ia71 (1000) 65 (v32)) 1064 = Ia71 1064 from by funext zz; simp [u2_v])) j).trans ((hg71 j hj).trans ?_); by_cases hq : j < (x3_71).toNatClampNeg; rw [if_pos hq]; rw [if_neg hq, show S2.got j = 0 from (by have h1 := shV_g (h := x2_23) (OKW.tV hw23) (k := j) (by have e9 : Ia71 1001 9 = (trV (dyS lw (live I) (x2_23).toNatClampNeg).1 x2_23 (dyS lw (live I) (x2_23).toNatClampNeg).2 lw) 1 9 := hv71 1 9 (by decide) (by decide) (by decide); rw [← e9]; have z1 := tn (i := x3_71) (by omega); have z2 := tn (i := Ia71 1001 9) (by omega); omega); rw [hS3] at h1; exact h1)]; exact (i_adz _).symm) (by rw [(show (u2 Ia71 (1000) 65 (v32)) (1000) 59 = Ia71 (1000) 59 from by simp [u2_v])]; exact hs71) (by rw [hnn, hD3]; unfold blH; rw [if_neg (show ¬ (wyV (trV (dyS lw (live I) (x2_23).toNatClampNeg).1 x2_23 (dyS lw (live I) (x2_23).toNatClampNeg).2 lw) x2_23).toInt = -1 from by rw [(wyV_eq hvT (OKW.tV hw23).1 (by omega)).2.1.symm, wy_M, ← xr20]; omega), ← hbl, if_pos (by omega)]; rw [u2_self, ev32, show Ia71 1000 65 = I 1000 65 + blS lw (live I) (x2_23).toNatClampNeg from hb71]; exact Int32.add_assoc _ _ _) (by omega) hM hS (lv_sub hl [0, 2, 3] rfl)
                          · have hc26 := c26
                            have q26 := q_nle hc26
                            refine lv_aload_n hx hb dX10_goesDay_82 rfl (lv_at hl 2 rfl) ?_
                            refine m_getr (1000) 64 (1064) hx hb hts hown hE oc10 hM hJ.1 rfl (by decide) rfl (hJ.2 64 (by decide)).2 (by decide) tb_1241 dX10_goesDay_83 ?_
                            refine lv_iload_n hx hb dX10_goesDay_86 rfl (lv_at hl 0 rfl) ?_
                            refine lv_dup2_11 hx hb dX10_goesDay_87 rfl rfl ?_
                            refine m_iald (1064) hx hb hE hM (hJ.2 64 (by decide)).1 rfl (vp_in_iff.mpr (by omega)) dX10_goesDay_88 ?_
                            refine lv_aload_n hx hb dX10_goesDay_89 rfl (lv_at hl 2 rfl) ?_
                            refine m_getr (1000) 50 (1050) hx hb hts hown hE oc10 hM hJ.1 rfl (by decide) rfl (hJ.2 50 (by decide)).2 (by decide) tb_1227 dX10_goesDay_90 ?_
                            refine lv_iload_n hx hb dX10_goesDay_93 rfl (lv_at hl 0 rfl) ?_
                            refine m_iald (1050) hx hb hE hM (hJ.2 50 (by decide)).1 rfl (vp_in_iff.mpr (by omega)) dX10_goesDay_94 ?_
                            refine lv_iadd hx hb dX10_goesDay_95 ?_
                            refine lv_topi (fun v35 ev35 => ?_)
                            refine m_iast (1064) hx hb hE hM hS (hJ.2 64 (by decide)).1 rfl (vp_in_iff.mpr (by omega)) dX10_goesDay_96 (fun H locs I36 eI36 hM hS => ?_)
                            subst eI36
                            have hI := hI.putF (n := 1064) (k := ((x3_71).toNatClampNeg)) (v := v35) rfl
                            have hK := hK.put (n := 1064) (k := ((x3_71).toNatClampNeg)) (v := v35) (by first | rfl | simp [inR])
                            obtain ⟨v37, ev37⟩ : ∃ z : Int32, z = x3_71 + Int32.ofInt (1) := ⟨_, rfl⟩
                            have tv37 := a_inc ev37 (by decide) (by omega) (by omega)
                            refine lv_iinc (v := v37) (lv' := [(3, .int (v37)), (2, .int (x2_23)), (0, .ref (ad (1000))), (1, .int (a0))]) hx hb dX10_goesDay_97 hl (k := 0) rfl ev37.symm (by decide) rfl (fun ls hl => ?_)
                            refine lv_goto (tgt := 71) hx hb dX10_goesDay_100 (by decide) ?_
                            exact ih71 (v37) (u2 Ia71 (1064) ((x3_71).toNatClampNeg) (v35)) La71 _ _ ls hI hK (by first | omega | decide) (EqV.tr hv71 (live_ne (n := 1064) (by decide))) (by rw [(show (u2 Ia71 (1064) ((x3_71).toNatClampNeg) (v35)) (1001) 9 = Ia71 (1001) 9 from by simp [u2_v])]; omega) (fun j hj => by have z1 := tn (i := x3_71) (by omega); have z2 := tn (i := v37) (by omega); rw [show (v37).toNatClampNeg = (x3_71).toNatClampNeg + 1 from by omega, u2_v]; by_cases hq : j = (x3_71).toNatClampNeg; (rw [if_pos ⟨rfl, hq⟩, if_pos (by omega), ev35, hg71 _ (by omega), if_neg (by omega), hk71 _ (by omega), hq]); (rw [if_neg (fun z => hq z.2), hg71 j hj]; by_cases hz : j < (x3_71).toNatClampNeg; rw [if_pos hz, if_pos (by omega)]; rw [if_neg hz, if_neg (by omega)])) (fun j hj => (congrFun ((show (u2 Ia71 (1064) ((x3_71).toNatClampNeg) (v35)) 1050 = Ia71 1050 from by funext zz; simp [u2_v])) j).trans (hk71 j hj)) (fun j hj => (congrFun ((show (u2 Ia71 (1064) ((x3_71).toNatClampNeg) (v35)) 1049 = Ia71 1049 from by funext zz; simp [u2_v])) j).trans (hp71 j hj)) (by rw [(show (u2 Ia71 (1064) ((x3_71).toNatClampNeg) (v35)) (1000) 59 = Ia71 (1000) 59 from by simp [u2_v])]; exact hs71) (((show (u2 Ia71 (1064) ((x3_71).toNatClampNeg) (v35)) (1000) 65 = Ia71 (1000) 65 from by simp [u2_v])).trans hb71) (by omega) hM hS (lv_sub hl [0, 1, 2, 3] rfl)
                      exact loop71 (_ + 1) (0) I23 L24 _ _ ls hI hK (by first | omega | decide) (EqV.tr hvT (live_fr hkI23 rfl)) (by have := hI.get 1001 9 (lo := 0) (hi := 8) rfl; omega) (fun j hj => by rw [show (0 : Int32).toNatClampNeg = 0 from rfl, if_neg (fun z => absurd z (Nat.not_lt_zero j))]; exact (congrFun ((hkI23.getA 1064 rfl)) j).trans (hg31 j hj)) (fun j hj => hS1.1 j hj) (fun c hc => hS1.2.1 c hc) xI23.2 (((hkI23.get (1000) 65 rfl)).trans hb31) (Nat.lt_succ_self _) hM hS (lv_sub hl [0, 1, 2, 3] rfl)
                  · have hc19 := c19
                    have q19 := q_nle hc19
                    refine lv_aload_n hx hb dX10_goesDay_42 rfl (lv_at hl 2 rfl) ?_
                    refine lv_iload_n hx hb dX10_goesDay_43 rfl (lv_at hl 3 rfl) ?_
                    refine lv_iload_n hx hb dX10_goesDay_44 rfl (lv_at hl 1 rfl) ?_
                    refine lv_iload_n hx hb dX10_goesDay_45 rfl (lv_at hl 0 rfl) ?_
                    refine m_callv (m_runV (1000) (As := [.int (a0), .int (x2_23), .int (x3_31)]) (rest := []) hx hb hml hown hts hE hM hS hA ce_X10_turns tb_1617 (V_X10_turns_y l D A ad ns Ia31 La31 G lw (a0) (x2_23) (x3_31) hJ hI (hLR.kp hK rfl) hLF (by omega) (fun j h1 h2 => by rw [hg31 j h2]; exact (dyS_g hOK (by have e9 : Ia31 1001 9 = live I 1 9 := (hv31 1 9 (by decide) (by decide) (by decide)).trans ((trK_ne (by decide)).trans (dyS_g hOK (k := 8) (by have := hOK.n9; omega) _).1); rw [← e9]; exact h1) _).2) (((hr31.eq hv31).2.2.2.1 (x3_31).toNatClampNeg (by have z := tn (i := x3_31) (by omega); omega)).1) (((hr31.eq hv31).2.2.2.1 (x3_31).toNatClampNeg (by have z := tn (i := x3_31) (by omega); omega)).2.2.2.1) (by first | omega | decide) (by first | omega | decide) (by first | omega | decide)) rfl rfl ⟨Nat.le_of_ble_eq_true rfl, Nat.le_of_ble_eq_true rfl⟩ hJ.1 rfl rfl (by decide) rfl hl.1 rfl (Nat.le_of_ble_eq_true rfl) dX10_goesDay_46 ⟨Nat.le_of_ble_eq_true rfl, Nat.le_of_ble_eq_true rfl⟩) hS (fun u H locs hw hM hS => ?_)
                    obtain ⟨I38, L39, rfl, hI, hkI38, xI38⟩ := hw
                    have hM : Mem D A ad ns I38 L39 G H := hM
                    have hK := hK.trans hkI38 rfl
                    obtain ⟨v40, ev40⟩ : ∃ z : Int32, z = x3_31 + Int32.ofInt (1) := ⟨_, rfl⟩
                    have tv40 := a_inc ev40 (by decide) (by omega) (by omega)
                    refine lv_iinc (v := v40) (lv' := [(3, .int (v40)), (2, .int (x2_23)), (0, .ref (ad (1000))), (1, .int (a0))]) hx hb dX10_goesDay_49 hl (k := 0) rfl ev40.symm (by decide) rfl (fun ls hl => ?_)
                    refine lv_goto (tgt := 31) hx hb dX10_goesDay_52 (by decide) ?_
                    exact ih31 (v40) I38 L39 _ _ ls hI hK (by first | omega | decide) (by rw [show (v40).toNatClampNeg = (x3_31).toNatClampNeg + 1 from (by have z1 := tn (i := v40) (by omega); have z2 := tn (i := x3_31) (by omega); omega)]; exact (trK_step hv31 (fun j hj => hg31 j hj) (by have z := tn (i := x3_31) (by omega); omega) hw23.1 (by omega) xI38)) (by rw [(hkI38.get (1001) 8 rfl)]; omega) (fun j hj => (congrFun ((hkI38.getA 1064 rfl)) j).trans (hg31 j hj)) (by rw [(hkI38.get (1000) 59 rfl)]; exact hs31) (((hkI38.get (1000) 65 rfl)).trans hb31) (by rw [(hkI38.get (1001) 0 rfl)]; exact ht31) (by omega) hM hS (lv_sub hl [0, 1, 2, 3] rfl)
              exact loop31 (_ + 1) (0) Ia23 La23 _ _ ls hI hK (by first | omega | decide) (by rw [show (0 : Int32).toNatClampNeg = 0 from rfl, trK_0]; exact hv23) (by omega) hg23 hs23 hb23 ht23 (Nat.lt_succ_self _) hM hS (lv_sub hl [0, 1, 2, 3] rfl)
        exact loop23 (_ + 1) (0) Ia2 La2 _ _ ls hI hK (by first | omega | decide) (show EqV (dyS lw (live I) 0).1 (live Ia2) from hv2) (fun j hj => (hg2 j (by have z1 := tn (i := x2_2) (by omega); omega))) (by rw [hs2]; omega) (by rw [hb2]; exact (i_adz _).symm) (Nat.lt_succ_self _) hM hS (lv_sub hl [0, 1, 2] rfl)
      · have hc1 := c1
        have q1 := q_nle hc1
        refine lv_aload_n hx hb dX10_goesDay_8 rfl (lv_at hl 1 rfl) ?_
        refine m_getr (1000) 64 (1064) hx hb hts hown hE oc10 hM hJ.1 rfl (by decide) rfl (hJ.2 64 (by decide)).2 (by decide) tb_1241 dX10_goesDay_9 ?_
        refine lv_iload_n hx hb dX10_goesDay_12 rfl (lv_at hl 0 rfl) ?_
        refine lv_iconst (v := (0)) hx hb dX10_goesDay_13 (by decide) ?_
        refine m_iast (1064) hx hb hE hM hS (hJ.2 64 (by decide)).1 rfl (vp_in_iff.mpr (by omega)) dX10_goesDay_14 (fun H locs I41 eI41 hM hS => ?_)
        subst eI41
        have hI := hI.putF (n := 1064) (k := ((x2_2).toNatClampNeg)) (v := 0) rfl
        have hK := hK.put (n := 1064) (k := ((x2_2).toNatClampNeg)) (v := 0) (by first | rfl | simp [inR])
        obtain ⟨v42, ev42⟩ : ∃ z : Int32, z = x2_2 + Int32.ofInt (1) := ⟨_, rfl⟩
        have tv42 := a_inc ev42 (by decide) (by omega) (by omega)
        refine lv_iinc (v := v42) (lv' := [(2, .int (v42)), (0, .ref (ad (1000))), (1, .int (a0))]) hx hb dX10_goesDay_15 hl (k := 0) rfl ev42.symm (by decide) rfl (fun ls hl => ?_)
        refine lv_goto (tgt := 2) hx hb dX10_goesDay_18 (by decide) ?_
        exact ih2 (v42) (u2 Ia2 (1064) ((x2_2).toNatClampNeg) (0)) La2 _ _ ls hI hK (by first | omega | decide) (EqV.tr hv2 (live_ne (n := 1064) (by decide))) (fun j hj => by have z1 := tn (i := x2_2) (by omega); have z2 := tn (i := v42) (by omega); rw [u2_v]; by_cases hq : j = (x2_2).toNatClampNeg; rw [if_pos ⟨rfl, hq⟩]; rw [if_neg (fun z => hq z.2)]; exact hg2 j (by omega)) (((show (u2 Ia2 (1064) ((x2_2).toNatClampNeg) (0)) (1000) 59 = Ia2 (1000) 59 from by simp [u2_v])).trans hs2) (((show (u2 Ia2 (1064) ((x2_2).toNatClampNeg) (0)) (1000) 65 = Ia2 (1000) 65 from by simp [u2_v])).trans hb2) (by omega) hM hS (lv_sub hl [0, 1, 2] rfl)
  exact loop2 (_ + 1) (0) I L _ _ ls hI hK (by first | omega | decide) EqV.rf (fun j hj => absurd hj (Nat.not_lt_zero j)) rfl rfl (Nat.lt_succ_self _) hM hS (lv_sub hl [0, 1, 2] rfl)
