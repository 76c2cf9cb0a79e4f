set_option maxHeartbeats 4000000 in
set_option maxRecDepth 20000 in
theorem V_X9_putOnTape_h (l : Launch) (D : va_G) (A : Nat → Prop) (ad : Nat → Nat) (ns : List Nat) (I : MI) (L : ML) (G : MG) (a0 : Int32) (hG : SGC ns G) (hI : INV I) (ht : (I 0 15).toInt ≤ 396) : Met l yX9_putOnTape (wd yX9_putOnTape cX9_putOnTape 3 none) ({ frames := 0, cells := 0, slots := 0, locals := 0 }) (va_Pc [.ref (ad (0)), .int a0] (PM D A ad ns I L G)) (va_Qv (fun u => ∃ I2 L2, u = (ad, ns, I2, L2, G) ∧ INV I2 ∧ Kp [(3, 4)] [(0, 15)] I I2 ∧ ((I2 0 15).toInt = (I 0 15).toInt + 4 ∧ PUT4 (I 3) (I2 3) (I 0 15).toNatClampNeg a0)) (BM D A) A) 0 0 A := by
  refine m_ofW (by decide) (Nat.le_of_ble_eq_true rfl) ?_
  intro p e s m below meth c ls args hC hE hM hA hS hl
  obtain ⟨hx, hb, hml, hown, hts, hr, hlocks, hin⟩ := hC
  have k0 : (0 : Int32).toInt = 0 := by decide
  have k1 : (1 : Int32).toInt = 1 := by decide
  have k24 : (24 : Int32).toInt = 24 := by decide
  have k400 : (400 : Int32).toInt = 400 := by decide
  have hK : Kp [(3, 4)] [(0, 15)] I I := Kp.rf
  have hl : lv_has ls 3 [(0, .ref (ad (0))), (1, .int (a0))] := hl
  refine lv_bipush (v := (24)) hx hb dX9_putOnTape_0 (by decide) ?_
  refine lv_istore_n (lv' := [(2, .int (24)), (0, .ref (ad (0))), (1, .int (a0))]) hx hb dX9_putOnTape_2 rfl hl (by decide) rfl (fun ls hl => ?_)
  refine lv_iload_n hx hb dX9_putOnTape_3 rfl (lv_at hl 0 rfl) ?_
  refine lv_if_lt (tgt := 46) hx hb dX9_putOnTape_4 (by decide) (fun c1 => ?_) (fun c1 => ?_)
  · exact absurd c1 (by decide)
  · have hc1 := c1
    have q1 := q_nlt hc1
    refine lv_aload_n hx hb dX9_putOnTape_7 rfl (lv_at hl 1 rfl) ?_
    refine m_geti (0) 15 hx hb hts hown hE oc9 hM (hG.1 0 (by decide)) rfl (by decide) rfl tb_413 dX9_putOnTape_8 ?_
    have g2 := hI.get (0) 15 (lo := 0) (hi := 400) rfl
    refine lv_sipush (v := (400)) hx hb dX9_putOnTape_11 (by decide) ?_
    refine lv_icmp_ge (tgt := 46) hx hb dX9_putOnTape_14 (by decide) (fun c3 => ?_) (fun c3 => ?_)
    · exact absurd (q_le c3) (by omega)
    · have hc3 := c3
      have q3 := q_nle hc3
      refine lv_aload_n hx hb dX9_putOnTape_17 rfl (lv_at hl 1 rfl) ?_
      refine m_getr (0) 11 (3) hx hb hts hown hE oc9 hM (hG.1 0 (by decide)) rfl (by decide) rfl (hG.2 (0, 11, 3) (by decide)) (by decide) tb_409 dX9_putOnTape_18 ?_
      refine lv_aload_n hx hb dX9_putOnTape_21 rfl (lv_at hl 1 rfl) ?_
      refine m_geti (0) 15 hx hb hts hown hE oc9 hM (hG.1 0 (by decide)) rfl (by decide) rfl tb_413 dX9_putOnTape_22 ?_
      refine lv_iload_n hx hb dX9_putOnTape_25 rfl (lv_at hl 2 rfl) ?_
      refine lv_iload_n hx hb dX9_putOnTape_26 rfl (lv_at hl 0 rfl) ?_
      refine lv_iushr hx hb dX9_putOnTape_27 rfl ?_
      refine lv_topi (fun v4 ev4 => ?_)
      refine lv_i2b hx hb dX9_putOnTape_28 rfl ?_
      refine lv_topi (fun v5 ev5 => ?_)
      refine m_bast (3) hx hb hE hM hS (hG.1 3 (by decide)) rfl (vp_in_iff.mpr (by omega)) dX9_putOnTape_29 (fun H locs I6 eI6 hM hS => ?_)
      subst eI6
      have hI := hI.put (n := 3) (k := ((I (0) 15).toNatClampNeg)) (v := vp_nar .byte (v5)) (lo := -128) (hi := 127) rfl (nar_byte _)
      have hK := hK.put (n := 3) (k := ((I (0) 15).toNatClampNeg)) (v := vp_nar .byte (v5)) (by first | rfl | simp [inR])
      refine lv_aload_n hx hb dX9_putOnTape_30 rfl (lv_at hl 1 rfl) ?_
      refine lv_dup hx hb dX9_putOnTape_31 rfl ?_
      refine m_geti (0) 15 hx hb hts hown hE oc9 hM (hG.1 0 (by decide)) rfl (by decide) rfl tb_413 dX9_putOnTape_32 ?_
      have z7 : (u2 I (3) ((I (0) 15).toNatClampNeg) (vp_nar .byte (v5))) (0) 15 = I (0) 15 := (show (u2 I (3) ((I (0) 15).toNatClampNeg) (vp_nar .byte (v5))) (0) 15 = I (0) 15 from by simp [u2_v])
      rw [z7]
      refine lv_iconst (v := (1)) hx hb dX9_putOnTape_35 (by decide) ?_
      refine lv_iadd hx hb dX9_putOnTape_36 ?_
      refine lv_topi (fun v8 ev8 => ?_)
      have tv8 := a_add ev8 (by omega) (by omega)
      refine m_puti (0) 15 hx hb hts hown hE oc9 hM hS (hG.1 0 (by decide)) rfl (by decide) rfl rfl rfl rfl tb_413 dX9_putOnTape_37 (fun H locs I9 eI9 hM hS => ?_)
      subst eI9
      have hI := hI.put (n := 0) (k := 15) (v := v8) (lo := 0) (hi := 400) rfl (by first | omega | decide)
      have hK := hK.put (n := 0) (k := 15) (v := v8) (by first | rfl | simp [inR])
      refine lv_iinc (v := 16) (lv' := [(2, .int (16)), (0, .ref (ad (0))), (1, .int (a0))]) hx hb dX9_putOnTape_40 hl (k := 0) rfl (by decide) (by decide) rfl (fun ls hl => ?_)
      refine lv_goto (tgt := 3) hx hb dX9_putOnTape_43 (by decide) ?_
      refine lv_iload_n hx hb dX9_putOnTape_3 rfl (lv_at hl 0 rfl) ?_
      refine lv_if_lt (tgt := 46) hx hb dX9_putOnTape_4 (by decide) (fun c11 => ?_) (fun c11 => ?_)
      · exact absurd c11 (by decide)
      · have hc11 := c11
        have q11 := q_nlt hc11
        refine lv_aload_n hx hb dX9_putOnTape_7 rfl (lv_at hl 1 rfl) ?_
        refine m_geti (0) 15 hx hb hts hown hE oc9 hM (hG.1 0 (by decide)) rfl (by decide) rfl tb_413 dX9_putOnTape_8 ?_
        have g12 := hI.get (0) 15 (lo := 0) (hi := 400) rfl
        have z13 : (u2 (u2 I (3) ((I (0) 15).toNatClampNeg) (vp_nar .byte (v5))) (0) 15 (v8)) (0) 15 = v8 := (show (u2 (u2 I (3) ((I (0) 15).toNatClampNeg) (vp_nar .byte (v5))) (0) 15 (v8)) (0) 15 = v8 from by simp [u2_v])
        rw [z13] at g12 ⊢
        refine lv_sipush (v := (400)) hx hb dX9_putOnTape_11 (by decide) ?_
        refine lv_icmp_ge (tgt := 46) hx hb dX9_putOnTape_14 (by decide) (fun c14 => ?_) (fun c14 => ?_)
        · exact absurd (q_le c14) (by omega)
        · have hc14 := c14
          have q14 := q_nle hc14
          refine lv_aload_n hx hb dX9_putOnTape_17 rfl (lv_at hl 1 rfl) ?_
          refine m_getr (0) 11 (3) hx hb hts hown hE oc9 hM (hG.1 0 (by decide)) rfl (by decide) rfl (hG.2 (0, 11, 3) (by decide)) (by decide) tb_409 dX9_putOnTape_18 ?_
          refine lv_aload_n hx hb dX9_putOnTape_21 rfl (lv_at hl 1 rfl) ?_
          refine m_geti (0) 15 hx hb hts hown hE oc9 hM (hG.1 0 (by decide)) rfl (by decide) rfl tb_413 dX9_putOnTape_22 ?_
          have z15 : (u2 (u2 I (3) ((I (0) 15).toNatClampNeg) (vp_nar .byte (v5))) (0) 15 (v8)) (0) 15 = v8 := (show (u2 (u2 I (3) ((I (0) 15).toNatClampNeg) (vp_nar .byte (v5))) (0) 15 (v8)) (0) 15 = v8 from by simp [u2_v])
          rw [z15]
          refine lv_iload_n hx hb dX9_putOnTape_25 rfl (lv_at hl 2 rfl) ?_
          refine lv_iload_n hx hb dX9_putOnTape_26 rfl (lv_at hl 0 rfl) ?_
          refine lv_iushr hx hb dX9_putOnTape_27 rfl ?_
          refine lv_topi (fun v16 ev16 => ?_)
          refine lv_i2b hx hb dX9_putOnTape_28 rfl ?_
          refine lv_topi (fun v17 ev17 => ?_)
          refine m_bast (3) hx hb hE hM hS (hG.1 3 (by decide)) rfl (vp_in_iff.mpr (by omega)) dX9_putOnTape_29 (fun H locs I18 eI18 hM hS => ?_)
          subst eI18
          have hI := hI.put (n := 3) (k := ((v8).toNatClampNeg)) (v := vp_nar .byte (v17)) (lo := -128) (hi := 127) rfl (nar_byte _)
          have hK := hK.put (n := 3) (k := ((v8).toNatClampNeg)) (v := vp_nar .byte (v17)) (by first | rfl | simp [inR])
          refine lv_aload_n hx hb dX9_putOnTape_30 rfl (lv_at hl 1 rfl) ?_
          refine lv_dup hx hb dX9_putOnTape_31 rfl ?_
          refine m_geti (0) 15 hx hb hts hown hE oc9 hM (hG.1 0 (by decide)) rfl (by decide) rfl tb_413 dX9_putOnTape_32 ?_
          have z19 : (u2 (u2 (u2 I (3) ((I (0) 15).toNatClampNeg) (vp_nar .byte (v5))) (0) 15 (v8)) (3) ((v8).toNatClampNeg) (vp_nar .byte (v17))) (0) 15 = v8 := (show (u2 (u2 (u2 I (3) ((I (0) 15).toNatClampNeg) (vp_nar .byte (v5))) (0) 15 (v8)) (3) ((v8).toNatClampNeg) (vp_nar .byte (v17))) (0) 15 = v8 from by simp [u2_v])
          rw [z19]
          refine lv_iconst (v := (1)) hx hb dX9_putOnTape_35 (by decide) ?_
          refine lv_iadd hx hb dX9_putOnTape_36 ?_
          refine lv_topi (fun v20 ev20 => ?_)
          have tv20 := a_add ev20 (by omega) (by omega)
          refine m_puti (0) 15 hx hb hts hown hE oc9 hM hS (hG.1 0 (by decide)) rfl (by decide) rfl rfl rfl rfl tb_413 dX9_putOnTape_37 (fun H locs I21 eI21 hM hS => ?_)
          subst eI21
          have hI := hI.put (n := 0) (k := 15) (v := v20) (lo := 0) (hi := 400) rfl (by first | omega | decide)
          have hK := hK.put (n := 0) (k := 15) (v := v20) (by first | rfl | simp [inR])
          refine lv_iinc (v := 8) (lv' := [(2, .int (8)), (0, .ref (ad (0))), (1, .int (a0))]) hx hb dX9_putOnTape_40 hl (k := 0) rfl (by decide) (by decide) rfl (fun ls hl => ?_)
          refine lv_goto (tgt := 3) hx hb dX9_putOnTape_43 (by decide) ?_
          refine lv_iload_n hx hb dX9_putOnTape_3 rfl (lv_at hl 0 rfl) ?_
          refine lv_if_lt (tgt := 46) hx hb dX9_putOnTape_4 (by decide) (fun c23 => ?_) (fun c23 => ?_)
          · exact absurd c23 (by decide)
          · have hc23 := c23
            have q23 := q_nlt hc23
            refine lv_aload_n hx hb dX9_putOnTape_7 rfl (lv_at hl 1 rfl) ?_
            refine m_geti (0) 15 hx hb hts hown hE oc9 hM (hG.1 0 (by decide)) rfl (by decide) rfl tb_413 dX9_putOnTape_8 ?_
            have g24 := hI.get (0) 15 (lo := 0) (hi := 400) rfl
            have z25 : (u2 (u2 (u2 (u2 I (3) ((I (0) 15).toNatClampNeg) (vp_nar .byte (v5))) (0) 15 (v8)) (3) ((v8).toNatClampNeg) (vp_nar .byte (v17))) (0) 15 (v20)) (0) 15 = v20 := (show (u2 (u2 (u2 (u2 I (3) ((I (0) 15).toNatClampNeg) (vp_nar .byte (v5))) (0) 15 (v8)) (3) ((v8).toNatClampNeg) (vp_nar .byte (v17))) (0) 15 (v20)) (0) 15 = v20 from by simp [u2_v])
            rw [z25] at g24 ⊢
            refine lv_sipush (v := (400)) hx hb dX9_putOnTape_11 (by decide) ?_
            refine lv_icmp_ge (tgt := 46) hx hb dX9_putOnTape_14 (by decide) (fun c26 => ?_) (fun c26 => ?_)
            · exact absurd (q_le c26) (by omega)
            · have hc26 := c26
              have q26 := q_nle hc26
              refine lv_aload_n hx hb dX9_putOnTape_17 rfl (lv_at hl 1 rfl) ?_
              refine m_getr (0) 11 (3) hx hb hts hown hE oc9 hM (hG.1 0 (by decide)) rfl (by decide) rfl (hG.2 (0, 11, 3) (by decide)) (by decide) tb_409 dX9_putOnTape_18 ?_
              refine lv_aload_n hx hb dX9_putOnTape_21 rfl (lv_at hl 1 rfl) ?_
              refine m_geti (0) 15 hx hb hts hown hE oc9 hM (hG.1 0 (by decide)) rfl (by decide) rfl tb_413 dX9_putOnTape_22 ?_
              have z27 : (u2 (u2 (u2 (u2 I (3) ((I (0) 15).toNatClampNeg) (vp_nar .byte (v5))) (0) 15 (v8)) (3) ((v8).toNatClampNeg) (vp_nar .byte (v17))) (0) 15 (v20)) (0) 15 = v20 := (show (u2 (u2 (u2 (u2 I (3) ((I (0) 15).toNatClampNeg) (vp_nar .byte (v5))) (0) 15 (v8)) (3) ((v8).toNatClampNeg) (vp_nar .byte (v17))) (0) 15 (v20)) (0) 15 = v20 from by simp [u2_v])
              rw [z27]
              refine lv_iload_n hx hb dX9_putOnTape_25 rfl (lv_at hl 2 rfl) ?_
              refine lv_iload_n hx hb dX9_putOnTape_26 rfl (lv_at hl 0 rfl) ?_
              refine lv_iushr hx hb dX9_putOnTape_27 rfl ?_
              refine lv_topi (fun v28 ev28 => ?_)
              refine lv_i2b hx hb dX9_putOnTape_28 rfl ?_
              refine lv_topi (fun v29 ev29 => ?_)
              refine m_bast (3) hx hb hE hM hS (hG.1 3 (by decide)) rfl (vp_in_iff.mpr (by omega)) dX9_putOnTape_29 (fun H locs I30 eI30 hM hS => ?_)
              subst eI30
              have hI := hI.put (n := 3) (k := ((v20).toNatClampNeg)) (v := vp_nar .byte (v29)) (lo := -128) (hi := 127) rfl (nar_byte _)
              have hK := hK.put (n := 3) (k := ((v20).toNatClampNeg)) (v := vp_nar .byte (v29)) (by first | rfl | simp [inR])
              refine lv_aload_n hx hb dX9_putOnTape_30 rfl (lv_at hl 1 rfl) ?_
              refine lv_dup hx hb dX9_putOnTape_31 rfl ?_
              refine m_geti (0) 15 hx hb hts hown hE oc9 hM (hG.1 0 (by decide)) rfl (by decide) rfl tb_413 dX9_putOnTape_32 ?_
              have z31 : (u2 (u2 (u2 (u2 (u2 I (3) ((I (0) 15).toNatClampNeg) (vp_nar .byte (v5))) (0) 15 (v8)) (3) ((v8).toNatClampNeg) (vp_nar .byte (v17))) (0) 15 (v20)) (3) ((v20).toNatClampNeg) (vp_nar .byte (v29))) (0) 15 = v20 := (show (u2 (u2 (u2 (u2 (u2 I (3) ((I (0) 15).toNatClampNeg) (vp_nar .byte (v5))) (0) 15 (v8)) (3) ((v8).toNatClampNeg) (vp_nar .byte (v17))) (0) 15 (v20)) (3) ((v20).toNatClampNeg) (vp_nar .byte (v29))) (0) 15 = v20 from by simp [u2_v])
              rw [z31]
              refine lv_iconst (v := (1)) hx hb dX9_putOnTape_35 (by decide) ?_
              refine lv_iadd hx hb dX9_putOnTape_36 ?_
              refine lv_topi (fun v32 ev32 => ?_)
              have tv32 := a_add ev32 (by omega) (by omega)
              refine m_puti (0) 15 hx hb hts hown hE oc9 hM hS (hG.1 0 (by decide)) rfl (by decide) rfl rfl rfl rfl tb_413 dX9_putOnTape_37 (fun H locs I33 eI33 hM hS => ?_)
              subst eI33
              have hI := hI.put (n := 0) (k := 15) (v := v32) (lo := 0) (hi := 400) rfl (by first | omega | decide)
              have hK := hK.put (n := 0) (k := 15) (v := v32) (by first | rfl | simp [inR])
              refine lv_iinc (v := 0) (lv' := [(2, .int (0)), (0, .ref (ad (0))), (1, .int (a0))]) hx hb dX9_putOnTape_40 hl (k := 0) rfl (by decide) (by decide) rfl (fun ls hl => ?_)
              refine lv_goto (tgt := 3) hx hb dX9_putOnTape_43 (by decide) ?_
              refine lv_iload_n hx hb dX9_putOnTape_3 rfl (lv_at hl 0 rfl) ?_
              refine lv_if_lt (tgt := 46) hx hb dX9_putOnTape_4 (by decide) (fun c35 => ?_) (fun c35 => ?_)
              · exact absurd c35 (by decide)
              · have hc35 := c35
                have q35 := q_nlt hc35
                refine lv_aload_n hx hb dX9_putOnTape_7 rfl (lv_at hl 1 rfl) ?_
                refine m_geti (0) 15 hx hb hts hown hE oc9 hM (hG.1 0 (by decide)) rfl (by decide) rfl tb_413 dX9_putOnTape_8 ?_
                have g36 := hI.get (0) 15 (lo := 0) (hi := 400) rfl
                have z37 : (u2 (u2 (u2 (u2 (u2 (u2 I (3) ((I (0) 15).toNatClampNeg) (vp_nar .byte (v5))) (0) 15 (v8)) (3) ((v8).toNatClampNeg) (vp_nar .byte (v17))) (0) 15 (v20)) (3) ((v20).toNatClampNeg) (vp_nar .byte (v29))) (0) 15 (v32)) (0) 15 = v32 := (show (u2 (u2 (u2 (u2 (u2 (u2 I (3) ((I (0) 15).toNatClampNeg) (vp_nar .byte (v5))) (0) 15 (v8)) (3) ((v8).toNatClampNeg) (vp_nar .byte (v17))) (0) 15 (v20)) (3) ((v20).toNatClampNeg) (vp_nar .byte (v29))) (0) 15 (v32)) (0) 15 = v32 from by simp [u2_v])
                rw [z37] at g36 ⊢
                refine lv_sipush (v := (400)) hx hb dX9_putOnTape_11 (by decide) ?_
                refine lv_icmp_ge (tgt := 46) hx hb dX9_putOnTape_14 (by decide) (fun c38 => ?_) (fun c38 => ?_)
                · exact absurd (q_le c38) (by omega)
                · have hc38 := c38
                  have q38 := q_nle hc38
                  refine lv_aload_n hx hb dX9_putOnTape_17 rfl (lv_at hl 1 rfl) ?_
                  refine m_getr (0) 11 (3) hx hb hts hown hE oc9 hM (hG.1 0 (by decide)) rfl (by decide) rfl (hG.2 (0, 11, 3) (by decide)) (by decide) tb_409 dX9_putOnTape_18 ?_
                  refine lv_aload_n hx hb dX9_putOnTape_21 rfl (lv_at hl 1 rfl) ?_
                  refine m_geti (0) 15 hx hb hts hown hE oc9 hM (hG.1 0 (by decide)) rfl (by decide) rfl tb_413 dX9_putOnTape_22 ?_
                  have z39 : (u2 (u2 (u2 (u2 (u2 (u2 I (3) ((I (0) 15).toNatClampNeg) (vp_nar .byte (v5))) (0) 15 (v8)) (3) ((v8).toNatClampNeg) (vp_nar .byte (v17))) (0) 15 (v20)) (3) ((v20).toNatClampNeg) (vp_nar .byte (v29))) (0) 15 (v32)) (0) 15 = v32 := (show (u2 (u2 (u2 (u2 (u2 (u2 I (3) ((I (0) 15).toNatClampNeg) (vp_nar .byte (v5))) (0) 15 (v8)) (3) ((v8).toNatClampNeg) (vp_nar .byte (v17))) (0) 15 (v20)) (3) ((v20).toNatClampNeg) (vp_nar .byte (v29))) (0) 15 (v32)) (0) 15 = v32 from by simp [u2_v])
                  rw [z39]
                  refine lv_iload_n hx hb dX9_putOnTape_25 rfl (lv_at hl 2 rfl) ?_
                  refine lv_iload_n hx hb dX9_putOnTape_26 rfl (lv_at hl 0 rfl) ?_
                  refine lv_iushr hx hb dX9_putOnTape_27 rfl ?_
                  refine lv_topi (fun v40 ev40 => ?_)
                  refine lv_i2b hx hb dX9_putOnTape_28 rfl ?_
                  refine lv_topi (fun v41 ev41 => ?_)
                  refine m_bast (3) hx hb hE hM hS (hG.1 3 (by decide)) rfl (vp_in_iff.mpr (by omega)) dX9_putOnTape_29 (fun H locs I42 eI42 hM hS => ?_)
                  subst eI42
                  have hI := hI.put (n := 3) (k := ((v32).toNatClampNeg)) (v := vp_nar .byte (v41)) (lo := -128) (hi := 127) rfl (nar_byte _)
                  have hK := hK.put (n := 3) (k := ((v32).toNatClampNeg)) (v := vp_nar .byte (v41)) (by first | rfl | simp [inR])
                  refine lv_aload_n hx hb dX9_putOnTape_30 rfl (lv_at hl 1 rfl) ?_
                  refine lv_dup hx hb dX9_putOnTape_31 rfl ?_
                  refine m_geti (0) 15 hx hb hts hown hE oc9 hM (hG.1 0 (by decide)) rfl (by decide) rfl tb_413 dX9_putOnTape_32 ?_
                  have z43 : (u2 (u2 (u2 (u2 (u2 (u2 (u2 I (3) ((I (0) 15).toNatClampNeg) (vp_nar .byte (v5))) (0) 15 (v8)) (3) ((v8).toNatClampNeg) (vp_nar .byte (v17))) (0) 15 (v20)) (3) ((v20).toNatClampNeg) (vp_nar .byte (v29))) (0) 15 (v32)) (3) ((v32).toNatClampNeg) (vp_nar .byte (v41))) (0) 15 = v32 := (show (u2 (u2 (u2 (u2 (u2 (u2 (u2 I (3) ((I (0) 15).toNatClampNeg) (vp_nar .byte (v5))) (0) 15 (v8)) (3) ((v8).toNatClampNeg) (vp_nar .byte (v17))) (0) 15 (v20)) (3) ((v20).toNatClampNeg) (vp_nar .byte (v29))) (0) 15 (v32)) (3) ((v32).toNatClampNeg) (vp_nar .byte (v41))) (0) 15 = v32 from by simp [u2_v])
                  rw [z43]
                  refine lv_iconst (v := (1)) hx hb dX9_putOnTape_35 (by decide) ?_
                  refine lv_iadd hx hb dX9_putOnTape_36 ?_
                  refine lv_topi (fun v44 ev44 => ?_)
                  have tv44 := a_add ev44 (by omega) (by omega)
                  refine m_puti (0) 15 hx hb hts hown hE oc9 hM hS (hG.1 0 (by decide)) rfl (by decide) rfl rfl rfl rfl tb_413 dX9_putOnTape_37 (fun H locs I45 eI45 hM hS => ?_)
                  subst eI45
                  have hI := hI.put (n := 0) (k := 15) (v := v44) (lo := 0) (hi := 400) rfl (by first | omega | decide)
                  have hK := hK.put (n := 0) (k := 15) (v := v44) (by first | rfl | simp [inR])
                  refine lv_iinc (v := (-8 : Int32)) (lv' := [(2, .int ((-8 : Int32))), (0, .ref (ad (0))), (1, .int (a0))]) hx hb dX9_putOnTape_40 hl (k := 0) rfl (by decide) (by decide) rfl (fun ls hl => ?_)
                  refine lv_goto (tgt := 3) hx hb dX9_putOnTape_43 (by decide) ?_
                  refine lv_iload_n hx hb dX9_putOnTape_3 rfl (lv_at hl 0 rfl) ?_
                  refine lv_if_lt (tgt := 46) hx hb dX9_putOnTape_4 (by decide) (fun c47 => ?_) (fun c47 => ?_)
                  · have hc47 := c47
                    have q47 := q_lt hc47
                    have z0 := tn (i := I 0 15) (by omega)
                    have y1 : (v8).toNatClampNeg = (I 0 15).toNatClampNeg + 1 := by have z1 := tn (i := v8) (by omega); omega
                    have y2 : (v20).toNatClampNeg = (I 0 15).toNatClampNeg + 2 := by have z1 := tn (i := v20) (by omega); omega
                    have y3 : (v32).toNatClampNeg = (I 0 15).toNatClampNeg + 3 := by have z1 := tn (i := v32) (by omega); omega
                    have b0 : vp_nar .byte v5 = B4 a0 24 := B4_u 24 ev4 ev5 (by decide) (by decide) (by decide)
                    have b1 : vp_nar .byte v17 = B4 a0 16 := B4_u 16 ev16 ev17 (by decide) (by decide) (by decide)
                    have b2 : vp_nar .byte v29 = B4 a0 8 := B4_u 8 ev28 ev29 (by decide) (by decide) (by decide)
                    have b3 : vp_nar .byte v41 = B4 a0 0 := B4_u 0 ev40 ev41 (by decide) (by decide) (by decide)
                    have hp4 : PUT4 (I 3) ((u2 (u2 (u2 (u2 (u2 (u2 (u2 (u2 I (3) ((I (0) 15).toNatClampNeg) (vp_nar .byte (v5))) (0) 15 (v8)) (3) ((v8).toNatClampNeg) (vp_nar .byte (v17))) (0) 15 (v20)) (3) ((v20).toNatClampNeg) (vp_nar .byte (v29))) (0) 15 (v32)) (3) ((v32).toNatClampNeg) (vp_nar .byte (v41))) (0) 15 (v44)) 3) (I 0 15).toNatClampNeg a0 := fun j => by
                      rw [← b0, ← b1, ← b2, ← b3, ← perm4 (k0 := (I 0 15).toNatClampNeg) (k1 := (v8).toNatClampNeg) (k2 := (v20).toNatClampNeg) (k3 := (v32).toNatClampNeg) rfl y1 y2 y3]
                      simp [u2_v]
                    exact m_vret hx hb hr hlocks hM hS (Nat.le_of_ble_eq_true rfl) (Nat.le_of_ble_eq_true rfl) ⟨_, _, rfl, hI, hK, ⟨by rw [u2_self]; omega, hp4⟩⟩ dX9_putOnTape_46
                  · exact absurd c47 (by decide)
set_option maxHeartbeats 4000000 in
set_option maxRecDepth 20000 in
theorem V_X9_feed_h (l : Launch) (D : va_G) (A : Nat → Prop) (ad : Nat → Nat) (ns : List Nat) (I : MI) (L : ML) (G : MG) (a0 : Int32) (a1 : Int32) (a2 : Int32) (a3 : Int32) (a4 : Int32) (hG : SGC ns G) (hI : INV I) : Met l yX9_feed (wd yX9_feed cX9_feed 6 (some .int)) ({ frames := 1, cells := 0, slots := 0, locals := 22 }) (va_Pc [.ref (ad (0)), .int a0, .int a1, .int a2, .int a3, .int a4] (PM D A ad ns I L G)) (va_Qi (fun r u => ∃ I2 L2, u = (ad, ns, I2, L2, G) ∧ INV I2 ∧ Kp [(3, 4)] [(0, 15)] I I2 ∧ (FEEDX (I 0 15) (I2 0 15) (I 3) (I2 3) r a0 a1 a2 a3 a4)) (BM D A) A) 0 0 A := by
  refine m_ofW (by decide) (Nat.le_of_ble_eq_true rfl) ?_
  intro p e s m below meth c ls args hC hE hM hA hS hl
  obtain ⟨hx, hb, hml, hown, hts, hr, hlocks, hin⟩ := hC
  have km1 : (-1 : Int32).toInt = -1 := by decide
  have k0 : (0 : Int32).toInt = 0 := by decide
  have k380 : (380 : Int32).toInt = 380 := by decide
  have hK : Kp [(3, 4)] [(0, 15)] I I := Kp.rf
  have hl : lv_has ls 6 [(0, .ref (ad (0))), (1, .int (a0)), (2, .int (a1)), (3, .int (a2)), (4, .int (a3)), (5, .int (a4))] := hl
  refine lv_aload_n hx hb dX9_feed_0 rfl (lv_at hl 0 rfl) ?_
  refine m_geti (0) 15 hx hb hts hown hE oc9 hM (hG.1 0 (by decide)) rfl (by decide) rfl tb_413 dX9_feed_1 ?_
  have g1 := hI.get (0) 15 (lo := 0) (hi := 400) rfl
  refine lv_sipush (v := (380)) hx hb dX9_feed_4 (by decide) ?_
  refine lv_icmp_le (tgt := 12) hx hb dX9_feed_7 (by decide) (fun c2 => ?_) (fun c2 => ?_)
  · have hc2 := c2
    have q2 := q_le hc2
    refine lv_aload_n hx hb dX9_feed_12 rfl (lv_at hl 0 rfl) ?_
    refine lv_iload_n hx hb dX9_feed_13 rfl (lv_at hl 1 rfl) ?_
    refine m_callv (m_runV (0) (As := [.int (a0)]) (rest := []) hx hb hml hown hts hE hM hS hA ce_X9_putOnTape tb_550 (V_X9_putOnTape_h l D A ad ns I L G (a0) hG hI (by first | omega | decide)) rfl rfl ⟨Nat.le_of_ble_eq_true rfl, Nat.le_of_ble_eq_true rfl⟩ (hG.1 0 (by decide)) rfl rfl (by decide) rfl hl.1 rfl (Nat.le_of_ble_eq_true rfl) dX9_feed_14 ⟨Nat.le_of_ble_eq_true rfl, Nat.le_of_ble_eq_true rfl⟩) hS (fun u H locs hw hM hS => ?_)
    obtain ⟨I3, L4, rfl, hI, hkI3, xI3⟩ := hw
    have hM : Mem D A ad ns I3 L4 G H := hM
    have hK := hK.trans hkI3 rfl
    refine lv_aload_n hx hb dX9_feed_17 rfl (lv_at hl 0 rfl) ?_
    refine lv_iload_n hx hb dX9_feed_18 rfl (lv_at hl 2 rfl) ?_
    refine m_callv (m_runV (0) (As := [.int (a1)]) (rest := []) hx hb hml hown hts hE hM hS hA ce_X9_putOnTape tb_550 (V_X9_putOnTape_h l D A ad ns I3 L4 G (a1) hG hI (by first | omega | decide)) rfl rfl ⟨Nat.le_of_ble_eq_true rfl, Nat.le_of_ble_eq_true rfl⟩ (hG.1 0 (by decide)) rfl rfl (by decide) rfl hl.1 rfl (Nat.le_of_ble_eq_true rfl) dX9_feed_19 ⟨Nat.le_of_ble_eq_true rfl, Nat.le_of_ble_eq_true rfl⟩) hS (fun u H locs hw hM hS => ?_)
    obtain ⟨I5, L6, rfl, hI, hkI5, xI5⟩ := hw
    have hM : Mem D A ad ns I5 L6 G H := hM
    have hK := hK.trans hkI5 rfl
    refine lv_aload_n hx hb dX9_feed_22 rfl (lv_at hl 0 rfl) ?_
    refine lv_iload_n hx hb dX9_feed_23 rfl (lv_at hl 3 rfl) ?_
    refine m_callv (m_runV (0) (As := [.int (a2)]) (rest := []) hx hb hml hown hts hE hM hS hA ce_X9_putOnTape tb_550 (V_X9_putOnTape_h l D A ad ns I5 L6 G (a2) hG hI (by first | omega | decide)) rfl rfl ⟨Nat.le_of_ble_eq_true rfl, Nat.le_of_ble_eq_true rfl⟩ (hG.1 0 (by decide)) rfl rfl (by decide) rfl hl.1 rfl (Nat.le_of_ble_eq_true rfl) dX9_feed_24 ⟨Nat.le_of_ble_eq_true rfl, Nat.le_of_ble_eq_true rfl⟩) hS (fun u H locs hw hM hS => ?_)
    obtain ⟨I7, L8, rfl, hI, hkI7, xI7⟩ := hw
    have hM : Mem D A ad ns I7 L8 G H := hM
    have hK := hK.trans hkI7 rfl
    refine lv_aload_n hx hb dX9_feed_27 rfl (lv_at hl 0 rfl) ?_
    refine lv_iload hx hb dX9_feed_28 (lv_at hl 4 rfl) ?_
    refine m_callv (m_runV (0) (As := [.int (a3)]) (rest := []) hx hb hml hown hts hE hM hS hA ce_X9_putOnTape tb_550 (V_X9_putOnTape_h l D A ad ns I7 L8 G (a3) hG hI (by first | omega | decide)) rfl rfl ⟨Nat.le_of_ble_eq_true rfl, Nat.le_of_ble_eq_true rfl⟩ (hG.1 0 (by decide)) rfl rfl (by decide) rfl hl.1 rfl (Nat.le_of_ble_eq_true rfl) dX9_feed_30 ⟨Nat.le_of_ble_eq_true rfl, Nat.le_of_ble_eq_true rfl⟩) hS (fun u H locs hw hM hS => ?_)
    obtain ⟨I9, L10, rfl, hI, hkI9, xI9⟩ := hw
    have hM : Mem D A ad ns I9 L10 G H := hM
    have hK := hK.trans hkI9 rfl
    refine lv_aload_n hx hb dX9_feed_33 rfl (lv_at hl 0 rfl) ?_
    refine lv_iload hx hb dX9_feed_34 (lv_at hl 5 rfl) ?_
    refine m_callv (m_runV (0) (As := [.int (a4)]) (rest := []) hx hb hml hown hts hE hM hS hA ce_X9_putOnTape tb_550 (V_X9_putOnTape_h l D A ad ns I9 L10 G (a4) hG hI (by first | omega | decide)) rfl rfl ⟨Nat.le_of_ble_eq_true rfl, Nat.le_of_ble_eq_true rfl⟩ (hG.1 0 (by decide)) rfl rfl (by decide) rfl hl.1 rfl (Nat.le_of_ble_eq_true rfl) dX9_feed_36 ⟨Nat.le_of_ble_eq_true rfl, Nat.le_of_ble_eq_true rfl⟩) hS (fun u H locs hw hM hS => ?_)
    obtain ⟨I11, L12, rfl, hI, hkI11, xI11⟩ := hw
    have hM : Mem D A ad ns I11 L12 G H := hM
    have hK := hK.trans hkI11 rfl
    refine lv_aload_n hx hb dX9_feed_39 rfl (lv_at hl 0 rfl) ?_
    refine m_geti (0) 15 hx hb hts hown hE oc9 hM (hG.1 0 (by decide)) rfl (by decide) rfl tb_413 dX9_feed_40 ?_
    have g13 := hI.get (0) 15 (lo := 0) (hi := 400) rfl
    have z0 := tn (i := I 0 15) (by omega)
    have w0 := xI3.1
    have w1 := xI5.1
    have p1 := xI5.2
    rw [show (I3 0 15).toNatClampNeg = (I 0 15).toNatClampNeg + 4 from by have z1 := tn (i := I3 0 15) (by omega); omega] at p1
    have w2 := xI7.1
    have p2 := xI7.2
    rw [show (I5 0 15).toNatClampNeg = (I 0 15).toNatClampNeg + 8 from by have z1 := tn (i := I5 0 15) (by omega); omega] at p2
    have w3 := xI9.1
    have p3 := xI9.2
    rw [show (I7 0 15).toNatClampNeg = (I 0 15).toNatClampNeg + 12 from by have z1 := tn (i := I7 0 15) (by omega); omega] at p3
    have w4 := xI11.1
    have p4 := xI11.2
    rw [show (I9 0 15).toNatClampNeg = (I 0 15).toNatClampNeg + 16 from by have z1 := tn (i := I9 0 15) (by omega); omega] at p4
    exact m_iret hx hb hr hlocks hM hS (Nat.le_of_ble_eq_true rfl) (Nat.le_of_ble_eq_true rfl) ⟨_, _, rfl, hI, hK, (Or.inr ⟨by omega, by omega, rfl, _, _, _, _, xI3.2, p1, p2, p3, p4⟩)⟩ dX9_feed_43
  · have hc2 := c2
    have q2 := q_nle hc2
    refine lv_iconst (v := (-1)) hx hb dX9_feed_10 (by decide) ?_
    exact m_iret hx hb hr hlocks hM hS (Nat.le_of_ble_eq_true rfl) (Nat.le_of_ble_eq_true rfl) ⟨_, _, rfl, hI, hK, (Or.inl ⟨by omega, km1, rfl, rfl⟩)⟩ dX9_feed_11
set_option maxHeartbeats 4000000 in
set_option maxRecDepth 20000 in
theorem V_X9_end_h (l : Launch) (D : va_G) (A : Nat → Prop) (ad : Nat → Nat) (ns : List Nat) (I : MI) (L : ML) (G : MG) (a0 : Int32) (hG : SGC ns G) (hI : INV I) : Met l yX9_end (wd yX9_end cX9_end 2 (some .int)) ({ frames := 1, cells := 0, slots := 0, locals := 22 }) (va_Pc [.ref (ad (0)), .int a0] (PM D A ad ns I L G)) (va_Qi (fun r u => ∃ I2 L2, u = (ad, ns, I2, L2, G) ∧ INV I2 ∧ Kp [] [(0, 15)] I I2 ∧ (ENDX (I 0 15) (I2 0 15) r a0)) (BM D A) A) 0 0 A := by
  refine m_ofW (by decide) (Nat.le_of_ble_eq_true rfl) ?_
  intro p e s m below meth c ls args hC hE hM hA hS hl
  obtain ⟨hx, hb, hml, hown, hts, hr, hlocks, hin⟩ := hC
  have km1 : (-1 : Int32).toInt = -1 := by decide
  have k0 : (0 : Int32).toInt = 0 := by decide
  have hK : Kp [] [(0, 15)] I I := Kp.rf
  have hl : lv_has ls 2 [(0, .ref (ad (0))), (1, .int (a0))] := hl
  refine lv_iload_n hx hb dX9_end_0 rfl (lv_at hl 1 rfl) ?_
  refine lv_iconst (v := (0)) hx hb dX9_end_1 (by decide) ?_
  refine lv_aload_n hx hb dX9_end_2 rfl (lv_at hl 0 rfl) ?_
  refine m_geti (0) 15 hx hb hts hown hE oc9 hM (hG.1 0 (by decide)) rfl (by decide) rfl tb_413 dX9_end_3 ?_
  have g1 := hI.get (0) 15 (lo := 0) (hi := 400) rfl
  refine m_calli (m_runS (As := [.int (a0), .int (0), .int (I (0) 15)]) (rest := []) hx hb hml hown hts hE hM hS hA ce_X9_isWithin tb_451 (V_X9_isWithin l D A ad ns I L G (a0) (0) (I (0) 15) hI) rfl rfl ⟨Nat.le_of_ble_eq_true rfl, Nat.le_of_ble_eq_true rfl⟩  rfl hl.1 rfl (Nat.le_of_ble_eq_true rfl) dX9_end_6 ⟨Nat.le_of_ble_eq_true rfl, Nat.le_of_ble_eq_true rfl⟩) hS (fun r2 u H locs hw hM hS => ?_)
  obtain ⟨rfl, xr2⟩ := hw
  have hM : Mem D A ad ns I L G H := hM
  have yr2 := bo01 xr2
  refine lv_if_ne (tgt := 14) hx hb dX9_end_9 (by decide) (fun c3 => ?_) (fun c3 => ?_)
  · have hc3 := c3
    have q3 := xr2.t hc3
    refine lv_aload_n hx hb dX9_end_14 rfl (lv_at hl 0 rfl) ?_
    refine lv_iload_n hx hb dX9_end_15 rfl (lv_at hl 1 rfl) ?_
    refine m_puti (0) 15 hx hb hts hown hE oc9 hM hS (hG.1 0 (by decide)) rfl (by decide) rfl rfl rfl rfl tb_413 dX9_end_16 (fun H locs I4 eI4 hM hS => ?_)
    subst eI4
    have hI := hI.put (n := 0) (k := 15) (v := a0) (lo := 0) (hi := 400) rfl (by first | omega | decide)
    have hK := hK.put (n := 0) (k := 15) (v := a0) (by first | rfl | simp [inR])
    refine lv_iload_n hx hb dX9_end_19 rfl (lv_at hl 1 rfl) ?_
    exact m_iret hx hb hr hlocks hM hS (Nat.le_of_ble_eq_true rfl) (Nat.le_of_ble_eq_true rfl) ⟨_, _, rfl, hI, hK, (Or.inl ⟨by omega, rfl, (show (u2 I (0) 15 (a0)) (0) 15 = a0 from by simp [u2_v])⟩)⟩ dX9_end_20
  · have hc3 := c3
    have q3 := xr2.f hc3
    refine lv_iconst (v := (-1)) hx hb dX9_end_12 (by decide) ?_
    exact m_iret hx hb hr hlocks hM hS (Nat.le_of_ble_eq_true rfl) (Nat.le_of_ble_eq_true rfl) ⟨_, _, rfl, hI, hK, (Or.inr ⟨by omega, km1, rfl⟩)⟩ dX9_end_13
set_option maxHeartbeats 4000000 in
set_option maxRecDepth 20000 in
theorem V_X10_put_h (l : Launch) (D : va_G) (A : Nat → Prop) (ad : Nat → Nat) (ns : List Nat) (I : MI) (L : ML) (G : MG) (a0 : Int32) (hJ : SGM ns G) (hI : INV I) (ht : (I 1000 24).toInt ≤ 396) : Met l yX10_put (wd yX10_put cX10_put 3 none) ({ frames := 0, cells := 0, slots := 0, locals := 0 }) (va_Pc [.ref (ad (1000)), .int a0] (PM D A ad ns I L G)) (va_Qv (fun u => ∃ I2 L2, u = (ad, ns, I2, L2, G) ∧ INV I2 ∧ Kp [(1034, 1035)] [(1000, 24)] I I2 ∧ ((I2 1000 24).toInt = (I 1000 24).toInt + 4 ∧ PUT4 (I 1034) (I2 1034) (I 1000 24).toNatClampNeg a0)) (BM D A) A) 0 0 A := by
  refine m_ofW (by decide) (Nat.le_of_ble_eq_true rfl) ?_
  intro p e s m below meth c ls args hC hE hM hA hS hl
  obtain ⟨hx, hb, hml, hown, hts, hr, hlocks, hin⟩ := hC
  have k0 : (0 : Int32).toInt = 0 := by decide
  have k1 : (1 : Int32).toInt = 1 := by decide
  have k24 : (24 : Int32).toInt = 24 := by decide
  have hK : Kp [(1034, 1035)] [(1000, 24)] I I := Kp.rf
  have hl : lv_has ls 3 [(0, .ref (ad (1000))), (1, .int (a0))] := hl
  refine lv_bipush (v := (24)) hx hb dX10_put_0 (by decide) ?_
  refine lv_istore_n (lv' := [(2, .int (24)), (0, .ref (ad (1000))), (1, .int (a0))]) hx hb dX10_put_2 rfl hl (by decide) rfl (fun ls hl => ?_)
  refine lv_iload_n hx hb dX10_put_3 rfl (lv_at hl 0 rfl) ?_
  refine lv_if_lt (tgt := 36) hx hb dX10_put_4 (by decide) (fun c1 => ?_) (fun c1 => ?_)
  · exact absurd c1 (by decide)
  · have hc1 := c1
    have q1 := q_nlt hc1
    refine lv_aload_n hx hb dX10_put_7 rfl (lv_at hl 1 rfl) ?_
    refine m_getr (1000) 34 (1034) hx hb hts hown hE oc10 hM hJ.1 rfl (by decide) rfl (hJ.2 34 (by decide)).2 (by decide) tb_1211 dX10_put_8 ?_
    refine lv_aload_n hx hb dX10_put_11 rfl (lv_at hl 1 rfl) ?_
    refine m_geti (1000) 24 hx hb hts hown hE oc10 hM hJ.1 rfl (by decide) rfl tb_1201 dX10_put_12 ?_
    have g2 := hI.get (1000) 24 (lo := 0) (hi := 400) rfl
    refine lv_iload_n hx hb dX10_put_15 rfl (lv_at hl 2 rfl) ?_
    refine lv_iload_n hx hb dX10_put_16 rfl (lv_at hl 0 rfl) ?_
    refine lv_ishr hx hb dX10_put_17 ?_
    refine lv_topi (fun v3 ev3 => ?_)
    refine lv_i2b hx hb dX10_put_18 rfl ?_
    refine lv_topi (fun v4 ev4 => ?_)
    refine m_bast (1034) hx hb hE hM hS (hJ.2 34 (by decide)).1 rfl (vp_in_iff.mpr (by omega)) dX10_put_19 (fun H locs I5 eI5 hM hS => ?_)
    subst eI5
    have hI := hI.putF (n := 1034) (k := ((I (1000) 24).toNatClampNeg)) (v := vp_nar .byte (v4)) rfl
    have hK := hK.put (n := 1034) (k := ((I (1000) 24).toNatClampNeg)) (v := vp_nar .byte (v4)) (by first | rfl | simp [inR])
    refine lv_aload_n hx hb dX10_put_20 rfl (lv_at hl 1 rfl) ?_
    refine lv_dup hx hb dX10_put_21 rfl ?_
    refine m_geti (1000) 24 hx hb hts hown hE oc10 hM hJ.1 rfl (by decide) rfl tb_1201 dX10_put_22 ?_
    have z6 : (u2 I (1034) ((I (1000) 24).toNatClampNeg) (vp_nar .byte (v4))) (1000) 24 = I (1000) 24 := (show (u2 I (1034) ((I (1000) 24).toNatClampNeg) (vp_nar .byte (v4))) (1000) 24 = I (1000) 24 from by simp [u2_v])
    rw [z6]
    refine lv_iconst (v := (1)) hx hb dX10_put_25 (by decide) ?_
    refine lv_iadd hx hb dX10_put_26 ?_
    refine lv_topi (fun v7 ev7 => ?_)
    have tv7 := a_add ev7 (by omega) (by omega)
    refine m_puti (1000) 24 hx hb hts hown hE oc10 hM hS hJ.1 rfl (by decide) rfl rfl rfl rfl tb_1201 dX10_put_27 (fun H locs I8 eI8 hM hS => ?_)
    subst eI8
    have hI := hI.put (n := 1000) (k := 24) (v := v7) (lo := 0) (hi := 400) rfl (by first | omega | decide)
    have hK := hK.put (n := 1000) (k := 24) (v := v7) (by first | rfl | simp [inR])
    refine lv_iinc (v := 16) (lv' := [(2, .int (16)), (0, .ref (ad (1000))), (1, .int (a0))]) hx hb dX10_put_30 hl (k := 0) rfl (by decide) (by decide) rfl (fun ls hl => ?_)
    refine lv_goto (tgt := 3) hx hb dX10_put_33 (by decide) ?_
    refine lv_iload_n hx hb dX10_put_3 rfl (lv_at hl 0 rfl) ?_
    refine lv_if_lt (tgt := 36) hx hb dX10_put_4 (by decide) (fun c10 => ?_) (fun c10 => ?_)
    · exact absurd c10 (by decide)
    · have hc10 := c10
      have q10 := q_nlt hc10
      refine lv_aload_n hx hb dX10_put_7 rfl (lv_at hl 1 rfl) ?_
      refine m_getr (1000) 34 (1034) hx hb hts hown hE oc10 hM hJ.1 rfl (by decide) rfl (hJ.2 34 (by decide)).2 (by decide) tb_1211 dX10_put_8 ?_
      refine lv_aload_n hx hb dX10_put_11 rfl (lv_at hl 1 rfl) ?_
      refine m_geti (1000) 24 hx hb hts hown hE oc10 hM hJ.1 rfl (by decide) rfl tb_1201 dX10_put_12 ?_
      have g11 := hI.get (1000) 24 (lo := 0) (hi := 400) rfl
      have z12 : (u2 (u2 I (1034) ((I (1000) 24).toNatClampNeg) (vp_nar .byte (v4))) (1000) 24 (v7)) (1000) 24 = v7 := (show (u2 (u2 I (1034) ((I (1000) 24).toNatClampNeg) (vp_nar .byte (v4))) (1000) 24 (v7)) (1000) 24 = v7 from by simp [u2_v])
      rw [z12] at g11 ⊢
      refine lv_iload_n hx hb dX10_put_15 rfl (lv_at hl 2 rfl) ?_
      refine lv_iload_n hx hb dX10_put_16 rfl (lv_at hl 0 rfl) ?_
      refine lv_ishr hx hb dX10_put_17 ?_
      refine lv_topi (fun v13 ev13 => ?_)
      refine lv_i2b hx hb dX10_put_18 rfl ?_
      refine lv_topi (fun v14 ev14 => ?_)
      refine m_bast (1034) hx hb hE hM hS (hJ.2 34 (by decide)).1 rfl (vp_in_iff.mpr (by omega)) dX10_put_19 (fun H locs I15 eI15 hM hS => ?_)
      subst eI15
      have hI := hI.putF (n := 1034) (k := ((v7).toNatClampNeg)) (v := vp_nar .byte (v14)) rfl
      have hK := hK.put (n := 1034) (k := ((v7).toNatClampNeg)) (v := vp_nar .byte (v14)) (by first | rfl | simp [inR])
      refine lv_aload_n hx hb dX10_put_20 rfl (lv_at hl 1 rfl) ?_
      refine lv_dup hx hb dX10_put_21 rfl ?_
      refine m_geti (1000) 24 hx hb hts hown hE oc10 hM hJ.1 rfl (by decide) rfl tb_1201 dX10_put_22 ?_
      have z16 : (u2 (u2 (u2 I (1034) ((I (1000) 24).toNatClampNeg) (vp_nar .byte (v4))) (1000) 24 (v7)) (1034) ((v7).toNatClampNeg) (vp_nar .byte (v14))) (1000) 24 = v7 := (show (u2 (u2 (u2 I (1034) ((I (1000) 24).toNatClampNeg) (vp_nar .byte (v4))) (1000) 24 (v7)) (1034) ((v7).toNatClampNeg) (vp_nar .byte (v14))) (1000) 24 = v7 from by simp [u2_v])
      rw [z16]
      refine lv_iconst (v := (1)) hx hb dX10_put_25 (by decide) ?_
      refine lv_iadd hx hb dX10_put_26 ?_
      refine lv_topi (fun v17 ev17 => ?_)
      have tv17 := a_add ev17 (by omega) (by omega)
      refine m_puti (1000) 24 hx hb hts hown hE oc10 hM hS hJ.1 rfl (by decide) rfl rfl rfl rfl tb_1201 dX10_put_27 (fun H locs I18 eI18 hM hS => ?_)
      subst eI18
      have hI := hI.put (n := 1000) (k := 24) (v := v17) (lo := 0) (hi := 400) rfl (by first | omega | decide)
      have hK := hK.put (n := 1000) (k := 24) (v := v17) (by first | rfl | simp [inR])
      refine lv_iinc (v := 8) (lv' := [(2, .int (8)), (0, .ref (ad (1000))), (1, .int (a0))]) hx hb dX10_put_30 hl (k := 0) rfl (by decide) (by decide) rfl (fun ls hl => ?_)
      refine lv_goto (tgt := 3) hx hb dX10_put_33 (by decide) ?_
      refine lv_iload_n hx hb dX10_put_3 rfl (lv_at hl 0 rfl) ?_
      refine lv_if_lt (tgt := 36) hx hb dX10_put_4 (by decide) (fun c20 => ?_) (fun c20 => ?_)
      · exact absurd c20 (by decide)
      · have hc20 := c20
        have q20 := q_nlt hc20
        refine lv_aload_n hx hb dX10_put_7 rfl (lv_at hl 1 rfl) ?_
        refine m_getr (1000) 34 (1034) hx hb hts hown hE oc10 hM hJ.1 rfl (by decide) rfl (hJ.2 34 (by decide)).2 (by decide) tb_1211 dX10_put_8 ?_
        refine lv_aload_n hx hb dX10_put_11 rfl (lv_at hl 1 rfl) ?_
        refine m_geti (1000) 24 hx hb hts hown hE oc10 hM hJ.1 rfl (by decide) rfl tb_1201 dX10_put_12 ?_
        have g21 := hI.get (1000) 24 (lo := 0) (hi := 400) rfl
        have z22 : (u2 (u2 (u2 (u2 I (1034) ((I (1000) 24).toNatClampNeg) (vp_nar .byte (v4))) (1000) 24 (v7)) (1034) ((v7).toNatClampNeg) (vp_nar .byte (v14))) (1000) 24 (v17)) (1000) 24 = v17 := (show (u2 (u2 (u2 (u2 I (1034) ((I (1000) 24).toNatClampNeg) (vp_nar .byte (v4))) (1000) 24 (v7)) (1034) ((v7).toNatClampNeg) (vp_nar .byte (v14))) (1000) 24 (v17)) (1000) 24 = v17 from by simp [u2_v])
        rw [z22] at g21 ⊢
        refine lv_iload_n hx hb dX10_put_15 rfl (lv_at hl 2 rfl) ?_
        refine lv_iload_n hx hb dX10_put_16 rfl (lv_at hl 0 rfl) ?_
        refine lv_ishr hx hb dX10_put_17 ?_
        refine lv_topi (fun v23 ev23 => ?_)
        refine lv_i2b hx hb dX10_put_18 rfl ?_
        refine lv_topi (fun v24 ev24 => ?_)
        refine m_bast (1034) hx hb hE hM hS (hJ.2 34 (by decide)).1 rfl (vp_in_iff.mpr (by omega)) dX10_put_19 (fun H locs I25 eI25 hM hS => ?_)
        subst eI25
        have hI := hI.putF (n := 1034) (k := ((v17).toNatClampNeg)) (v := vp_nar .byte (v24)) rfl
        have hK := hK.put (n := 1034) (k := ((v17).toNatClampNeg)) (v := vp_nar .byte (v24)) (by first | rfl | simp [inR])
        refine lv_aload_n hx hb dX10_put_20 rfl (lv_at hl 1 rfl) ?_
        refine lv_dup hx hb dX10_put_21 rfl ?_
        refine m_geti (1000) 24 hx hb hts hown hE oc10 hM hJ.1 rfl (by decide) rfl tb_1201 dX10_put_22 ?_
        have z26 : (u2 (u2 (u2 (u2 (u2 I (1034) ((I (1000) 24).toNatClampNeg) (vp_nar .byte (v4))) (1000) 24 (v7)) (1034) ((v7).toNatClampNeg) (vp_nar .byte (v14))) (1000) 24 (v17)) (1034) ((v17).toNatClampNeg) (vp_nar .byte (v24))) (1000) 24 = v17 := (show (u2 (u2 (u2 (u2 (u2 I (1034) ((I (1000) 24).toNatClampNeg) (vp_nar .byte (v4))) (1000) 24 (v7)) (1034) ((v7).toNatClampNeg) (vp_nar .byte (v14))) (1000) 24 (v17)) (1034) ((v17).toNatClampNeg) (vp_nar .byte (v24))) (1000) 24 = v17 from by simp [u2_v])
        rw [z26]
        refine lv_iconst (v := (1)) hx hb dX10_put_25 (by decide) ?_
        refine lv_iadd hx hb dX10_put_26 ?_
        refine lv_topi (fun v27 ev27 => ?_)
        have tv27 := a_add ev27 (by omega) (by omega)
        refine m_puti (1000) 24 hx hb hts hown hE oc10 hM hS hJ.1 rfl (by decide) rfl rfl rfl rfl tb_1201 dX10_put_27 (fun H locs I28 eI28 hM hS => ?_)
        subst eI28
        have hI := hI.put (n := 1000) (k := 24) (v := v27) (lo := 0) (hi := 400) rfl (by first | omega | decide)
        have hK := hK.put (n := 1000) (k := 24) (v := v27) (by first | rfl | simp [inR])
        refine lv_iinc (v := 0) (lv' := [(2, .int (0)), (0, .ref (ad (1000))), (1, .int (a0))]) hx hb dX10_put_30 hl (k := 0) rfl (by decide) (by decide) rfl (fun ls hl => ?_)
        refine lv_goto (tgt := 3) hx hb dX10_put_33 (by decide) ?_
        refine lv_iload_n hx hb dX10_put_3 rfl (lv_at hl 0 rfl) ?_
        refine lv_if_lt (tgt := 36) hx hb dX10_put_4 (by decide) (fun c30 => ?_) (fun c30 => ?_)
        · exact absurd c30 (by decide)
        · have hc30 := c30
          have q30 := q_nlt hc30
          refine lv_aload_n hx hb dX10_put_7 rfl (lv_at hl 1 rfl) ?_
          refine m_getr (1000) 34 (1034) hx hb hts hown hE oc10 hM hJ.1 rfl (by decide) rfl (hJ.2 34 (by decide)).2 (by decide) tb_1211 dX10_put_8 ?_
          refine lv_aload_n hx hb dX10_put_11 rfl (lv_at hl 1 rfl) ?_
          refine m_geti (1000) 24 hx hb hts hown hE oc10 hM hJ.1 rfl (by decide) rfl tb_1201 dX10_put_12 ?_
          have g31 := hI.get (1000) 24 (lo := 0) (hi := 400) rfl
          have z32 : (u2 (u2 (u2 (u2 (u2 (u2 I (1034) ((I (1000) 24).toNatClampNeg) (vp_nar .byte (v4))) (1000) 24 (v7)) (1034) ((v7).toNatClampNeg) (vp_nar .byte (v14))) (1000) 24 (v17)) (1034) ((v17).toNatClampNeg) (vp_nar .byte (v24))) (1000) 24 (v27)) (1000) 24 = v27 := (show (u2 (u2 (u2 (u2 (u2 (u2 I (1034) ((I (1000) 24).toNatClampNeg) (vp_nar .byte (v4))) (1000) 24 (v7)) (1034) ((v7).toNatClampNeg) (vp_nar .byte (v14))) (1000) 24 (v17)) (1034) ((v17).toNatClampNeg) (vp_nar .byte (v24))) (1000) 24 (v27)) (1000) 24 = v27 from by simp [u2_v])
          rw [z32] at g31 ⊢
          refine lv_iload_n hx hb dX10_put_15 rfl (lv_at hl 2 rfl) ?_
          refine lv_iload_n hx hb dX10_put_16 rfl (lv_at hl 0 rfl) ?_
          refine lv_ishr hx hb dX10_put_17 ?_
          refine lv_topi (fun v33 ev33 => ?_)
          refine lv_i2b hx hb dX10_put_18 rfl ?_
          refine lv_topi (fun v34 ev34 => ?_)
          refine m_bast (1034) hx hb hE hM hS (hJ.2 34 (by decide)).1 rfl (vp_in_iff.mpr (by omega)) dX10_put_19 (fun H locs I35 eI35 hM hS => ?_)
          subst eI35
          have hI := hI.putF (n := 1034) (k := ((v27).toNatClampNeg)) (v := vp_nar .byte (v34)) rfl
          have hK := hK.put (n := 1034) (k := ((v27).toNatClampNeg)) (v := vp_nar .byte (v34)) (by first | rfl | simp [inR])
          refine lv_aload_n hx hb dX10_put_20 rfl (lv_at hl 1 rfl) ?_
          refine lv_dup hx hb dX10_put_21 rfl ?_
          refine m_geti (1000) 24 hx hb hts hown hE oc10 hM hJ.1 rfl (by decide) rfl tb_1201 dX10_put_22 ?_
          have z36 : (u2 (u2 (u2 (u2 (u2 (u2 (u2 I (1034) ((I (1000) 24).toNatClampNeg) (vp_nar .byte (v4))) (1000) 24 (v7)) (1034) ((v7).toNatClampNeg) (vp_nar .byte (v14))) (1000) 24 (v17)) (1034) ((v17).toNatClampNeg) (vp_nar .byte (v24))) (1000) 24 (v27)) (1034) ((v27).toNatClampNeg) (vp_nar .byte (v34))) (1000) 24 = v27 := (show (u2 (u2 (u2 (u2 (u2 (u2 (u2 I (1034) ((I (1000) 24).toNatClampNeg) (vp_nar .byte (v4))) (1000) 24 (v7)) (1034) ((v7).toNatClampNeg) (vp_nar .byte (v14))) (1000) 24 (v17)) (1034) ((v17).toNatClampNeg) (vp_nar .byte (v24))) (1000) 24 (v27)) (1034) ((v27).toNatClampNeg) (vp_nar .byte (v34))) (1000) 24 = v27 from by simp [u2_v])
          rw [z36]
          refine lv_iconst (v := (1)) hx hb dX10_put_25 (by decide) ?_
          refine lv_iadd hx hb dX10_put_26 ?_
          refine lv_topi (fun v37 ev37 => ?_)
          have tv37 := a_add ev37 (by omega) (by omega)
          refine m_puti (1000) 24 hx hb hts hown hE oc10 hM hS hJ.1 rfl (by decide) rfl rfl rfl rfl tb_1201 dX10_put_27 (fun H locs I38 eI38 hM hS => ?_)
          subst eI38
          have hI := hI.put (n := 1000) (k := 24) (v := v37) (lo := 0) (hi := 400) rfl (by first | omega | decide)
          have hK := hK.put (n := 1000) (k := 24) (v := v37) (by first | rfl | simp [inR])
          refine lv_iinc (v := (-8 : Int32)) (lv' := [(2, .int ((-8 : Int32))), (0, .ref (ad (1000))), (1, .int (a0))]) hx hb dX10_put_30 hl (k := 0) rfl (by decide) (by decide) rfl (fun ls hl => ?_)
          refine lv_goto (tgt := 3) hx hb dX10_put_33 (by decide) ?_
          refine lv_iload_n hx hb dX10_put_3 rfl (lv_at hl 0 rfl) ?_
          refine lv_if_lt (tgt := 36) hx hb dX10_put_4 (by decide) (fun c40 => ?_) (fun c40 => ?_)
          · have hc40 := c40
            have q40 := q_lt hc40
            have z0 := tn (i := I 1000 24) (by omega)
            have y1 : (v7).toNatClampNeg = (I 1000 24).toNatClampNeg + 1 := by have z1 := tn (i := v7) (by omega); omega
            have y2 : (v17).toNatClampNeg = (I 1000 24).toNatClampNeg + 2 := by have z1 := tn (i := v17) (by omega); omega
            have y3 : (v27).toNatClampNeg = (I 1000 24).toNatClampNeg + 3 := by have z1 := tn (i := v27) (by omega); omega
            have b0 : vp_nar .byte v4 = B4 a0 24 := B4_s ev3 ev4
            have b1 : vp_nar .byte v14 = B4 a0 16 := B4_s ev13 ev14
            have b2 : vp_nar .byte v24 = B4 a0 8 := B4_s ev23 ev24
            have b3 : vp_nar .byte v34 = B4 a0 0 := B4_s ev33 ev34
            have hp4 : PUT4 (I 1034) ((u2 (u2 (u2 (u2 (u2 (u2 (u2 (u2 I (1034) ((I (1000) 24).toNatClampNeg) (vp_nar .byte (v4))) (1000) 24 (v7)) (1034) ((v7).toNatClampNeg) (vp_nar .byte (v14))) (1000) 24 (v17)) (1034) ((v17).toNatClampNeg) (vp_nar .byte (v24))) (1000) 24 (v27)) (1034) ((v27).toNatClampNeg) (vp_nar .byte (v34))) (1000) 24 (v37)) 1034) (I 1000 24).toNatClampNeg a0 := fun j => by
              rw [← b0, ← b1, ← b2, ← b3, ← perm4 (k0 := (I 1000 24).toNatClampNeg) (k1 := (v7).toNatClampNeg) (k2 := (v17).toNatClampNeg) (k3 := (v27).toNatClampNeg) rfl y1 y2 y3]
              simp [u2_v]
            exact m_vret hx hb hr hlocks hM hS (Nat.le_of_ble_eq_true rfl) (Nat.le_of_ble_eq_true rfl) ⟨_, _, rfl, hI, hK, ⟨by rw [u2_self]; omega, hp4⟩⟩ dX10_put_36
          · exact absurd c40 (by decide)
set_option maxHeartbeats 4000000 in
set_option maxRecDepth 20000 in
theorem V_X10_feed_h (l : Launch) (D : va_G) (A : Nat → Prop) (ad : Nat → Nat) (ns : List Nat) (I : MI) (L : ML) (G : MG) (a0 : Int32) (a1 : Int32) (a2 : Int32) (a3 : Int32) (a4 : Int32) (hJ : SGM ns G) (hI : INV I) : Met l yX10_feed (wd yX10_feed cX10_feed 6 (some .int)) ({ frames := 1, cells := 0, slots := 0, locals := 22 }) (va_Pc [.ref (ad (1000)), .int a0, .int a1, .int a2, .int a3, .int a4] (PM D A ad ns I L G)) (va_Qi (fun r u => ∃ I2 L2, u = (ad, ns, I2, L2, G) ∧ INV I2 ∧ Kp [(1034, 1035)] [(1000, 24)] I I2 ∧ (FEEDX (I 1000 24) (I2 1000 24) (I 1034) (I2 1034) r a0 a1 a2 a3 a4)) (BM D A) A) 0 0 A := by
  refine m_ofW (by decide) (Nat.le_of_ble_eq_true rfl) ?_
  intro p e s m below meth c ls args hC hE hM hA hS hl
  obtain ⟨hx, hb, hml, hown, hts, hr, hlocks, hin⟩ := hC
  have km1 : (-1 : Int32).toInt = -1 := by decide
  have k0 : (0 : Int32).toInt = 0 := by decide
  have k20 : (20 : Int32).toInt = 20 := by decide
  have k400 : (400 : Int32).toInt = 400 := by decide
  have hK : Kp [(1034, 1035)] [(1000, 24)] I I := Kp.rf
  have hl : lv_has ls 6 [(0, .ref (ad (1000))), (1, .int (a0)), (2, .int (a1)), (3, .int (a2)), (4, .int (a3)), (5, .int (a4))] := hl
  refine lv_aload_n hx hb dX10_feed_0 rfl (lv_at hl 0 rfl) ?_
  refine m_geti (1000) 24 hx hb hts hown hE oc10 hM hJ.1 rfl (by decide) rfl tb_1201 dX10_feed_1 ?_
  have g1 := hI.get (1000) 24 (lo := 0) (hi := 400) rfl
  refine lv_bipush (v := (20)) hx hb dX10_feed_4 (by decide) ?_
  refine lv_iadd hx hb dX10_feed_6 ?_
  refine lv_topi (fun v2 ev2 => ?_)
  have tv2 := a_add ev2 (by omega) (by omega)
  refine lv_sipush (v := (400)) hx hb dX10_feed_7 (by decide) ?_
  refine lv_icmp_le (tgt := 15) hx hb dX10_feed_10 (by decide) (fun c3 => ?_) (fun c3 => ?_)
  · have hc3 := c3
    have q3 := q_le hc3
    refine lv_aload_n hx hb dX10_feed_15 rfl (lv_at hl 0 rfl) ?_
    refine lv_iload_n hx hb dX10_feed_16 rfl (lv_at hl 1 rfl) ?_
    refine m_callv (m_runV (1000) (As := [.int (a0)]) (rest := []) hx hb hml hown hts hE hM hS hA ce_X10_put tb_1490 (V_X10_put_h l D A ad ns I L G (a0) hJ hI (by first | omega | decide)) rfl rfl ⟨Nat.le_of_ble_eq_true rfl, Nat.le_of_ble_eq_true rfl⟩ hJ.1 rfl rfl (by decide) rfl hl.1 rfl (Nat.le_of_ble_eq_true rfl) dX10_feed_17 ⟨Nat.le_of_ble_eq_true rfl, Nat.le_of_ble_eq_true rfl⟩) hS (fun u H locs hw hM hS => ?_)
    obtain ⟨I4, L5, rfl, hI, hkI4, xI4⟩ := hw
    have hM : Mem D A ad ns I4 L5 G H := hM
    have hK := hK.trans hkI4 rfl
    refine lv_aload_n hx hb dX10_feed_20 rfl (lv_at hl 0 rfl) ?_
    refine lv_iload_n hx hb dX10_feed_21 rfl (lv_at hl 2 rfl) ?_
    refine m_callv (m_runV (1000) (As := [.int (a1)]) (rest := []) hx hb hml hown hts hE hM hS hA ce_X10_put tb_1490 (V_X10_put_h l D A ad ns I4 L5 G (a1) hJ hI (by first | omega | decide)) rfl rfl ⟨Nat.le_of_ble_eq_true rfl, Nat.le_of_ble_eq_true rfl⟩ hJ.1 rfl rfl (by decide) rfl hl.1 rfl (Nat.le_of_ble_eq_true rfl) dX10_feed_22 ⟨Nat.le_of_ble_eq_true rfl, Nat.le_of_ble_eq_true rfl⟩) hS (fun u H locs hw hM hS => ?_)
    obtain ⟨I6, L7, rfl, hI, hkI6, xI6⟩ := hw
    have hM : Mem D A ad ns I6 L7 G H := hM
    have hK := hK.trans hkI6 rfl
    refine lv_aload_n hx hb dX10_feed_25 rfl (lv_at hl 0 rfl) ?_
    refine lv_iload_n hx hb dX10_feed_26 rfl (lv_at hl 3 rfl) ?_
    refine m_callv (m_runV (1000) (As := [.int (a2)]) (rest := []) hx hb hml hown hts hE hM hS hA ce_X10_put tb_1490 (V_X10_put_h l D A ad ns I6 L7 G (a2) hJ hI (by first | omega | decide)) rfl rfl ⟨Nat.le_of_ble_eq_true rfl, Nat.le_of_ble_eq_true rfl⟩ hJ.1 rfl rfl (by decide) rfl hl.1 rfl (Nat.le_of_ble_eq_true rfl) dX10_feed_27 ⟨Nat.le_of_ble_eq_true rfl, Nat.le_of_ble_eq_true rfl⟩) hS (fun u H locs hw hM hS => ?_)
    obtain ⟨I8, L9, rfl, hI, hkI8, xI8⟩ := hw
    have hM : Mem D A ad ns I8 L9 G H := hM
    have hK := hK.trans hkI8 rfl
    refine lv_aload_n hx hb dX10_feed_30 rfl (lv_at hl 0 rfl) ?_
    refine lv_iload hx hb dX10_feed_31 (lv_at hl 4 rfl) ?_
    refine m_callv (m_runV (1000) (As := [.int (a3)]) (rest := []) hx hb hml hown hts hE hM hS hA ce_X10_put tb_1490 (V_X10_put_h l D A ad ns I8 L9 G (a3) hJ hI (by first | omega | decide)) rfl rfl ⟨Nat.le_of_ble_eq_true rfl, Nat.le_of_ble_eq_true rfl⟩ hJ.1 rfl rfl (by decide) rfl hl.1 rfl (Nat.le_of_ble_eq_true rfl) dX10_feed_33 ⟨Nat.le_of_ble_eq_true rfl, Nat.le_of_ble_eq_true rfl⟩) hS (fun u H locs hw hM hS => ?_)
    obtain ⟨I10, L11, rfl, hI, hkI10, xI10⟩ := hw
    have hM : Mem D A ad ns I10 L11 G H := hM
    have hK := hK.trans hkI10 rfl
    refine lv_aload_n hx hb dX10_feed_36 rfl (lv_at hl 0 rfl) ?_
    refine lv_iload hx hb dX10_feed_37 (lv_at hl 5 rfl) ?_
    refine m_callv (m_runV (1000) (As := [.int (a4)]) (rest := []) hx hb hml hown hts hE hM hS hA ce_X10_put tb_1490 (V_X10_put_h l D A ad ns I10 L11 G (a4) hJ hI (by first | omega | decide)) rfl rfl ⟨Nat.le_of_ble_eq_true rfl, Nat.le_of_ble_eq_true rfl⟩ hJ.1 rfl rfl (by decide) rfl hl.1 rfl (Nat.le_of_ble_eq_true rfl) dX10_feed_39 ⟨Nat.le_of_ble_eq_true rfl, Nat.le_of_ble_eq_true rfl⟩) hS (fun u H locs hw hM hS => ?_)
    obtain ⟨I12, L13, rfl, hI, hkI12, xI12⟩ := hw
    have hM : Mem D A ad ns I12 L13 G H := hM
    have hK := hK.trans hkI12 rfl
    refine lv_aload_n hx hb dX10_feed_42 rfl (lv_at hl 0 rfl) ?_
    refine m_geti (1000) 24 hx hb hts hown hE oc10 hM hJ.1 rfl (by decide) rfl tb_1201 dX10_feed_43 ?_
    have g14 := hI.get (1000) 24 (lo := 0) (hi := 400) rfl
    have z0 := tn (i := I 1000 24) (by omega)
    have w0 := xI4.1
    have w1 := xI6.1
    have p1 := xI6.2
    rw [show (I4 1000 24).toNatClampNeg = (I 1000 24).toNatClampNeg + 4 from by have z1 := tn (i := I4 1000 24) (by omega); omega] at p1
    have w2 := xI8.1
    have p2 := xI8.2
    rw [show (I6 1000 24).toNatClampNeg = (I 1000 24).toNatClampNeg + 8 from by have z1 := tn (i := I6 1000 24) (by omega); omega] at p2
    have w3 := xI10.1
    have p3 := xI10.2
    rw [show (I8 1000 24).toNatClampNeg = (I 1000 24).toNatClampNeg + 12 from by have z1 := tn (i := I8 1000 24) (by omega); omega] at p3
    have w4 := xI12.1
    have p4 := xI12.2
    rw [show (I10 1000 24).toNatClampNeg = (I 1000 24).toNatClampNeg + 16 from by have z1 := tn (i := I10 1000 24) (by omega); omega] at p4
    exact m_iret hx hb hr hlocks hM hS (Nat.le_of_ble_eq_true rfl) (Nat.le_of_ble_eq_true rfl) ⟨_, _, rfl, hI, hK, (Or.inr ⟨by omega, by omega, rfl, _, _, _, _, xI4.2, p1, p2, p3, p4⟩)⟩ dX10_feed_46
  · have hc3 := c3
    have q3 := q_nle hc3
    refine lv_iconst (v := (-1)) hx hb dX10_feed_13 (by decide) ?_
    exact m_iret hx hb hr hlocks hM hS (Nat.le_of_ble_eq_true rfl) (Nat.le_of_ble_eq_true rfl) ⟨_, _, rfl, hI, hK, (Or.inl ⟨by omega, km1, rfl, rfl⟩)⟩ dX10_feed_14
set_option maxHeartbeats 4000000 in
set_option maxRecDepth 20000 in
theorem V_X10_end_h (l : Launch) (D : va_G) (A : Nat → Prop) (ad : Nat → Nat) (ns : List Nat) (I : MI) (L : ML) (G : MG) (a0 : Int32) (hJ : SGM ns G) (hI : INV I) : Met l yX10_end (wd yX10_end cX10_end 2 (some .int)) ({ frames := 0, cells := 0, slots := 0, locals := 0 }) (va_Pc [.ref (ad (1000)), .int a0] (PM D A ad ns I L G)) (va_Qi (fun r u => ∃ I2 L2, u = (ad, ns, I2, L2, G) ∧ INV I2 ∧ Kp [] [(1000, 24)] I I2 ∧ (ENDX (I 1000 24) (I2 1000 24) r a0)) (BM D A) A) 0 0 A := by
  refine m_ofW (by decide) (Nat.le_of_ble_eq_true rfl) ?_
  intro p e s m below meth c ls args hC hE hM hA hS hl
  obtain ⟨hx, hb, hml, hown, hts, hr, hlocks, hin⟩ := hC
  have km1 : (-1 : Int32).toInt = -1 := by decide
  have k0 : (0 : Int32).toInt = 0 := by decide
  have hK : Kp [] [(1000, 24)] I I := Kp.rf
  have hl : lv_has ls 2 [(0, .ref (ad (1000))), (1, .int (a0))] := hl
  refine lv_iload_n hx hb dX10_end_0 rfl (lv_at hl 1 rfl) ?_
  refine lv_if_lt (tgt := 12) hx hb dX10_end_1 (by decide) (fun c1 => ?_) (fun c1 => ?_)
  · have hc1 := c1
    have q1 := q_lt hc1
    refine lv_iconst (v := (-1)) hx hb dX10_end_12 (by decide) ?_
    exact m_iret hx hb hr hlocks hM hS (Nat.le_of_ble_eq_true rfl) (Nat.le_of_ble_eq_true rfl) ⟨_, _, rfl, hI, hK, (Or.inr ⟨by omega, km1, rfl⟩)⟩ dX10_end_13
  · have hc1 := c1
    have q1 := q_nlt hc1
    refine lv_iload_n hx hb dX10_end_4 rfl (lv_at hl 1 rfl) ?_
    refine lv_aload_n hx hb dX10_end_5 rfl (lv_at hl 0 rfl) ?_
    refine m_geti (1000) 24 hx hb hts hown hE oc10 hM hJ.1 rfl (by decide) rfl tb_1201 dX10_end_6 ?_
    have g2 := hI.get (1000) 24 (lo := 0) (hi := 400) rfl
    refine lv_icmp_le (tgt := 14) hx hb dX10_end_9 (by decide) (fun c3 => ?_) (fun c3 => ?_)
    · have hc3 := c3
      have q3 := q_le hc3
      refine lv_aload_n hx hb dX10_end_14 rfl (lv_at hl 0 rfl) ?_
      refine lv_iload_n hx hb dX10_end_15 rfl (lv_at hl 1 rfl) ?_
      refine m_puti (1000) 24 hx hb hts hown hE oc10 hM hS hJ.1 rfl (by decide) rfl rfl rfl rfl tb_1201 dX10_end_16 (fun H locs I4 eI4 hM hS => ?_)
      subst eI4
      have hI := hI.put (n := 1000) (k := 24) (v := a0) (lo := 0) (hi := 400) rfl (by first | omega | decide)
      have hK := hK.put (n := 1000) (k := 24) (v := a0) (by first | rfl | simp [inR])
      refine lv_iload_n hx hb dX10_end_19 rfl (lv_at hl 1 rfl) ?_
      exact m_iret hx hb hr hlocks hM hS (Nat.le_of_ble_eq_true rfl) (Nat.le_of_ble_eq_true rfl) ⟨_, _, rfl, hI, hK, (Or.inl ⟨by omega, rfl, (show (u2 I (1000) 24 (a0)) (1000) 24 = a0 from by simp [u2_v])⟩)⟩ dX10_end_20
    · have hc3 := c3
      have q3 := q_nle hc3
      refine lv_iconst (v := (-1)) hx hb dX10_end_12 (by decide) ?_
      exact m_iret hx hb hr hlocks hM hS (Nat.le_of_ble_eq_true rfl) (Nat.le_of_ble_eq_true rfl) ⟨_, _, rfl, hI, hK, (Or.inr ⟨by omega, km1, rfl⟩)⟩ dX10_end_13
