set_option maxHeartbeats 4000000 in
set_option maxRecDepth 20000 in
theorem V_X10_searches_t_z (l : Launch) (D : va_G) (A : Nat → Prop) (ad : Nat → Nat) (ns : List Nat) (I : MI) (L : ML) (G : MG) (a0 : Int32) (a1 : Int32) (a2 : Int32) (hJ : SGM ns G) (hI : INV I) (hset : 0 < a2.toInt ∧ a2.toInt < 16777216 ∧ 1 ≤ (cb (un a2) 32 : Int) ∧ (cb (un a2) 32 : Int) ≤ 4) (ha0 : 0 ≤ a0.toInt ∧ a0.toInt ≤ 23) (ha1 : -1 ≤ a1.toInt ∧ a1.toInt ≤ 7) : Met l yX10_searches (wd yX10_searches cX10_searches 10 (some .int)) ({ frames := 5, cells := 0, slots := 0, locals := 128 }) (va_Pc [.ref (ad (1000)), .int a0, .int a1, .int a2] (PM D A ad ns I L G)) (va_Qi (fun r u => ∃ I2 L2, u = (ad, ns, I2, L2, G) ∧ INV I2 ∧ Kp [(1009, 1010), (1045, 1051), (1058, 1059), (1061, 1063), (1067, 1068), (1071, 1073)] [(1000, 51), (1000, 52), (1000, 53), (1000, 54), (1000, 55), (1000, 56), (1000, 59), (1000, 63)] I I2 ∧ ((KM I I2) ∧ Z59 I I2)) (BM D A) A) 0 0 A := by
  refine m_ofW (by decide) (Nat.le_of_ble_eq_true rfl) ?_
  intro p e s m below meth c ls args hC hE hM hA hS hl
  obtain ⟨hx, hb, hml, hown, hts, hr, hlocks, hin⟩ := hC
  have km1 : (-1 : Int32).toInt = -1 := by decide
  have k0 : (0 : Int32).toInt = 0 := by decide
  have k1 : (1 : Int32).toInt = 1 := by decide
  have k3 : (3 : Int32).toInt = 3 := by decide
  have k8 : (8 : Int32).toInt = 8 := by decide
  have k23 : (23 : Int32).toInt = 23 := by decide
  have hK : Kp [(1009, 1010), (1045, 1051), (1058, 1059), (1061, 1063), (1067, 1068), (1071, 1073)] [(1000, 51), (1000, 52), (1000, 53), (1000, 54), (1000, 55), (1000, 56), (1000, 59), (1000, 63)] I I := Kp.rf
  have hl : lv_has ls 10 [(0, .ref (ad (1000))), (1, .int (a0)), (2, .int (a1)), (3, .int (a2))] := hl
  refine lv_aload_n hx hb dX10_searches_0 rfl (lv_at hl 0 rfl) ?_
  refine m_getr (1000) 9 (1009) hx hb hts hown hE oc10 hM hJ.1 rfl (by decide) rfl (hJ.2 9 (by decide)).2 (by decide) tb_1186 dX10_searches_1 ?_
  refine lv_aload_n hx hb dX10_searches_4 rfl (lv_at hl 0 rfl) ?_
  refine m_getr (1000) 67 (1067) hx hb hts hown hE oc10 hM hJ.1 rfl (by decide) rfl (hJ.2 67 (by decide)).2 (by decide) tb_1244 dX10_searches_5 ?_
  refine m_callv (m_runS (As := [.ref (ad (1009)), .ref (ad (1067))]) (rest := []) hx hb hml hown hts hE hM hS hA ce_X10_copy tb_1723 (V_X10_copy_1009_1067_t l D A ad ns I L G hJ hI) rfl rfl ⟨Nat.le_of_ble_eq_true rfl, Nat.le_of_ble_eq_true rfl⟩  rfl hl.1 rfl (Nat.le_of_ble_eq_true rfl) dX10_searches_8 ⟨Nat.le_of_ble_eq_true rfl, Nat.le_of_ble_eq_true rfl⟩) hS (fun u H locs hw hM hS => ?_)
  obtain ⟨I1, L2, rfl, hI, hkI1, xI1⟩ := hw
  have hM : Mem D A ad ns I1 L2 G H := hM
  have hK := hK.trans hkI1 rfl
  have zt3 : Z59 I I1 := Z59.rf.eq (hkI1.get 1000 59 rfl)
  refine lv_iload_n hx hb dX10_searches_11 rfl (lv_at hl 3 rfl) ?_
  refine m_calli (m_runS (As := [.int (a2)]) (rest := []) hx hb hml hown hts hE hM hS hA ce_X10_bits tb_1743 (V_X10_bits l D A ad ns I1 L2 G (a2) hI) rfl rfl ⟨Nat.le_of_ble_eq_true rfl, Nat.le_of_ble_eq_true rfl⟩  rfl hl.1 rfl (Nat.le_of_ble_eq_true rfl) dX10_searches_12 ⟨Nat.le_of_ble_eq_true rfl, Nat.le_of_ble_eq_true rfl⟩) hS (fun r4 u H locs hw hM hS => ?_)
  obtain ⟨rfl, xr4⟩ := hw
  have hM : Mem D A ad ns I1 L2 G H := hM
  refine lv_istore (lv' := [(4, .int (r4)), (0, .ref (ad (1000))), (1, .int (a0)), (2, .int (a1)), (3, .int (a2))]) hx hb dX10_searches_15 hl (by decide) rfl (fun ls hl => ?_)
  refine lv_iconst (v := (-1)) hx hb dX10_searches_17 (by decide) ?_
  refine lv_istore (lv' := [(5, .int ((-1 : Int32))), (4, .int (r4)), (0, .ref (ad (1000))), (1, .int (a0)), (2, .int (a1)), (3, .int (a2))]) hx hb dX10_searches_18 hl (by decide) rfl (fun ls hl => ?_)
  refine lv_iconst (v := (0)) hx hb dX10_searches_20 (by decide) ?_
  refine lv_istore (lv' := [(6, .int (0)), (5, .int ((-1 : Int32))), (4, .int (r4)), (0, .ref (ad (1000))), (1, .int (a0)), (2, .int (a1)), (3, .int (a2))]) hx hb dX10_searches_21 hl (by decide) rfl (fun ls hl => ?_)
  have loop23 : ∀ (n : Nat) (x6_23 : Int32) (x5_23 : Int32) (Ia23 : MI) (La23 : ML) (H : Heap) (locs : List Loc) (ls : Array Slot), INV Ia23 → Kp [(1009, 1010), (1045, 1051), (1058, 1059), (1061, 1063), (1067, 1068), (1071, 1073)] [(1000, 51), (1000, 52), (1000, 53), (1000, 54), (1000, 55), (1000, 56), (1000, 59), (1000, 63)] I Ia23 → (0 ≤ x6_23.toInt ∧ x6_23.toInt ≤ 4096) → (∀ j : Nat, j < 24 → Ia23 1067 j = I 1009 j) → (Z59 I Ia23) → (4096 - x6_23.toInt).toNat < n → Mem D A ad ns Ia23 La23 G H → va_S A s.heap H locs → lv_has ls 10 [(6, .int (x6_23)), (5, .int (x5_23)), (4, .int (r4)), (0, .ref (ad (1000))), (1, .int (a0)), (2, .int (a1)), (3, .int (a2))] → W p l e ({ frames := 5, cells := 0, slots := 0, locals := 128 } : Room) s m args below meth c H locs 0 0 (MQ below (va_Qi (fun r u => ∃ I2 L2, u = (ad, ns, I2, L2, G) ∧ INV I2 ∧ Kp [(1009, 1010), (1045, 1051), (1058, 1059), (1061, 1063), (1067, 1068), (1071, 1073)] [(1000, 51), (1000, 52), (1000, 53), (1000, 54), (1000, 55), (1000, 56), (1000, 59), (1000, 63)] I I2 ∧ ((KM I I2) ∧ Z59 I I2)) (BM D A) A) args s 0 0 A) (F0 m 23 ls []) := by
    intro n
    induction n with
    | zero =>
      intro x6_23 x5_23 Ia23 La23 H locs ls hI hK hr6_23 hks23 zz23 hmu
      exact absurd hmu (Nat.not_lt_zero _)
    | succ n ih23 =>
      intro x6_23 x5_23 Ia23 La23 H locs ls hI hK hr6_23 hks23 zz23 hmu23 hM hS hl
      refine lv_iload hx hb dX10_searches_23 (lv_at hl 0 rfl) ?_
      refine lv_iconst (v := (1)) hx hb dX10_searches_25 (by decide) ?_
      refine lv_iconst (v := (3)) hx hb dX10_searches_26 (by decide) ?_
      refine lv_iload hx hb dX10_searches_27 (lv_at hl 2 rfl) ?_
      refine lv_imul hx hb dX10_searches_29 ?_
      refine lv_topi (fun v5 ev5 => ?_)
      have tv5 := a_mulL (c := 3) ev5 (by decide) (by omega) (by omega)
      refine lv_ishl hx hb dX10_searches_30 ?_
      refine lv_topi (fun v6 ev6 => ?_)
      have tv6 := shl3 (n := r4) (by omega) (by omega) ev6
      refine lv_icmp_ge (tgt := 155) hx hb dX10_searches_31 (by decide) (fun c7 => ?_) (fun c7 => ?_)
      · have hc7 := c7
        have q7 := q_le hc7
        refine lv_aload_n hx hb dX10_searches_155 rfl (lv_at hl 3 rfl) ?_
        refine m_getr (1000) 67 (1067) hx hb hts hown hE oc10 hM hJ.1 rfl (by decide) rfl (hJ.2 67 (by decide)).2 (by decide) tb_1244 dX10_searches_156 ?_
        refine lv_aload_n hx hb dX10_searches_159 rfl (lv_at hl 3 rfl) ?_
        refine m_getr (1000) 9 (1009) hx hb hts hown hE oc10 hM hJ.1 rfl (by decide) rfl (hJ.2 9 (by decide)).2 (by decide) tb_1186 dX10_searches_160 ?_
        refine m_callv (m_runS (As := [.ref (ad (1067)), .ref (ad (1009))]) (rest := []) hx hb hml hown hts hE hM hS hA ce_X10_copy tb_1723 (V_X10_copy_1067_1009_t l D A ad ns Ia23 La23 G hJ hI) rfl rfl ⟨Nat.le_of_ble_eq_true rfl, Nat.le_of_ble_eq_true rfl⟩  rfl hl.1 rfl (Nat.le_of_ble_eq_true rfl) dX10_searches_163 ⟨Nat.le_of_ble_eq_true rfl, Nat.le_of_ble_eq_true rfl⟩) hS (fun u H locs hw hM hS => ?_)
        obtain ⟨I8, L9, rfl, hI, hkI8, xI8⟩ := hw
        have hM : Mem D A ad ns I8 L9 G H := hM
        have hK := hK.trans hkI8 rfl
        have zt10 : Z59 I I8 := zz23.eq (hkI8.get 1000 59 rfl)
        refine lv_iload hx hb dX10_searches_166 (lv_at hl 1 rfl) ?_
        exact m_iret hx hb hr hlocks hM hS (Nat.le_of_ble_eq_true rfl) (Nat.le_of_ble_eq_true rfl) ⟨_, _, rfl, hI, hK, ⟨(KM.of [1009] hK rfl (fun n hn k hk => by simp only [List.mem_cons, List.not_mem_nil, or_false] at hn; subst hn; exact (fun k hk => (congrFun (rfl) k).trans ((xI8 k hk).trans ((congrFun (rfl) k).trans (hks23 k hk)))) k hk)), zt10⟩⟩ dX10_searches_168
      · have hc7 := c7
        have q7 := q_nle hc7
        refine lv_iload hx hb dX10_searches_34 (lv_at hl 0 rfl) ?_
        refine lv_istore (lv' := [(7, .int (x6_23)), (6, .int (x6_23)), (5, .int (x5_23)), (4, .int (r4)), (0, .ref (ad (1000))), (1, .int (a0)), (2, .int (a1)), (3, .int (a2))]) hx hb dX10_searches_36 hl (by decide) rfl (fun ls hl => ?_)
        refine lv_iload hx hb dX10_searches_38 (lv_at hl 3 rfl) ?_
        refine lv_iconst (v := (1)) hx hb dX10_searches_40 (by decide) ?_
        refine lv_isub hx hb dX10_searches_41 ?_
        refine lv_topi (fun v11 ev11 => ?_)
        have tv11 := a_sub ev11 (by omega) (by omega)
        refine lv_istore (lv' := [(8, .int (v11)), (7, .int (x6_23)), (6, .int (x6_23)), (5, .int (x5_23)), (4, .int (r4)), (0, .ref (ad (1000))), (1, .int (a0)), (2, .int (a1)), (3, .int (a2))]) hx hb dX10_searches_42 hl (by decide) rfl (fun ls hl => ?_)
        refine lv_bipush (v := (23)) hx hb dX10_searches_44 (by decide) ?_
        refine lv_istore (lv' := [(9, .int (23)), (8, .int (v11)), (7, .int (x6_23)), (6, .int (x6_23)), (5, .int (x5_23)), (4, .int (r4)), (0, .ref (ad (1000))), (1, .int (a0)), (2, .int (a1)), (3, .int (a2))]) hx hb dX10_searches_46 hl (by decide) rfl (fun ls hl => ?_)
        have loop48 : ∀ (n : Nat) (x9_48 : Int32) (x8_48 : Int32) (x7_48 : Int32) (Ia48 : MI) (La48 : ML) (H : Heap) (locs : List Loc) (ls : Array Slot), INV Ia48 → Kp [(1009, 1010), (1045, 1051), (1058, 1059), (1061, 1063), (1067, 1068), (1071, 1073)] [(1000, 51), (1000, 52), (1000, 53), (1000, 54), (1000, 55), (1000, 56), (1000, 59), (1000, 63)] I Ia48 → (-1 ≤ x9_48.toInt ∧ x9_48.toInt ≤ 23) → (-1 ≤ x8_48.toInt ∧ x8_48.toInt ≤ 3) → (0 ≤ x7_48.toInt ∧ x7_48.toInt ≤ 4096) → (∀ j : Nat, j < 24 → Ia48 1067 j = I 1009 j) → ((x8_48).toInt + 1 = (cb (un a2) ((x9_48).toInt + 1).toNat : Int)) → (Z59 I Ia48) → (x9_48.toInt + 1).toNat < n → Mem D A ad ns Ia48 La48 G H → va_S A s.heap H locs → lv_has ls 10 [(9, .int (x9_48)), (8, .int (x8_48)), (7, .int (x7_48)), (6, .int (x6_23)), (5, .int (x5_23)), (4, .int (r4)), (0, .ref (ad (1000))), (1, .int (a0)), (2, .int (a1)), (3, .int (a2))] → W p l e ({ frames := 5, cells := 0, slots := 0, locals := 128 } : Room) s m args below meth c H locs 0 0 (MQ below (va_Qi (fun r u => ∃ I2 L2, u = (ad, ns, I2, L2, G) ∧ INV I2 ∧ Kp [(1009, 1010), (1045, 1051), (1058, 1059), (1061, 1063), (1067, 1068), (1071, 1073)] [(1000, 51), (1000, 52), (1000, 53), (1000, 54), (1000, 55), (1000, 56), (1000, 59), (1000, 63)] I I2 ∧ ((KM I I2) ∧ Z59 I I2)) (BM D A) A) args s 0 0 A) (F0 m 48 ls []) := by
          intro n
          induction n with
          | zero =>
            intro x9_48 x8_48 x7_48 Ia48 La48 H locs ls hI hK hr9_48 hr8_48 hr7_48 hks48 hcb zz48 hmu
            exact absurd hmu (Nat.not_lt_zero _)
          | succ n ih48 =>
            intro x9_48 x8_48 x7_48 Ia48 La48 H locs ls hI hK hr9_48 hr8_48 hr7_48 hks48 hcb zz48 hmu48 hM hS hl
            have hm9 : (cb (un a2) ((x9_48).toInt + 1).toNat : Int) ≤ (cb (un a2) 32 : Int) := Int.ofNat_le.mpr (cb_mono _ (by omega))
            refine lv_iload hx hb dX10_searches_48 (lv_at hl 0 rfl) ?_
            refine lv_if_lt (tgt := 102) hx hb dX10_searches_50 (by decide) (fun c12 => ?_) (fun c12 => ?_)
            · have hc12 := c12
              have q12 := q_lt hc12
              refine lv_aload_n hx hb dX10_searches_102 rfl (lv_at hl 6 rfl) ?_
              refine lv_iload_n hx hb dX10_searches_103 rfl (lv_at hl 7 rfl) ?_
              refine m_callv (m_runV (1000) (As := [.int (a0)]) (rest := []) hx hb hml hown hts hE hM hS hA ce_X10_shines tb_1640 (V_X10_shines_z l D A ad ns Ia48 La48 G (a0) hJ hI (by first | omega | decide)) rfl rfl ⟨Nat.le_of_ble_eq_true rfl, Nat.le_of_ble_eq_true rfl⟩ hJ.1 rfl rfl (by decide) rfl hl.1 rfl (Nat.le_of_ble_eq_true rfl) dX10_searches_104 ⟨Nat.le_of_ble_eq_true rfl, Nat.le_of_ble_eq_true rfl⟩) hS (fun u H locs hw hM hS => ?_)
              obtain ⟨I13, L14, rfl, hI, hkI13, xI13⟩ := hw
              have hM : Mem D A ad ns I13 L14 G H := hM
              have hK := hK.trans hkI13 rfl
              have zI13 := xI13
              have zt15a : ZA I13 := zI13
              refine lv_iload_n hx hb dX10_searches_107 rfl (lv_at hl 8 rfl) ?_
              refine lv_iconst (v := (-1)) hx hb dX10_searches_108 (by decide) ?_
              refine lv_icmp_ne (tgt := 119) hx hb dX10_searches_109 (by decide) (fun c16 => ?_) (fun c16 => ?_)
              · have hc16 := c16
                have q16 := q_ne hc16
                refine lv_aload_n hx hb dX10_searches_119 rfl (lv_at hl 6 rfl) ?_
                refine m_getr (1000) 50 (1050) hx hb hts hown hE oc10 hM hJ.1 rfl (by decide) rfl (hJ.2 50 (by decide)).2 (by decide) tb_1227 dX10_searches_120 ?_
                refine lv_iload_n hx hb dX10_searches_123 rfl (lv_at hl 8 rfl) ?_
                refine m_iald (1050) hx hb hE hM (hJ.2 50 (by decide)).1 rfl (vp_in_iff.mpr (by omega)) dX10_searches_124 ?_
                refine lv_istore (lv' := [(9, .int (I13 (1050) (a1).toNatClampNeg)), (8, .int (x8_48)), (7, .int (x7_48)), (6, .int (x6_23)), (5, .int (x5_23)), (4, .int (r4)), (0, .ref (ad (1000))), (1, .int (a0)), (2, .int (a1)), (3, .int (a2))]) hx hb dX10_searches_125 hl (by decide) rfl (fun ls hl => ?_)
                refine lv_iload hx hb dX10_searches_127 (lv_at hl 0 rfl) ?_
                refine lv_iload hx hb dX10_searches_129 (lv_at hl 4 rfl) ?_
                refine lv_icmp_le (tgt := 149) hx hb dX10_searches_131 (by decide) (fun c17 => ?_) (fun c17 => ?_)
                · have hc17 := c17
                  have q17 := q_le hc17
                  obtain ⟨v18, ev18⟩ : ∃ z : Int32, z = x6_23 + Int32.ofInt (1) := ⟨_, rfl⟩
                  have tv18 := a_inc ev18 (by decide) (by omega) (by omega)
                  refine lv_iinc (v := v18) (lv' := [(6, .int (v18)), (9, .int (I13 (1050) (a1).toNatClampNeg)), (8, .int (x8_48)), (7, .int (x7_48)), (5, .int (x5_23)), (4, .int (r4)), (0, .ref (ad (1000))), (1, .int (a0)), (2, .int (a1)), (3, .int (a2))]) hx hb dX10_searches_149 hl (k := 3) rfl ev18.symm (by decide) rfl (fun ls hl => ?_)
                  refine lv_goto (tgt := 23) hx hb dX10_searches_152 (by decide) ?_
                  exact ih23 (v18) (x5_23) I13 L14 _ _ ls hI hK (by first | omega | decide) (fun j hj => (congrFun ((hkI13.getA 1067 rfl)) j).trans (hks48 j hj)) (ZA.z zt15a) (by omega) hM hS (lv_sub hl [0, 4, 5, 6, 7, 8, 9] rfl)
                · have hc17 := c17
                  have q17 := q_nle hc17
                  refine lv_iload hx hb dX10_searches_134 (lv_at hl 0 rfl) ?_
                  refine lv_istore (lv' := [(5, .int (I13 (1050) (a1).toNatClampNeg)), (9, .int (I13 (1050) (a1).toNatClampNeg)), (8, .int (x8_48)), (7, .int (x7_48)), (6, .int (x6_23)), (4, .int (r4)), (0, .ref (ad (1000))), (1, .int (a0)), (2, .int (a1)), (3, .int (a2))]) hx hb dX10_searches_136 hl (by decide) rfl (fun ls hl => ?_)
                  refine lv_aload_n hx hb dX10_searches_138 rfl (lv_at hl 6 rfl) ?_
                  refine m_getr (1000) 71 (1071) hx hb hts hown hE oc10 hM hJ.1 rfl (by decide) rfl (hJ.2 71 (by decide)).2 (by decide) tb_1248 dX10_searches_139 ?_
                  refine lv_aload_n hx hb dX10_searches_142 rfl (lv_at hl 6 rfl) ?_
                  refine m_getr (1000) 72 (1072) hx hb hts hown hE oc10 hM hJ.1 rfl (by decide) rfl (hJ.2 72 (by decide)).2 (by decide) tb_1249 dX10_searches_143 ?_
                  refine m_callv (m_runS (As := [.ref (ad (1071)), .ref (ad (1072))]) (rest := []) hx hb hml hown hts hE hM hS hA ce_X10_copy tb_1723 (V_X10_copy_1071_1072_t l D A ad ns I13 L14 G hJ hI) rfl rfl ⟨Nat.le_of_ble_eq_true rfl, Nat.le_of_ble_eq_true rfl⟩  rfl hl.1 rfl (Nat.le_of_ble_eq_true rfl) dX10_searches_146 ⟨Nat.le_of_ble_eq_true rfl, Nat.le_of_ble_eq_true rfl⟩) hS (fun u H locs hw hM hS => ?_)
                  obtain ⟨I19, L20, rfl, hI, hkI19, xI19⟩ := hw
                  have hM : Mem D A ad ns I19 L20 G H := hM
                  have hK := hK.trans hkI19 rfl
                  have zt21a : ZA I19 := zt15a.eq (hkI19.get 1000 59 rfl)
                  obtain ⟨v22, ev22⟩ : ∃ z : Int32, z = x6_23 + Int32.ofInt (1) := ⟨_, rfl⟩
                  have tv22 := a_inc ev22 (by decide) (by omega) (by omega)
                  refine lv_iinc (v := v22) (lv' := [(6, .int (v22)), (5, .int (I13 (1050) (a1).toNatClampNeg)), (9, .int (I13 (1050) (a1).toNatClampNeg)), (8, .int (x8_48)), (7, .int (x7_48)), (4, .int (r4)), (0, .ref (ad (1000))), (1, .int (a0)), (2, .int (a1)), (3, .int (a2))]) hx hb dX10_searches_149 hl (k := 4) rfl ev22.symm (by decide) rfl (fun ls hl => ?_)
                  refine lv_goto (tgt := 23) hx hb dX10_searches_152 (by decide) ?_
                  exact ih23 (v22) (I13 (1050) (a1).toNatClampNeg) I19 L20 _ _ ls hI hK (by first | omega | decide) (fun j hj => (congrFun (((hkI19.getA 1067 rfl)).trans (hkI13.getA 1067 rfl)) j).trans (hks48 j hj)) (ZA.z zt21a) (by omega) hM hS (lv_sub hl [0, 1, 5, 6, 7, 8, 9] rfl)
              · have hc16 := c16
                have q16 := q_eq hc16
                refine lv_aload_n hx hb dX10_searches_112 rfl (lv_at hl 6 rfl) ?_
                refine m_calli (m_runV (1000) (As := []) (rest := []) hx hb hml hown hts hE hM hS hA ce_X10_fairest tb_1753 (V_X10_fairest l D A ad ns I13 L14 G hJ hI) rfl rfl ⟨Nat.le_of_ble_eq_true rfl, Nat.le_of_ble_eq_true rfl⟩ hJ.1 rfl rfl (by decide) rfl hl.1 rfl (Nat.le_of_ble_eq_true rfl) dX10_searches_113 ⟨Nat.le_of_ble_eq_true rfl, Nat.le_of_ble_eq_true rfl⟩) hS (fun r23 u H locs hw hM hS => ?_)
                obtain ⟨rfl, xr23⟩ := hw
                have hM : Mem D A ad ns I13 L14 G H := hM
                refine lv_goto (tgt := 125) hx hb dX10_searches_116 (by decide) ?_
                refine lv_istore (lv' := [(9, .int (r23)), (8, .int (x8_48)), (7, .int (x7_48)), (6, .int (x6_23)), (5, .int (x5_23)), (4, .int (r4)), (0, .ref (ad (1000))), (1, .int (a0)), (2, .int (a1)), (3, .int (a2))]) hx hb dX10_searches_125 hl (by decide) rfl (fun ls hl => ?_)
                refine lv_iload hx hb dX10_searches_127 (lv_at hl 0 rfl) ?_
                refine lv_iload hx hb dX10_searches_129 (lv_at hl 4 rfl) ?_
                refine lv_icmp_le (tgt := 149) hx hb dX10_searches_131 (by decide) (fun c24 => ?_) (fun c24 => ?_)
                · have hc24 := c24
                  have q24 := q_le hc24
                  obtain ⟨v25, ev25⟩ : ∃ z : Int32, z = x6_23 + Int32.ofInt (1) := ⟨_, rfl⟩
                  have tv25 := a_inc ev25 (by decide) (by omega) (by omega)
                  refine lv_iinc (v := v25) (lv' := [(6, .int (v25)), (9, .int (r23)), (8, .int (x8_48)), (7, .int (x7_48)), (5, .int (x5_23)), (4, .int (r4)), (0, .ref (ad (1000))), (1, .int (a0)), (2, .int (a1)), (3, .int (a2))]) hx hb dX10_searches_149 hl (k := 3) rfl ev25.symm (by decide) rfl (fun ls hl => ?_)
                  refine lv_goto (tgt := 23) hx hb dX10_searches_152 (by decide) ?_
                  exact ih23 (v25) (x5_23) I13 L14 _ _ ls hI hK (by first | omega | decide) (fun j hj => (congrFun ((hkI13.getA 1067 rfl)) j).trans (hks48 j hj)) (ZA.z zt15a) (by omega) hM hS (lv_sub hl [0, 4, 5, 6, 7, 8, 9] rfl)
                · have hc24 := c24
                  have q24 := q_nle hc24
                  refine lv_iload hx hb dX10_searches_134 (lv_at hl 0 rfl) ?_
                  refine lv_istore (lv' := [(5, .int (r23)), (9, .int (r23)), (8, .int (x8_48)), (7, .int (x7_48)), (6, .int (x6_23)), (4, .int (r4)), (0, .ref (ad (1000))), (1, .int (a0)), (2, .int (a1)), (3, .int (a2))]) hx hb dX10_searches_136 hl (by decide) rfl (fun ls hl => ?_)
                  refine lv_aload_n hx hb dX10_searches_138 rfl (lv_at hl 6 rfl) ?_
                  refine m_getr (1000) 71 (1071) hx hb hts hown hE oc10 hM hJ.1 rfl (by decide) rfl (hJ.2 71 (by decide)).2 (by decide) tb_1248 dX10_searches_139 ?_
                  refine lv_aload_n hx hb dX10_searches_142 rfl (lv_at hl 6 rfl) ?_
                  refine m_getr (1000) 72 (1072) hx hb hts hown hE oc10 hM hJ.1 rfl (by decide) rfl (hJ.2 72 (by decide)).2 (by decide) tb_1249 dX10_searches_143 ?_
                  refine m_callv (m_runS (As := [.ref (ad (1071)), .ref (ad (1072))]) (rest := []) hx hb hml hown hts hE hM hS hA ce_X10_copy tb_1723 (V_X10_copy_1071_1072_t l D A ad ns I13 L14 G hJ hI) rfl rfl ⟨Nat.le_of_ble_eq_true rfl, Nat.le_of_ble_eq_true rfl⟩  rfl hl.1 rfl (Nat.le_of_ble_eq_true rfl) dX10_searches_146 ⟨Nat.le_of_ble_eq_true rfl, Nat.le_of_ble_eq_true rfl⟩) hS (fun u H locs hw hM hS => ?_)
                  obtain ⟨I26, L27, rfl, hI, hkI26, xI26⟩ := hw
                  have hM : Mem D A ad ns I26 L27 G H := hM
                  have hK := hK.trans hkI26 rfl
                  have zt28a : ZA I26 := zt15a.eq (hkI26.get 1000 59 rfl)
                  obtain ⟨v29, ev29⟩ : ∃ z : Int32, z = x6_23 + Int32.ofInt (1) := ⟨_, rfl⟩
                  have tv29 := a_inc ev29 (by decide) (by omega) (by omega)
                  refine lv_iinc (v := v29) (lv' := [(6, .int (v29)), (5, .int (r23)), (9, .int (r23)), (8, .int (x8_48)), (7, .int (x7_48)), (4, .int (r4)), (0, .ref (ad (1000))), (1, .int (a0)), (2, .int (a1)), (3, .int (a2))]) hx hb dX10_searches_149 hl (k := 4) rfl ev29.symm (by decide) rfl (fun ls hl => ?_)
                  refine lv_goto (tgt := 23) hx hb dX10_searches_152 (by decide) ?_
                  exact ih23 (v29) (r23) I26 L27 _ _ ls hI hK (by first | omega | decide) (fun j hj => (congrFun (((hkI26.getA 1067 rfl)).trans (hkI13.getA 1067 rfl)) j).trans (hks48 j hj)) (ZA.z zt28a) (by omega) hM hS (lv_sub hl [0, 1, 5, 6, 7, 8, 9] rfl)
            · have hc12 := c12
              have q12 := q_nlt hc12
              have hbk := cb_step (un a2) (x9_48) (by omega)
              refine lv_iload_n hx hb dX10_searches_53 rfl (lv_at hl 9 rfl) ?_
              refine lv_iload hx hb dX10_searches_54 (lv_at hl 0 rfl) ?_
              refine m_calli (m_runS (As := [.int (a2), .int (x9_48)]) (rest := []) hx hb hml hown hts hE hM hS hA ce_X10_has tb_1750 (V_X10_has_b l D A ad ns Ia48 La48 G (a2) (x9_48) hI (by first | omega | decide) (by first | omega | decide)) rfl rfl ⟨Nat.le_of_ble_eq_true rfl, Nat.le_of_ble_eq_true rfl⟩  rfl hl.1 rfl (Nat.le_of_ble_eq_true rfl) dX10_searches_56 ⟨Nat.le_of_ble_eq_true rfl, Nat.le_of_ble_eq_true rfl⟩) hS (fun r30 u H locs hw hM hS => ?_)
              obtain ⟨rfl, xr30⟩ := hw
              have hM : Mem D A ad ns Ia48 La48 G H := hM
              have yr30 := bo01 xr30
              refine lv_if_eq (tgt := 96) hx hb dX10_searches_59 (by decide) (fun c31 => ?_) (fun c31 => ?_)
              · have hc31 := c31
                have q31 := xr30.f hc31
                obtain ⟨v32, ev32⟩ : ∃ z : Int32, z = x9_48 + Int32.ofInt (-1) := ⟨_, rfl⟩
                have tv32 := a_inc ev32 (by decide) (by omega) (by omega)
                refine lv_iinc (v := v32) (lv' := [(9, .int (v32)), (8, .int (x8_48)), (7, .int (x7_48)), (6, .int (x6_23)), (5, .int (x5_23)), (4, .int (r4)), (0, .ref (ad (1000))), (1, .int (a0)), (2, .int (a1)), (3, .int (a2))]) hx hb dX10_searches_96 hl (k := 0) rfl ev32.symm (by decide) rfl (fun ls hl => ?_)
                refine lv_goto (tgt := 48) hx hb dX10_searches_99 (by decide) ?_
                exact ih48 (v32) (x8_48) (x7_48) Ia48 La48 _ _ ls hI hK (by first | omega | decide) (by first | omega | decide) (by first | omega | decide) (fun j hj => (congrFun (rfl) j).trans (hks48 j hj)) (by rw [show (v32).toInt + 1 = (x9_48).toInt by omega]; omega) zz48 (by omega) hM hS (lv_sub hl [0, 1, 2, 3, 4, 5, 6, 7, 8, 9] rfl)
              · have hc31 := c31
                have q31 := xr30.t hc31
                refine lv_aload_n hx hb dX10_searches_62 rfl (lv_at hl 6 rfl) ?_
                refine m_getr (1000) 9 (1009) hx hb hts hown hE oc10 hM hJ.1 rfl (by decide) rfl (hJ.2 9 (by decide)).2 (by decide) tb_1186 dX10_searches_63 ?_
                refine lv_iload hx hb dX10_searches_66 (lv_at hl 0 rfl) ?_
                refine lv_iload hx hb dX10_searches_68 (lv_at hl 2 rfl) ?_
                refine lv_bipush (v := (8)) hx hb dX10_searches_70 (by decide) ?_
                refine lv_irem hx hb dX10_searches_72 (by decide) ?_
                refine lv_topi (fun v33 ev33 => ?_)
                have tv33 := a_rem (c := 8) ev33 (by decide) (by decide) (by omega)
                refine m_iast (1009) hx hb hE hM hS (hJ.2 9 (by decide)).1 rfl (vp_in_iff.mpr (by omega)) dX10_searches_73 (fun H locs I34 eI34 hM hS => ?_)
                subst eI34
                have hI := hI.putF (n := 1009) (k := ((x9_48).toNatClampNeg)) (v := v33) rfl
                have hK := hK.put (n := 1009) (k := ((x9_48).toNatClampNeg)) (v := v33) (by first | rfl | simp [inR])
                have zt35 : Z59 I (u2 Ia48 (1009) ((x9_48).toNatClampNeg) (v33)) := zz48.pt (fun z => absurd z.1 (by decide))
                refine lv_aload_n hx hb dX10_searches_74 rfl (lv_at hl 6 rfl) ?_
                refine m_getr (1000) 71 (1071) hx hb hts hown hE oc10 hM hJ.1 rfl (by decide) rfl (hJ.2 71 (by decide)).2 (by decide) tb_1248 dX10_searches_75 ?_
                refine lv_iload hx hb dX10_searches_78 (lv_at hl 1 rfl) ?_
                refine lv_iload hx hb dX10_searches_80 (lv_at hl 2 rfl) ?_
                refine lv_bipush (v := (8)) hx hb dX10_searches_82 (by decide) ?_
                refine lv_irem hx hb dX10_searches_84 (by decide) ?_
                refine lv_topi (fun v36 ev36 => ?_)
                have tv36 := a_rem (c := 8) ev36 (by decide) (by decide) (by omega)
                refine m_iast (1071) hx hb hE hM hS (hJ.2 71 (by decide)).1 rfl (vp_in_iff.mpr (by omega)) dX10_searches_85 (fun H locs I37 eI37 hM hS => ?_)
                subst eI37
                have hI := hI.putF (n := 1071) (k := ((x8_48).toNatClampNeg)) (v := v36) rfl
                have hK := hK.put (n := 1071) (k := ((x8_48).toNatClampNeg)) (v := v36) (by first | rfl | simp [inR])
                have zt38 : Z59 I (u2 (u2 Ia48 (1009) ((x9_48).toNatClampNeg) (v33)) (1071) ((x8_48).toNatClampNeg) (v36)) := zt35.pt (fun z => absurd z.1 (by decide))
                refine lv_iload hx hb dX10_searches_86 (lv_at hl 2 rfl) ?_
                refine lv_bipush (v := (8)) hx hb dX10_searches_88 (by decide) ?_
                refine lv_idiv hx hb dX10_searches_90 (by decide) ?_
                refine lv_topi (fun v39 ev39 => ?_)
                have tv39 := a_div (c := 8) ev39 (by decide) (by decide) (by omega)
                refine lv_istore (lv' := [(7, .int (v39)), (9, .int (x9_48)), (8, .int (x8_48)), (6, .int (x6_23)), (5, .int (x5_23)), (4, .int (r4)), (0, .ref (ad (1000))), (1, .int (a0)), (2, .int (a1)), (3, .int (a2))]) hx hb dX10_searches_91 hl (by decide) rfl (fun ls hl => ?_)
                obtain ⟨v40, ev40⟩ : ∃ z : Int32, z = x8_48 + Int32.ofInt (-1) := ⟨_, rfl⟩
                have tv40 := a_inc ev40 (by decide) (by omega) (by omega)
                refine lv_iinc (v := v40) (lv' := [(8, .int (v40)), (7, .int (v39)), (9, .int (x9_48)), (6, .int (x6_23)), (5, .int (x5_23)), (4, .int (r4)), (0, .ref (ad (1000))), (1, .int (a0)), (2, .int (a1)), (3, .int (a2))]) hx hb dX10_searches_93 hl (k := 2) rfl ev40.symm (by decide) rfl (fun ls hl => ?_)
                obtain ⟨v41, ev41⟩ : ∃ z : Int32, z = x9_48 + Int32.ofInt (-1) := ⟨_, rfl⟩
                have tv41 := a_inc ev41 (by decide) (by omega) (by omega)
                refine lv_iinc (v := v41) (lv' := [(9, .int (v41)), (8, .int (v40)), (7, .int (v39)), (6, .int (x6_23)), (5, .int (x5_23)), (4, .int (r4)), (0, .ref (ad (1000))), (1, .int (a0)), (2, .int (a1)), (3, .int (a2))]) hx hb dX10_searches_96 hl (k := 2) rfl ev41.symm (by decide) rfl (fun ls hl => ?_)
                refine lv_goto (tgt := 48) hx hb dX10_searches_99 (by decide) ?_
                exact ih48 (v41) (v40) (v39) (u2 (u2 Ia48 (1009) ((x9_48).toNatClampNeg) (v33)) (1071) ((x8_48).toNatClampNeg) (v36)) La48 _ _ ls hI hK (by first | omega | decide) (by first | omega | decide) (by first | omega | decide) (fun j hj => (congrFun ((show (u2 (u2 Ia48 (1009) ((x9_48).toNatClampNeg) (v33)) (1071) ((x8_48).toNatClampNeg) (v36)) 1067 = Ia48 1067 from by funext zz; simp [u2_v])) j).trans (hks48 j hj)) (by rw [show (v41).toInt + 1 = (x9_48).toInt by omega]; omega) zt38 (by omega) hM hS (lv_sub hl [0, 1, 2, 3, 4, 5, 6, 7, 8, 9] rfl)
        exact loop48 (_ + 1) (23) (v11) (x6_23) Ia23 La23 _ _ ls hI hK (by first | omega | decide) (by first | omega | decide) (by first | omega | decide) (fun j hj => (congrFun (rfl) j).trans (hks23 j hj)) (by have h24 := cb_top (un a2) (j := 24) (k := 32) (by decide) (by have := un_nn (x := a2) (by omega); omega); show _ = (cb (un a2) 24 : Int); omega) zz23 (Nat.lt_succ_self _) hM hS (lv_sub hl [0, 1, 2, 3, 4, 5, 6, 7, 8, 9] rfl)
  exact loop23 (_ + 1) (0) ((-1 : Int32)) I1 L2 _ _ ls hI hK (by first | omega | decide) (fun j hj => (congrFun (rfl) j).trans ((xI1 j hj).trans (congrFun (rfl) j))) zt3 (Nat.lt_succ_self _) hM hS (lv_sub hl [0, 1, 2, 3, 4, 5, 6] rfl)
set_option maxHeartbeats 4000000 in
set_option maxRecDepth 20000 in
theorem V_X10_aim_t_z (l : Launch) (D : va_G) (A : Nat → Prop) (ad : Nat → Nat) (ns : List Nat) (I : MI) (L : ML) (G : MG) (a0 : Int32) (a1 : Int32) (a2 : Int32) (a3 : Int32) (hJ : SGM ns G) (hI : INV I) : Met l yX10_aim (wd yX10_aim cX10_aim 6 (some .int)) ({ frames := 6, cells := 0, slots := 0, locals := 157 }) (va_Pc [.ref (ad (1000)), .int a0, .int a1, .int a2, .int a3] (PM D A ad ns I L G)) (va_Qi (fun r u => ∃ I2 L2, u = (ad, ns, I2, L2, G) ∧ INV I2 ∧ Kp [(1009, 1010), (1045, 1051), (1058, 1059), (1061, 1063), (1067, 1068), (1071, 1073)] [(1000, 51), (1000, 52), (1000, 53), (1000, 54), (1000, 55), (1000, 56), (1000, 59), (1000, 63)] I I2 ∧ ((KM I I2) ∧ Z59 I I2)) (BM D A) A) 0 0 A := by
  refine m_ofW (by decide) (Nat.le_of_ble_eq_true rfl) ?_
  intro p e s m below meth c ls args hC hE hM hA hS hl
  obtain ⟨hx, hb, hml, hown, hts, hr, hlocks, hin⟩ := hC
  have km1 : (-1 : Int32).toInt = -1 := by decide
  have k0 : (0 : Int32).toInt = 0 := by decide
  have k1 : (1 : Int32).toInt = 1 := by decide
  have klm1 : (-1 : Int64).toInt = -1 := by decide
  have hK : Kp [(1009, 1010), (1045, 1051), (1058, 1059), (1061, 1063), (1067, 1068), (1071, 1073)] [(1000, 51), (1000, 52), (1000, 53), (1000, 54), (1000, 55), (1000, 56), (1000, 59), (1000, 63)] I I := Kp.rf
  have hl : lv_has ls 6 [(0, .ref (ad (1000))), (1, .int (a0)), (2, .int (a1)), (3, .int (a2)), (4, .int (a3))] := hl
  refine lv_aload_n hx hb dX10_aim_0 rfl (lv_at hl 0 rfl) ?_
  refine lv_iload_n hx hb dX10_aim_1 rfl (lv_at hl 1 rfl) ?_
  refine m_calli (m_runV (1000) (As := [.int (a0)]) (rest := []) hx hb hml hown hts hE hM hS hA ce_X10_isBright tb_1698 (V_X10_isBright l D A ad ns I L G (a0) hJ hI) rfl rfl ⟨Nat.le_of_ble_eq_true rfl, Nat.le_of_ble_eq_true rfl⟩ hJ.1 rfl rfl (by decide) rfl hl.1 rfl (Nat.le_of_ble_eq_true rfl) dX10_aim_2 ⟨Nat.le_of_ble_eq_true rfl, Nat.le_of_ble_eq_true rfl⟩) hS (fun r1 u H locs hw hM hS => ?_)
  obtain ⟨rfl, xr1⟩ := hw
  have hM : Mem D A ad ns I L G H := hM
  refine lv_if_eq (tgt := 43) hx hb dX10_aim_5 (by decide) (fun c2 => ?_) (fun c2 => ?_)
  · have hc2 := c2
    have q2 := q_eq hc2
    refine lv_iconst (v := (-1)) hx hb dX10_aim_43 (by decide) ?_
    exact m_iret hx hb hr hlocks hM hS (Nat.le_of_ble_eq_true rfl) (Nat.le_of_ble_eq_true rfl) ⟨_, _, rfl, hI, hK, ⟨EqV.rf, Z59.rf⟩⟩ dX10_aim_44
  · have hc2 := c2
    have q2 := q_ne hc2
    refine lv_aload_n hx hb dX10_aim_8 rfl (lv_at hl 0 rfl) ?_
    refine lv_iload_n hx hb dX10_aim_9 rfl (lv_at hl 2 rfl) ?_
    refine m_calli (m_runV (1000) (As := [.int (a1)]) (rest := []) hx hb hml hown hts hE hM hS hA ce_X10_isYard tb_1686 (V_X10_isYard l D A ad ns I L G (a1) hJ hI) rfl rfl ⟨Nat.le_of_ble_eq_true rfl, Nat.le_of_ble_eq_true rfl⟩ hJ.1 rfl rfl (by decide) rfl hl.1 rfl (Nat.le_of_ble_eq_true rfl) dX10_aim_10 ⟨Nat.le_of_ble_eq_true rfl, Nat.le_of_ble_eq_true rfl⟩) hS (fun r3 u H locs hw hM hS => ?_)
    obtain ⟨rfl, xr3⟩ := hw
    have hM : Mem D A ad ns I L G H := hM
    have yr3 := bo01 xr3
    have g4 := hI.get 1001 9 (lo := 0) (hi := 8) rfl
    refine lv_if_eq (tgt := 43) hx hb dX10_aim_13 (by decide) (fun c5 => ?_) (fun c5 => ?_)
    · have hc5 := c5
      have q5 := xr3.f hc5
      refine lv_iconst (v := (-1)) hx hb dX10_aim_43 (by decide) ?_
      exact m_iret hx hb hr hlocks hM hS (Nat.le_of_ble_eq_true rfl) (Nat.le_of_ble_eq_true rfl) ⟨_, _, rfl, hI, hK, ⟨EqV.rf, Z59.rf⟩⟩ dX10_aim_44
    · have hc5 := c5
      have q5 := xr3.t hc5
      refine lv_aload_n hx hb dX10_aim_16 rfl (lv_at hl 0 rfl) ?_
      refine lv_iload_n hx hb dX10_aim_17 rfl (lv_at hl 3 rfl) ?_
      refine m_calli (m_runV (1000) (As := [.int (a2)]) (rest := []) hx hb hml hown hts hE hM hS hA ce_X10_isSet tb_1739 (V_X10_isSet l D A ad ns I L G (a2) hJ hI) rfl rfl ⟨Nat.le_of_ble_eq_true rfl, Nat.le_of_ble_eq_true rfl⟩ hJ.1 rfl rfl (by decide) rfl hl.1 rfl (Nat.le_of_ble_eq_true rfl) dX10_aim_18 ⟨Nat.le_of_ble_eq_true rfl, Nat.le_of_ble_eq_true rfl⟩) hS (fun r6 u H locs hw hM hS => ?_)
      obtain ⟨rfl, xr6⟩ := hw
      have hM : Mem D A ad ns I L G H := hM
      refine lv_if_eq (tgt := 43) hx hb dX10_aim_21 (by decide) (fun c7 => ?_) (fun c7 => ?_)
      · have hc7 := c7
        have q7 := q_eq hc7
        refine lv_iconst (v := (-1)) hx hb dX10_aim_43 (by decide) ?_
        exact m_iret hx hb hr hlocks hM hS (Nat.le_of_ble_eq_true rfl) (Nat.le_of_ble_eq_true rfl) ⟨_, _, rfl, hI, hK, ⟨EqV.rf, Z59.rf⟩⟩ dX10_aim_44
      · have hc7 := c7
        have q7 := q_ne hc7
        refine lv_iload hx hb dX10_aim_24 (lv_at hl 4 rfl) ?_
        refine lv_i2l hx hb dX10_aim_26 rfl ?_
        refine lv_topl (fun v8 ev8 => ?_)
        have tv8 := q_i2l ev8
        refine lv_ldc2 (v := (-1)) hx hb hown (hts _ tb_1467) dX10_aim_27 ?_
        refine lv_iload_n hx hb dX10_aim_30 rfl (lv_at hl 3 rfl) ?_
        refine m_calli (m_runS (As := [.int (a2)]) (rest := [.long ((-1 : Int64)), .long (v8)]) hx hb hml hown hts hE hM hS hA ce_X10_bits tb_1743 (V_X10_bits l D A ad ns I L G (a2) hI) rfl rfl ⟨Nat.le_of_ble_eq_true rfl, Nat.le_of_ble_eq_true rfl⟩  rfl hl.1 rfl (Nat.le_of_ble_eq_true rfl) dX10_aim_31 ⟨Nat.le_of_ble_eq_true rfl, Nat.le_of_ble_eq_true rfl⟩) hS (fun r9 u H locs hw hM hS => ?_)
        obtain ⟨rfl, xr9⟩ := hw
        have hM : Mem D A ad ns I L G H := hM
        refine lv_iconst (v := (1)) hx hb dX10_aim_34 (by decide) ?_
        refine lv_isub hx hb dX10_aim_35 ?_
        refine lv_topi (fun v10 ev10 => ?_)
        have tv10 := a_sub ev10 (by omega) (by omega)
        refine lv_i2l hx hb dX10_aim_36 rfl ?_
        refine lv_topl (fun v11 ev11 => ?_)
        have tv11 := q_i2l ev11
        refine m_calli (m_runS (As := [.long (v8), .long ((-1 : Int64)), .long (v11)]) (rest := []) hx hb hml hown hts hE hM hS hA ce_X10_in tb_1425 (V_X10_in l D A ad ns I L G (v8) ((-1 : Int64)) (v11) hI) rfl rfl ⟨Nat.le_of_ble_eq_true rfl, Nat.le_of_ble_eq_true rfl⟩  rfl hl.1 rfl (Nat.le_of_ble_eq_true rfl) dX10_aim_37 ⟨Nat.le_of_ble_eq_true rfl, Nat.le_of_ble_eq_true rfl⟩) hS (fun r12 u H locs hw hM hS => ?_)
        obtain ⟨rfl, xr12⟩ := hw
        have hM : Mem D A ad ns I L G H := hM
        have yr12 := bo01 xr12
        refine lv_if_ne (tgt := 45) hx hb dX10_aim_40 (by decide) (fun c13 => ?_) (fun c13 => ?_)
        · have hc13 := c13
          have q13 := xr12.t hc13
          refine lv_aload_n hx hb dX10_aim_45 rfl (lv_at hl 0 rfl) ?_
          refine lv_iload_n hx hb dX10_aim_46 rfl (lv_at hl 1 rfl) ?_
          refine lv_iload_n hx hb dX10_aim_47 rfl (lv_at hl 2 rfl) ?_
          refine lv_iload_n hx hb dX10_aim_48 rfl (lv_at hl 3 rfl) ?_
          refine m_calli (m_runV (1000) (As := [.int (a0), .int (a1), .int (a2)]) (rest := []) hx hb hml hown hts hE hM hS hA ce_X10_searches tb_1746 (V_X10_searches_t_z l D A ad ns I L G (a0) (a1) (a2) hJ hI (by first | omega | decide) (by first | omega | decide) (by first | omega | decide)) rfl rfl ⟨Nat.le_of_ble_eq_true rfl, Nat.le_of_ble_eq_true rfl⟩ hJ.1 rfl rfl (by decide) rfl hl.1 rfl (Nat.le_of_ble_eq_true rfl) dX10_aim_49 ⟨Nat.le_of_ble_eq_true rfl, Nat.le_of_ble_eq_true rfl⟩) hS (fun r14 u H locs hw hM hS => ?_)
          obtain ⟨I15, L16, rfl, hI, hkI15, xr14⟩ := hw
          have hM : Mem D A ad ns I15 L16 G H := hM
          have hK := hK.trans hkI15 rfl
          have zI15 := xr14.2
          replace xr14 := xr14.1
          have zt17 : Z59 I I15 := Z59.rf.tr zI15
          refine lv_istore (lv' := [(5, .int (r14)), (0, .ref (ad (1000))), (1, .int (a0)), (2, .int (a1)), (3, .int (a2)), (4, .int (a3))]) hx hb dX10_aim_52 hl (by decide) rfl (fun ls hl => ?_)
          refine lv_iload hx hb dX10_aim_54 (lv_at hl 5 rfl) ?_
          refine lv_iconst (v := (-1)) hx hb dX10_aim_56 (by decide) ?_
          refine lv_icmp_ne (tgt := 65) hx hb dX10_aim_57 (by decide) (fun c18 => ?_) (fun c18 => ?_)
          · have hc18 := c18
            have q18 := q_ne hc18
            refine lv_aload_n hx hb dX10_aim_65 rfl (lv_at hl 1 rfl) ?_
            refine m_getr (1000) 72 (1072) hx hb hts hown hE oc10 hM hJ.1 rfl (by decide) rfl (hJ.2 72 (by decide)).2 (by decide) tb_1249 dX10_aim_66 ?_
            refine lv_iload hx hb dX10_aim_69 (lv_at hl 5 rfl) ?_
            refine m_iald (1072) hx hb hE hM (hJ.2 72 (by decide)).1 rfl (vp_in_iff.mpr (by omega)) dX10_aim_71 ?_
            exact m_iret hx hb hr hlocks hM hS (Nat.le_of_ble_eq_true rfl) (Nat.le_of_ble_eq_true rfl) ⟨_, _, rfl, hI, hK, ⟨(EqV.tr EqV.rf xr14), zt17⟩⟩ dX10_aim_72
          · have hc18 := c18
            have q18 := q_eq hc18
            refine lv_iload hx hb dX10_aim_60 (lv_at hl 0 rfl) ?_
            refine lv_goto (tgt := 72) hx hb dX10_aim_62 (by decide) ?_
            exact m_iret hx hb hr hlocks hM hS (Nat.le_of_ble_eq_true rfl) (Nat.le_of_ble_eq_true rfl) ⟨_, _, rfl, hI, hK, ⟨(EqV.tr EqV.rf xr14), zt17⟩⟩ dX10_aim_72
        · have hc13 := c13
          have q13 := xr12.f hc13
          refine lv_iconst (v := (-1)) hx hb dX10_aim_43 (by decide) ?_
          exact m_iret hx hb hr hlocks hM hS (Nat.le_of_ble_eq_true rfl) (Nat.le_of_ble_eq_true rfl) ⟨_, _, rfl, hI, hK, ⟨EqV.rf, Z59.rf⟩⟩ dX10_aim_44
set_option maxHeartbeats 4000000 in
set_option maxRecDepth 20000 in
theorem V_X10_fair_t_z (l : Launch) (D : va_G) (A : Nat → Prop) (ad : Nat → Nat) (ns : List Nat) (I : MI) (L : ML) (G : MG) (a0 : Int32) (a1 : Int32) (a2 : Int32) (hJ : SGM ns G) (hI : INV I) : Met l yX10_fair (wd yX10_fair cX10_fair 5 (some .int)) ({ frames := 6, cells := 0, slots := 0, locals := 157 }) (va_Pc [.ref (ad (1000)), .int a0, .int a1, .int a2] (PM D A ad ns I L G)) (va_Qi (fun r u => ∃ I2 L2, u = (ad, ns, I2, L2, G) ∧ INV I2 ∧ Kp [(1009, 1010), (1045, 1051), (1058, 1059), (1061, 1063), (1067, 1068), (1071, 1073)] [(1000, 51), (1000, 52), (1000, 53), (1000, 54), (1000, 55), (1000, 56), (1000, 59), (1000, 63)] I I2 ∧ ((KM I I2) ∧ Z59 I I2)) (BM D A) A) 0 0 A := by
  refine m_ofW (by decide) (Nat.le_of_ble_eq_true rfl) ?_
  intro p e s m below meth c ls args hC hE hM hA hS hl
  obtain ⟨hx, hb, hml, hown, hts, hr, hlocks, hin⟩ := hC
  have km1 : (-1 : Int32).toInt = -1 := by decide
  have k0 : (0 : Int32).toInt = 0 := by decide
  have k1 : (1 : Int32).toInt = 1 := by decide
  have k9 : (9 : Int32).toInt = 9 := by decide
  have klm1 : (-1 : Int64).toInt = -1 := by decide
  have hK : Kp [(1009, 1010), (1045, 1051), (1058, 1059), (1061, 1063), (1067, 1068), (1071, 1073)] [(1000, 51), (1000, 52), (1000, 53), (1000, 54), (1000, 55), (1000, 56), (1000, 59), (1000, 63)] I I := Kp.rf
  have hl : lv_has ls 5 [(0, .ref (ad (1000))), (1, .int (a0)), (2, .int (a1)), (3, .int (a2))] := hl
  refine lv_aload_n hx hb dX10_fair_0 rfl (lv_at hl 0 rfl) ?_
  refine lv_iload_n hx hb dX10_fair_1 rfl (lv_at hl 1 rfl) ?_
  refine m_calli (m_runV (1000) (As := [.int (a0)]) (rest := []) hx hb hml hown hts hE hM hS hA ce_X10_isBright tb_1698 (V_X10_isBright l D A ad ns I L G (a0) hJ hI) rfl rfl ⟨Nat.le_of_ble_eq_true rfl, Nat.le_of_ble_eq_true rfl⟩ hJ.1 rfl rfl (by decide) rfl hl.1 rfl (Nat.le_of_ble_eq_true rfl) dX10_fair_2 ⟨Nat.le_of_ble_eq_true rfl, Nat.le_of_ble_eq_true rfl⟩) hS (fun r1 u H locs hw hM hS => ?_)
  obtain ⟨rfl, xr1⟩ := hw
  have hM : Mem D A ad ns I L G H := hM
  refine lv_if_eq (tgt := 44) hx hb dX10_fair_5 (by decide) (fun c2 => ?_) (fun c2 => ?_)
  · have hc2 := c2
    have q2 := q_eq hc2
    refine lv_iconst (v := (-1)) hx hb dX10_fair_44 (by decide) ?_
    exact m_iret hx hb hr hlocks hM hS (Nat.le_of_ble_eq_true rfl) (Nat.le_of_ble_eq_true rfl) ⟨_, _, rfl, hI, hK, ⟨EqV.rf, Z59.rf⟩⟩ dX10_fair_45
  · have hc2 := c2
    have q2 := q_ne hc2
    refine lv_aload_n hx hb dX10_fair_8 rfl (lv_at hl 0 rfl) ?_
    refine m_getr (1000) 1 (1001) hx hb hts hown hE oc10 hM hJ.1 rfl (by decide) rfl (hJ.2 1 (by decide)).2 (by decide) tb_1178 dX10_fair_9 ?_
    refine lv_bipush (v := (9)) hx hb dX10_fair_12 (by decide) ?_
    refine m_iald (1001) hx hb hE hM (hJ.2 1 (by decide)).1 rfl (vp_in_iff.mpr (by decide)) dX10_fair_14 ?_
    rw [show (9 : Int32).toNatClampNeg = 9 from rfl]
    have g3 := hI.get (1001) 9 (lo := 0) (hi := 8) rfl
    refine lv_if_eq (tgt := 44) hx hb dX10_fair_15 (by decide) (fun c4 => ?_) (fun c4 => ?_)
    · have hc4 := c4
      have q4 := q_eq hc4
      refine lv_iconst (v := (-1)) hx hb dX10_fair_44 (by decide) ?_
      exact m_iret hx hb hr hlocks hM hS (Nat.le_of_ble_eq_true rfl) (Nat.le_of_ble_eq_true rfl) ⟨_, _, rfl, hI, hK, ⟨EqV.rf, Z59.rf⟩⟩ dX10_fair_45
    · have hc4 := c4
      have q4 := q_ne hc4
      refine lv_aload_n hx hb dX10_fair_18 rfl (lv_at hl 0 rfl) ?_
      refine lv_iload_n hx hb dX10_fair_19 rfl (lv_at hl 2 rfl) ?_
      refine m_calli (m_runV (1000) (As := [.int (a1)]) (rest := []) hx hb hml hown hts hE hM hS hA ce_X10_isSet tb_1739 (V_X10_isSet l D A ad ns I L G (a1) hJ hI) rfl rfl ⟨Nat.le_of_ble_eq_true rfl, Nat.le_of_ble_eq_true rfl⟩ hJ.1 rfl rfl (by decide) rfl hl.1 rfl (Nat.le_of_ble_eq_true rfl) dX10_fair_20 ⟨Nat.le_of_ble_eq_true rfl, Nat.le_of_ble_eq_true rfl⟩) hS (fun r5 u H locs hw hM hS => ?_)
      obtain ⟨rfl, xr5⟩ := hw
      have hM : Mem D A ad ns I L G H := hM
      refine lv_if_eq (tgt := 44) hx hb dX10_fair_23 (by decide) (fun c6 => ?_) (fun c6 => ?_)
      · have hc6 := c6
        have q6 := q_eq hc6
        refine lv_iconst (v := (-1)) hx hb dX10_fair_44 (by decide) ?_
        exact m_iret hx hb hr hlocks hM hS (Nat.le_of_ble_eq_true rfl) (Nat.le_of_ble_eq_true rfl) ⟨_, _, rfl, hI, hK, ⟨EqV.rf, Z59.rf⟩⟩ dX10_fair_45
      · have hc6 := c6
        have q6 := q_ne hc6
        refine lv_iload_n hx hb dX10_fair_26 rfl (lv_at hl 3 rfl) ?_
        refine lv_i2l hx hb dX10_fair_27 rfl ?_
        refine lv_topl (fun v7 ev7 => ?_)
        have tv7 := q_i2l ev7
        refine lv_ldc2 (v := (-1)) hx hb hown (hts _ tb_1467) dX10_fair_28 ?_
        refine lv_iload_n hx hb dX10_fair_31 rfl (lv_at hl 2 rfl) ?_
        refine m_calli (m_runS (As := [.int (a1)]) (rest := [.long ((-1 : Int64)), .long (v7)]) hx hb hml hown hts hE hM hS hA ce_X10_bits tb_1743 (V_X10_bits l D A ad ns I L G (a1) hI) rfl rfl ⟨Nat.le_of_ble_eq_true rfl, Nat.le_of_ble_eq_true rfl⟩  rfl hl.1 rfl (Nat.le_of_ble_eq_true rfl) dX10_fair_32 ⟨Nat.le_of_ble_eq_true rfl, Nat.le_of_ble_eq_true rfl⟩) hS (fun r8 u H locs hw hM hS => ?_)
        obtain ⟨rfl, xr8⟩ := hw
        have hM : Mem D A ad ns I L G H := hM
        refine lv_iconst (v := (1)) hx hb dX10_fair_35 (by decide) ?_
        refine lv_isub hx hb dX10_fair_36 ?_
        refine lv_topi (fun v9 ev9 => ?_)
        have tv9 := a_sub ev9 (by omega) (by omega)
        refine lv_i2l hx hb dX10_fair_37 rfl ?_
        refine lv_topl (fun v10 ev10 => ?_)
        have tv10 := q_i2l ev10
        refine m_calli (m_runS (As := [.long (v7), .long ((-1 : Int64)), .long (v10)]) (rest := []) hx hb hml hown hts hE hM hS hA ce_X10_in tb_1425 (V_X10_in l D A ad ns I L G (v7) ((-1 : Int64)) (v10) hI) rfl rfl ⟨Nat.le_of_ble_eq_true rfl, Nat.le_of_ble_eq_true rfl⟩  rfl hl.1 rfl (Nat.le_of_ble_eq_true rfl) dX10_fair_38 ⟨Nat.le_of_ble_eq_true rfl, Nat.le_of_ble_eq_true rfl⟩) hS (fun r11 u H locs hw hM hS => ?_)
        obtain ⟨rfl, xr11⟩ := hw
        have hM : Mem D A ad ns I L G H := hM
        have yr11 := bo01 xr11
        refine lv_if_ne (tgt := 46) hx hb dX10_fair_41 (by decide) (fun c12 => ?_) (fun c12 => ?_)
        · have hc12 := c12
          have q12 := xr11.t hc12
          refine lv_aload_n hx hb dX10_fair_46 rfl (lv_at hl 0 rfl) ?_
          refine lv_iload_n hx hb dX10_fair_47 rfl (lv_at hl 1 rfl) ?_
          refine lv_iconst (v := (-1)) hx hb dX10_fair_48 (by decide) ?_
          refine lv_iload_n hx hb dX10_fair_49 rfl (lv_at hl 2 rfl) ?_
          refine m_calli (m_runV (1000) (As := [.int (a0), .int ((-1 : Int32)), .int (a1)]) (rest := []) hx hb hml hown hts hE hM hS hA ce_X10_searches tb_1746 (V_X10_searches_t_z l D A ad ns I L G (a0) ((-1 : Int32)) (a1) hJ hI (by first | omega | decide) (by first | omega | decide) (by first | omega | decide)) rfl rfl ⟨Nat.le_of_ble_eq_true rfl, Nat.le_of_ble_eq_true rfl⟩ hJ.1 rfl rfl (by decide) rfl hl.1 rfl (Nat.le_of_ble_eq_true rfl) dX10_fair_50 ⟨Nat.le_of_ble_eq_true rfl, Nat.le_of_ble_eq_true rfl⟩) hS (fun r13 u H locs hw hM hS => ?_)
          obtain ⟨I14, L15, rfl, hI, hkI14, xr13⟩ := hw
          have hM : Mem D A ad ns I14 L15 G H := hM
          have hK := hK.trans hkI14 rfl
          have zI14 := xr13.2
          replace xr13 := xr13.1
          have zt16 : Z59 I I14 := Z59.rf.tr zI14
          refine lv_istore (lv' := [(4, .int (r13)), (0, .ref (ad (1000))), (1, .int (a0)), (2, .int (a1)), (3, .int (a2))]) hx hb dX10_fair_53 hl (by decide) rfl (fun ls hl => ?_)
          refine lv_iload_n hx hb dX10_fair_55 rfl (lv_at hl 4 rfl) ?_
          refine lv_iconst (v := (-1)) hx hb dX10_fair_56 (by decide) ?_
          refine lv_icmp_ne (tgt := 65) hx hb dX10_fair_57 (by decide) (fun c17 => ?_) (fun c17 => ?_)
          · have hc17 := c17
            have q17 := q_ne hc17
            refine lv_aload_n hx hb dX10_fair_65 rfl (lv_at hl 1 rfl) ?_
            refine m_getr (1000) 72 (1072) hx hb hts hown hE oc10 hM hJ.1 rfl (by decide) rfl (hJ.2 72 (by decide)).2 (by decide) tb_1249 dX10_fair_66 ?_
            refine lv_iload_n hx hb dX10_fair_69 rfl (lv_at hl 4 rfl) ?_
            refine m_iald (1072) hx hb hE hM (hJ.2 72 (by decide)).1 rfl (vp_in_iff.mpr (by omega)) dX10_fair_70 ?_
            exact m_iret hx hb hr hlocks hM hS (Nat.le_of_ble_eq_true rfl) (Nat.le_of_ble_eq_true rfl) ⟨_, _, rfl, hI, hK, ⟨(EqV.tr EqV.rf xr13), zt16⟩⟩ dX10_fair_71
          · have hc17 := c17
            have q17 := q_eq hc17
            refine lv_iload hx hb dX10_fair_60 (lv_at hl 0 rfl) ?_
            refine lv_goto (tgt := 71) hx hb dX10_fair_62 (by decide) ?_
            exact m_iret hx hb hr hlocks hM hS (Nat.le_of_ble_eq_true rfl) (Nat.le_of_ble_eq_true rfl) ⟨_, _, rfl, hI, hK, ⟨(EqV.tr EqV.rf xr13), zt16⟩⟩ dX10_fair_71
        · have hc12 := c12
          have q12 := xr11.f hc12
          refine lv_iconst (v := (-1)) hx hb dX10_fair_44 (by decide) ?_
          exact m_iret hx hb hr hlocks hM hS (Nat.le_of_ble_eq_true rfl) (Nat.le_of_ble_eq_true rfl) ⟨_, _, rfl, hI, hK, ⟨EqV.rf, Z59.rf⟩⟩ dX10_fair_45
set_option maxHeartbeats 4000000 in
set_option maxRecDepth 20000 in
theorem V_X10_mends_t_z (l : Launch) (D : va_G) (A : Nat → Prop) (ad : Nat → Nat) (ns : List Nat) (I : MI) (L : ML) (G : MG) (a0 : Int32) (a1 : Int32) (a2 : Int32) (hJ : SGM ns G) (hI : INV I) : Met l yX10_mends (wd yX10_mends cX10_mends 5 (some .int)) ({ frames := 8, cells := 0, slots := 0, locals := 200 }) (va_Pc [.ref (ad (1000)), .int a0, .int a1, .int a2] (PM D A ad ns I L G)) (va_Qi (fun r u => ∃ I2 L2, u = (ad, ns, I2, L2, G) ∧ INV I2 ∧ Kp [(1009, 1010), (1015, 1016), (1045, 1051), (1058, 1059), (1061, 1063), (1066, 1068)] [(1000, 51), (1000, 52), (1000, 53), (1000, 54), (1000, 55), (1000, 56), (1000, 59), (1000, 63), (1073, 0), (1073, 1), (1073, 2), (1073, 3), (1073, 4)] I I2 ∧ ((KM I I2) ∧ Z59 I I2)) (BM D A) A) 0 0 A := by
  refine m_ofW (by decide) (Nat.le_of_ble_eq_true rfl) ?_
  intro p e s m below meth c ls args hC hE hM hA hS hl
  obtain ⟨hx, hb, hml, hown, hts, hr, hlocks, hin⟩ := hC
  have km2 : (-2 : Int32).toInt = -2 := by decide
  have km1 : (-1 : Int32).toInt = -1 := by decide
  have k0 : (0 : Int32).toInt = 0 := by decide
  have k1 : (1 : Int32).toInt = 1 := by decide
  have kl0 : (0 : Int64).toInt = 0 := by decide
  have kl4 : (4 : Int64).toInt = 4 := by decide
  have hK : Kp [(1009, 1010), (1015, 1016), (1045, 1051), (1058, 1059), (1061, 1063), (1066, 1068)] [(1000, 51), (1000, 52), (1000, 53), (1000, 54), (1000, 55), (1000, 56), (1000, 59), (1000, 63), (1073, 0), (1073, 1), (1073, 2), (1073, 3), (1073, 4)] I I := Kp.rf
  have hl : lv_has ls 5 [(0, .ref (ad (1000))), (1, .int (a0)), (2, .int (a1)), (3, .int (a2))] := hl
  refine lv_aload_n hx hb dX10_mends_0 rfl (lv_at hl 0 rfl) ?_
  refine lv_iload_n hx hb dX10_mends_1 rfl (lv_at hl 1 rfl) ?_
  refine m_calli (m_runV (1000) (As := [.int (a0)]) (rest := []) hx hb hml hown hts hE hM hS hA ce_X10_isBright tb_1698 (V_X10_isBright l D A ad ns I L G (a0) hJ hI) rfl rfl ⟨Nat.le_of_ble_eq_true rfl, Nat.le_of_ble_eq_true rfl⟩ hJ.1 rfl rfl (by decide) rfl hl.1 rfl (Nat.le_of_ble_eq_true rfl) dX10_mends_2 ⟨Nat.le_of_ble_eq_true rfl, Nat.le_of_ble_eq_true rfl⟩) hS (fun r1 u H locs hw hM hS => ?_)
  obtain ⟨rfl, xr1⟩ := hw
  have hM : Mem D A ad ns I L G H := hM
  refine lv_if_eq (tgt := 28) hx hb dX10_mends_5 (by decide) (fun c2 => ?_) (fun c2 => ?_)
  · have hc2 := c2
    have q2 := q_eq hc2
    refine lv_iconst (v := (-1)) hx hb dX10_mends_28 (by decide) ?_
    exact m_iret hx hb hr hlocks hM hS (Nat.le_of_ble_eq_true rfl) (Nat.le_of_ble_eq_true rfl) ⟨_, _, rfl, hI, hK, ⟨EqV.rf, Z59.rf⟩⟩ dX10_mends_29
  · have hc2 := c2
    have q2 := q_ne hc2
    refine lv_aload_n hx hb dX10_mends_8 rfl (lv_at hl 0 rfl) ?_
    refine lv_iload_n hx hb dX10_mends_9 rfl (lv_at hl 2 rfl) ?_
    refine m_calli (m_runV (1000) (As := [.int (a1)]) (rest := []) hx hb hml hown hts hE hM hS hA ce_X10_isMirror tb_1462 (V_X10_isMirror l D A ad ns I L G (a1) hJ hI) rfl rfl ⟨Nat.le_of_ble_eq_true rfl, Nat.le_of_ble_eq_true rfl⟩ hJ.1 rfl rfl (by decide) rfl hl.1 rfl (Nat.le_of_ble_eq_true rfl) dX10_mends_10 ⟨Nat.le_of_ble_eq_true rfl, Nat.le_of_ble_eq_true rfl⟩) hS (fun r3 u H locs hw hM hS => ?_)
    obtain ⟨rfl, xr3⟩ := hw
    have hM : Mem D A ad ns I L G H := hM
    have yr3 := bo01 xr3
    have g4 := hI.get 1001 8 (lo := 0) (hi := 24) rfl
    refine lv_if_eq (tgt := 28) hx hb dX10_mends_13 (by decide) (fun c5 => ?_) (fun c5 => ?_)
    · have hc5 := c5
      have q5 := xr3.f hc5
      refine lv_iconst (v := (-1)) hx hb dX10_mends_28 (by decide) ?_
      exact m_iret hx hb hr hlocks hM hS (Nat.le_of_ble_eq_true rfl) (Nat.le_of_ble_eq_true rfl) ⟨_, _, rfl, hI, hK, ⟨EqV.rf, Z59.rf⟩⟩ dX10_mends_29
    · have hc5 := c5
      have q5 := xr3.t hc5
      refine lv_iload_n hx hb dX10_mends_16 rfl (lv_at hl 3 rfl) ?_
      refine lv_i2l hx hb dX10_mends_17 rfl ?_
      refine lv_topl (fun v6 ev6 => ?_)
      have tv6 := q_i2l ev6
      refine lv_lconst (v := 0) hx hb dX10_mends_18 (by decide) ?_
      refine lv_ldc2 (v := (4)) hx hb hown (hts _ tb_1423) dX10_mends_19 ?_
      refine m_calli (m_runS (As := [.long (v6), .long (0), .long ((4 : Int64))]) (rest := []) hx hb hml hown hts hE hM hS hA ce_X10_in tb_1425 (V_X10_in l D A ad ns I L G (v6) (0) ((4 : Int64)) hI) rfl rfl ⟨Nat.le_of_ble_eq_true rfl, Nat.le_of_ble_eq_true rfl⟩  rfl hl.1 rfl (Nat.le_of_ble_eq_true rfl) dX10_mends_22 ⟨Nat.le_of_ble_eq_true rfl, Nat.le_of_ble_eq_true rfl⟩) hS (fun r7 u H locs hw hM hS => ?_)
      obtain ⟨rfl, xr7⟩ := hw
      have hM : Mem D A ad ns I L G H := hM
      have yr7 := bo01 xr7
      refine lv_if_ne (tgt := 30) hx hb dX10_mends_25 (by decide) (fun c8 => ?_) (fun c8 => ?_)
      · have hc8 := c8
        have q8 := xr7.t hc8
        refine lv_aload_n hx hb dX10_mends_30 rfl (lv_at hl 0 rfl) ?_
        refine lv_iload_n hx hb dX10_mends_31 rfl (lv_at hl 1 rfl) ?_
        refine m_callv (m_runV (1000) (As := [.int (a0)]) (rest := []) hx hb hml hown hts hE hM hS hA ce_X10_shines tb_1640 (V_X10_shines_z l D A ad ns I L G (a0) hJ hI (by first | omega | decide)) rfl rfl ⟨Nat.le_of_ble_eq_true rfl, Nat.le_of_ble_eq_true rfl⟩ hJ.1 rfl rfl (by decide) rfl hl.1 rfl (Nat.le_of_ble_eq_true rfl) dX10_mends_32 ⟨Nat.le_of_ble_eq_true rfl, Nat.le_of_ble_eq_true rfl⟩) hS (fun u H locs hw hM hS => ?_)
        obtain ⟨I9, L10, rfl, hI, hkI9, xI9⟩ := hw
        have hM : Mem D A ad ns I9 L10 G H := hM
        have hK := hK.trans hkI9 rfl
        have zI9 := xI9
        have zt11a : ZA I9 := zI9
        refine lv_aload_n hx hb dX10_mends_35 rfl (lv_at hl 0 rfl) ?_
        refine m_getr (1000) 50 (1050) hx hb hts hown hE oc10 hM hJ.1 rfl (by decide) rfl (hJ.2 50 (by decide)).2 (by decide) tb_1227 dX10_mends_36 ?_
        refine lv_aload_n hx hb dX10_mends_39 rfl (lv_at hl 0 rfl) ?_
        refine m_getr (1000) 66 (1066) hx hb hts hown hE oc10 hM hJ.1 rfl (by decide) rfl (hJ.2 66 (by decide)).2 (by decide) tb_1243 dX10_mends_40 ?_
        refine m_callv (m_runS (As := [.ref (ad (1050)), .ref (ad (1066))]) (rest := []) hx hb hml hown hts hE hM hS hA ce_X10_copy tb_1723 (V_X10_copy_1050_1066_t l D A ad ns I9 L10 G hJ hI) rfl rfl ⟨Nat.le_of_ble_eq_true rfl, Nat.le_of_ble_eq_true rfl⟩  rfl hl.1 rfl (Nat.le_of_ble_eq_true rfl) dX10_mends_43 ⟨Nat.le_of_ble_eq_true rfl, Nat.le_of_ble_eq_true rfl⟩) hS (fun u H locs hw hM hS => ?_)
        obtain ⟨I12, L13, rfl, hI, hkI12, xI12⟩ := hw
        have hM : Mem D A ad ns I12 L13 G H := hM
        have hK := hK.trans hkI12 rfl
        have zt14a : ZA I12 := zt11a.eq (hkI12.get 1000 59 rfl)
        refine lv_aload_n hx hb dX10_mends_46 rfl (lv_at hl 0 rfl) ?_
        refine m_getr (1000) 9 (1009) hx hb hts hown hE oc10 hM hJ.1 rfl (by decide) rfl (hJ.2 9 (by decide)).2 (by decide) tb_1186 dX10_mends_47 ?_
        refine lv_aload_n hx hb dX10_mends_50 rfl (lv_at hl 0 rfl) ?_
        refine m_getr (1000) 67 (1067) hx hb hts hown hE oc10 hM hJ.1 rfl (by decide) rfl (hJ.2 67 (by decide)).2 (by decide) tb_1244 dX10_mends_51 ?_
        refine m_callv (m_runS (As := [.ref (ad (1009)), .ref (ad (1067))]) (rest := []) hx hb hml hown hts hE hM hS hA ce_X10_copy tb_1723 (V_X10_copy_1009_1067_t l D A ad ns I12 L13 G hJ hI) rfl rfl ⟨Nat.le_of_ble_eq_true rfl, Nat.le_of_ble_eq_true rfl⟩  rfl hl.1 rfl (Nat.le_of_ble_eq_true rfl) dX10_mends_54 ⟨Nat.le_of_ble_eq_true rfl, Nat.le_of_ble_eq_true rfl⟩) hS (fun u H locs hw hM hS => ?_)
        obtain ⟨I15, L16, rfl, hI, hkI15, xI15⟩ := hw
        have hM : Mem D A ad ns I15 L16 G H := hM
        have hK := hK.trans hkI15 rfl
        have zt17a : ZA I15 := zt14a.eq (hkI15.get 1000 59 rfl)
        refine lv_aload_n hx hb dX10_mends_57 rfl (lv_at hl 0 rfl) ?_
        refine m_getr (1000) 15 (1015) hx hb hts hown hE oc10 hM hJ.1 rfl (by decide) rfl (hJ.2 15 (by decide)).2 (by decide) tb_1192 dX10_mends_58 ?_
        refine lv_iload_n hx hb dX10_mends_61 rfl (lv_at hl 2 rfl) ?_
        refine m_iald (1015) hx hb hE hM (hJ.2 15 (by decide)).1 rfl (vp_in_iff.mpr (by omega)) dX10_mends_62 ?_
        have z18 : I15 (1015) (a1).toNatClampNeg = I (1015) ((a1).toNatClampNeg) := (((congrFun (hkI15.getA (1015) rfl) ((a1).toNatClampNeg))).trans (congrFun (hkI12.getA (1015) rfl) ((a1).toNatClampNeg))).trans (congrFun (hkI9.getA (1015) rfl) ((a1).toNatClampNeg))
        rw [z18]
        have hwas : I (1015) ((a1).toNatClampNeg) = I 1015 (a1).toNatClampNeg := rfl
        refine lv_istore (lv' := [(4, .int (I (1015) ((a1).toNatClampNeg))), (0, .ref (ad (1000))), (1, .int (a0)), (2, .int (a1)), (3, .int (a2))]) hx hb dX10_mends_63 hl (by decide) rfl (fun ls hl => ?_)
        refine lv_aload_n hx hb dX10_mends_65 rfl (lv_at hl 1 rfl) ?_
        refine m_getr (1000) 15 (1015) hx hb hts hown hE oc10 hM hJ.1 rfl (by decide) rfl (hJ.2 15 (by decide)).2 (by decide) tb_1192 dX10_mends_66 ?_
        refine lv_iload_n hx hb dX10_mends_69 rfl (lv_at hl 3 rfl) ?_
        refine lv_iconst (v := (1)) hx hb dX10_mends_70 (by decide) ?_
        refine m_iast (1015) hx hb hE hM hS (hJ.2 15 (by decide)).1 rfl (vp_in_iff.mpr (by omega)) dX10_mends_71 (fun H locs I19 eI19 hM hS => ?_)
        subst eI19
        have hI := hI.putF (n := 1015) (k := ((a1).toNatClampNeg)) (v := 1) rfl
        have hK := hK.put (n := 1015) (k := ((a1).toNatClampNeg)) (v := 1) (by first | rfl | simp [inR])
        have zt20a : ZA (u2 I15 (1015) ((a1).toNatClampNeg) (1)) := zt17a.pt (fun z => absurd z.1 (by decide))
        refine lv_aload_n hx hb dX10_mends_72 rfl (lv_at hl 1 rfl) ?_
        refine lv_bipush (v := (-2)) hx hb dX10_mends_73 (by decide) ?_
        refine lv_bipush (v := (-2)) hx hb dX10_mends_75 (by decide) ?_
        refine lv_bipush (v := (-2)) hx hb dX10_mends_77 (by decide) ?_
        refine lv_bipush (v := (-2)) hx hb dX10_mends_79 (by decide) ?_
        refine lv_bipush (v := (-2)) hx hb dX10_mends_81 (by decide) ?_
        refine m_callv (m_runV (1000) (As := [.int ((-2 : Int32)), .int ((-2 : Int32)), .int ((-2 : Int32)), .int ((-2 : Int32)), .int ((-2 : Int32))]) (rest := []) hx hb hml hown hts hE hM hS hA ce_X10_isMended tb_1765 (V_X10_isMended l D A ad ns (u2 I15 (1015) ((a1).toNatClampNeg) (1)) L16 G ((-2 : Int32)) ((-2 : Int32)) ((-2 : Int32)) ((-2 : Int32)) ((-2 : Int32)) hJ hI) rfl rfl ⟨Nat.le_of_ble_eq_true rfl, Nat.le_of_ble_eq_true rfl⟩ hJ.1 rfl rfl (by decide) rfl hl.1 rfl (Nat.le_of_ble_eq_true rfl) dX10_mends_83 ⟨Nat.le_of_ble_eq_true rfl, Nat.le_of_ble_eq_true rfl⟩) hS (fun u H locs hw hM hS => ?_)
        obtain ⟨I21, L22, rfl, hI, hkI21⟩ := hw
        have hM : Mem D A ad ns I21 L22 G H := hM
        have hK := hK.trans hkI21 rfl
        have zt23a : ZA I21 := zt20a.eq (hkI21.get 1000 59 rfl)
        refine lv_aload_n hx hb dX10_mends_86 rfl (lv_at hl 1 rfl) ?_
        refine lv_iload_n hx hb dX10_mends_87 rfl (lv_at hl 2 rfl) ?_
        refine m_calli (m_runV (1000) (As := [.int (a0)]) (rest := []) hx hb hml hown hts hE hM hS hA ce_X10_isHalf tb_1769 (V_X10_isHalf_z l D A ad ns I21 L22 G (a0) hJ hI (by first | omega | decide)) rfl rfl ⟨Nat.le_of_ble_eq_true rfl, Nat.le_of_ble_eq_true rfl⟩ hJ.1 rfl rfl (by decide) rfl hl.1 rfl (Nat.le_of_ble_eq_true rfl) dX10_mends_88 ⟨Nat.le_of_ble_eq_true rfl, Nat.le_of_ble_eq_true rfl⟩) hS (fun r24 u H locs hw hM hS => ?_)
        obtain ⟨I25, L26, rfl, hI, hkI25, xr24⟩ := hw
        have hM : Mem D A ad ns I25 L26 G H := hM
        have hK := hK.trans hkI25 rfl
        have zI25 := xr24.2
        replace xr24 := xr24.1
        have zt27 : Z59 I I25 := (ZA.z zt23a).tr zI25
        refine lv_if_eq (tgt := 104) hx hb dX10_mends_91 (by decide) (fun c28 => ?_) (fun c28 => ?_)
        · have hc28 := c28
          have q28 := q_eq hc28
          refine lv_aload_n hx hb dX10_mends_104 rfl (lv_at hl 1 rfl) ?_
          refine lv_iload_n hx hb dX10_mends_105 rfl (lv_at hl 2 rfl) ?_
          refine m_calli (m_runV (1000) (As := [.int (a0)]) (rest := []) hx hb hml hown hts hE hM hS hA ce_X10_mendsOne tb_1773 (V_X10_mendsOne_z l D A ad ns I25 L26 G (a0) hJ hI (by first | omega | decide)) rfl rfl ⟨Nat.le_of_ble_eq_true rfl, Nat.le_of_ble_eq_true rfl⟩ hJ.1 rfl rfl (by decide) rfl hl.1 rfl (Nat.le_of_ble_eq_true rfl) dX10_mends_106 ⟨Nat.le_of_ble_eq_true rfl, Nat.le_of_ble_eq_true rfl⟩) hS (fun r29 u H locs hw hM hS => ?_)
          obtain ⟨I30, L31, rfl, hI, hkI30, xr29⟩ := hw
          have hM : Mem D A ad ns I30 L31 G H := hM
          have hK := hK.trans hkI30 rfl
          have zI30 := xr29.2
          replace xr29 := xr29.1
          have zt32 : Z59 I I30 := zt27.tr zI30
          refine lv_if_ne (tgt := 118) hx hb dX10_mends_109 (by decide) (fun c33 => ?_) (fun c33 => ?_)
          · have hc33 := c33
            have q33 := q_ne hc33
            refine lv_aload_n hx hb dX10_mends_118 rfl (lv_at hl 1 rfl) ?_
            refine m_getr (1000) 15 (1015) hx hb hts hown hE oc10 hM hJ.1 rfl (by decide) rfl (hJ.2 15 (by decide)).2 (by decide) tb_1192 dX10_mends_119 ?_
            refine lv_iload_n hx hb dX10_mends_122 rfl (lv_at hl 3 rfl) ?_
            refine lv_iload hx hb dX10_mends_123 (lv_at hl 0 rfl) ?_
            refine m_iast (1015) hx hb hE hM hS (hJ.2 15 (by decide)).1 rfl (vp_in_iff.mpr (by omega)) dX10_mends_125 (fun H locs I34 eI34 hM hS => ?_)
            subst eI34
            have hI := hI.putF (n := 1015) (k := ((a1).toNatClampNeg)) (v := I (1015) ((a1).toNatClampNeg)) rfl
            have hK := hK.put (n := 1015) (k := ((a1).toNatClampNeg)) (v := I (1015) ((a1).toNatClampNeg)) (by first | rfl | simp [inR])
            have zt35 : Z59 I (u2 I30 (1015) ((a1).toNatClampNeg) (I (1015) ((a1).toNatClampNeg))) := zt32.pt (fun z => absurd z.1 (by decide))
            refine lv_aload_n hx hb dX10_mends_126 rfl (lv_at hl 1 rfl) ?_
            refine m_getr (1000) 67 (1067) hx hb hts hown hE oc10 hM hJ.1 rfl (by decide) rfl (hJ.2 67 (by decide)).2 (by decide) tb_1244 dX10_mends_127 ?_
            refine lv_aload_n hx hb dX10_mends_130 rfl (lv_at hl 1 rfl) ?_
            refine m_getr (1000) 9 (1009) hx hb hts hown hE oc10 hM hJ.1 rfl (by decide) rfl (hJ.2 9 (by decide)).2 (by decide) tb_1186 dX10_mends_131 ?_
            refine m_callv (m_runS (As := [.ref (ad (1067)), .ref (ad (1009))]) (rest := []) hx hb hml hown hts hE hM hS hA ce_X10_copy tb_1723 (V_X10_copy_1067_1009_t l D A ad ns (u2 I30 (1015) ((a1).toNatClampNeg) (I (1015) ((a1).toNatClampNeg))) L31 G hJ hI) rfl rfl ⟨Nat.le_of_ble_eq_true rfl, Nat.le_of_ble_eq_true rfl⟩  rfl hl.1 rfl (Nat.le_of_ble_eq_true rfl) dX10_mends_134 ⟨Nat.le_of_ble_eq_true rfl, Nat.le_of_ble_eq_true rfl⟩) hS (fun u H locs hw hM hS => ?_)
            obtain ⟨I36, L37, rfl, hI, hkI36, xI36⟩ := hw
            have hM : Mem D A ad ns I36 L37 G H := hM
            have hK := hK.trans hkI36 rfl
            have zt38 : Z59 I I36 := zt35.eq (hkI36.get 1000 59 rfl)
            refine lv_aload_n hx hb dX10_mends_137 rfl (lv_at hl 1 rfl) ?_
            refine m_getr (1000) 73 (1073) hx hb hts hown hE oc10 hM hJ.1 rfl (by decide) rfl (hJ.2 73 (by decide)).2 (by decide) tb_1250 dX10_mends_138 ?_
            refine lv_iload_n hx hb dX10_mends_141 rfl (lv_at hl 4 rfl) ?_
            refine m_iald (1073) hx hb hE hM (hJ.2 73 (by decide)).1 rfl (vp_in_iff.mpr (by omega)) dX10_mends_142 ?_
            have z39 : I36 (1073) (a2).toNatClampNeg = I30 (1073) ((a2).toNatClampNeg) := ((congrFun (hkI36.getA (1073) rfl) ((a2).toNatClampNeg))).trans (show (u2 I30 (1015) ((a1).toNatClampNeg) (I (1015) ((a1).toNatClampNeg))) (1073) ((a2).toNatClampNeg) = I30 (1073) ((a2).toNatClampNeg) from by simp [u2_v])
            rw [z39]
            exact m_iret hx hb hr hlocks hM hS (Nat.le_of_ble_eq_true rfl) (Nat.le_of_ble_eq_true rfl) ⟨_, _, rfl, hI, hK, ⟨(KM.of [1009, 1015] hK rfl (fun n hn k hk => by simp only [List.mem_cons, List.not_mem_nil, or_false] at hn; rcases hn with rfl | rfl; exact (fun k hk => (congrFun (rfl) k).trans ((xI36 k hk).trans ((congrFun ((((((show (u2 I30 (1015) ((a1).toNatClampNeg) (I (1015) ((a1).toNatClampNeg))) 1067 = I30 1067 from by funext zz; simp [u2_v])).trans (hkI30.getA 1067 rfl)).trans (hkI25.getA 1067 rfl)).trans (hkI21.getA 1067 rfl)).trans (show (u2 I15 (1015) ((a1).toNatClampNeg) (1)) 1067 = I15 1067 from by funext zz; simp [u2_v])) k).trans ((xI15 k hk).trans (congrFun (((hkI12.getA 1009 rfl)).trans (hkI9.getA 1009 rfl)) k))))) k hk; exact (show ∀ q : Nat, q < 24 → I36 1015 q = I 1015 q from fun q _ => (congrFun ((hkI36.getA 1015 rfl)) q).trans (by rw [u2_v]; by_cases hq : q = (a1).toNatClampNeg; (rw [if_pos ⟨rfl, hq⟩, hq] <;> exact hwas); rw [if_neg (fun z => hq z.2)]; exact (congrFun ((((hkI30.getA 1015 rfl)).trans (hkI25.getA 1015 rfl)).trans (hkI21.getA 1015 rfl)) q).trans (by rw [u2_v, if_neg (fun z => hq z.2)]; exact congrFun ((((hkI15.getA 1015 rfl)).trans (hkI12.getA 1015 rfl)).trans (hkI9.getA 1015 rfl)) q))) k hk)), zt38⟩⟩ dX10_mends_143
          · have hc33 := c33
            have q33 := q_eq hc33
            refine lv_aload_n hx hb dX10_mends_112 rfl (lv_at hl 1 rfl) ?_
            refine lv_iload_n hx hb dX10_mends_113 rfl (lv_at hl 2 rfl) ?_
            refine m_calli (m_runV (1000) (As := [.int (a0)]) (rest := []) hx hb hml hown hts hE hM hS hA ce_X10_mendsTwo tb_1777 (V_X10_mendsTwo_z l D A ad ns I30 L31 G (a0) hJ hI (by first | omega | decide)) rfl rfl ⟨Nat.le_of_ble_eq_true rfl, Nat.le_of_ble_eq_true rfl⟩ hJ.1 rfl rfl (by decide) rfl hl.1 rfl (Nat.le_of_ble_eq_true rfl) dX10_mends_114 ⟨Nat.le_of_ble_eq_true rfl, Nat.le_of_ble_eq_true rfl⟩) hS (fun r40 u H locs hw hM hS => ?_)
            obtain ⟨I41, L42, rfl, hI, hkI41, xr40⟩ := hw
            have hM : Mem D A ad ns I41 L42 G H := hM
            have hK := hK.trans hkI41 rfl
            have zI41 := xr40.2
            replace xr40 := xr40.1
            have zt43 : Z59 I I41 := zt32.tr zI41
            refine lv_pop hx hb dX10_mends_117 rfl ?_
            refine lv_aload_n hx hb dX10_mends_118 rfl (lv_at hl 1 rfl) ?_
            refine m_getr (1000) 15 (1015) hx hb hts hown hE oc10 hM hJ.1 rfl (by decide) rfl (hJ.2 15 (by decide)).2 (by decide) tb_1192 dX10_mends_119 ?_
            refine lv_iload_n hx hb dX10_mends_122 rfl (lv_at hl 3 rfl) ?_
            refine lv_iload hx hb dX10_mends_123 (lv_at hl 0 rfl) ?_
            refine m_iast (1015) hx hb hE hM hS (hJ.2 15 (by decide)).1 rfl (vp_in_iff.mpr (by omega)) dX10_mends_125 (fun H locs I44 eI44 hM hS => ?_)
            subst eI44
            have hI := hI.putF (n := 1015) (k := ((a1).toNatClampNeg)) (v := I (1015) ((a1).toNatClampNeg)) rfl
            have hK := hK.put (n := 1015) (k := ((a1).toNatClampNeg)) (v := I (1015) ((a1).toNatClampNeg)) (by first | rfl | simp [inR])
            have zt45 : Z59 I (u2 I41 (1015) ((a1).toNatClampNeg) (I (1015) ((a1).toNatClampNeg))) := zt43.pt (fun z => absurd z.1 (by decide))
            refine lv_aload_n hx hb dX10_mends_126 rfl (lv_at hl 1 rfl) ?_
            refine m_getr (1000) 67 (1067) hx hb hts hown hE oc10 hM hJ.1 rfl (by decide) rfl (hJ.2 67 (by decide)).2 (by decide) tb_1244 dX10_mends_127 ?_
            refine lv_aload_n hx hb dX10_mends_130 rfl (lv_at hl 1 rfl) ?_
            refine m_getr (1000) 9 (1009) hx hb hts hown hE oc10 hM hJ.1 rfl (by decide) rfl (hJ.2 9 (by decide)).2 (by decide) tb_1186 dX10_mends_131 ?_
            refine m_callv (m_runS (As := [.ref (ad (1067)), .ref (ad (1009))]) (rest := []) hx hb hml hown hts hE hM hS hA ce_X10_copy tb_1723 (V_X10_copy_1067_1009_t l D A ad ns (u2 I41 (1015) ((a1).toNatClampNeg) (I (1015) ((a1).toNatClampNeg))) L42 G hJ hI) rfl rfl ⟨Nat.le_of_ble_eq_true rfl, Nat.le_of_ble_eq_true rfl⟩  rfl hl.1 rfl (Nat.le_of_ble_eq_true rfl) dX10_mends_134 ⟨Nat.le_of_ble_eq_true rfl, Nat.le_of_ble_eq_true rfl⟩) hS (fun u H locs hw hM hS => ?_)
            obtain ⟨I46, L47, rfl, hI, hkI46, xI46⟩ := hw
            have hM : Mem D A ad ns I46 L47 G H := hM
            have hK := hK.trans hkI46 rfl
            have zt48 : Z59 I I46 := zt45.eq (hkI46.get 1000 59 rfl)
            refine lv_aload_n hx hb dX10_mends_137 rfl (lv_at hl 1 rfl) ?_
            refine m_getr (1000) 73 (1073) hx hb hts hown hE oc10 hM hJ.1 rfl (by decide) rfl (hJ.2 73 (by decide)).2 (by decide) tb_1250 dX10_mends_138 ?_
            refine lv_iload_n hx hb dX10_mends_141 rfl (lv_at hl 4 rfl) ?_
            refine m_iald (1073) hx hb hE hM (hJ.2 73 (by decide)).1 rfl (vp_in_iff.mpr (by omega)) dX10_mends_142 ?_
            have z49 : I46 (1073) (a2).toNatClampNeg = I41 (1073) ((a2).toNatClampNeg) := ((congrFun (hkI46.getA (1073) rfl) ((a2).toNatClampNeg))).trans (show (u2 I41 (1015) ((a1).toNatClampNeg) (I (1015) ((a1).toNatClampNeg))) (1073) ((a2).toNatClampNeg) = I41 (1073) ((a2).toNatClampNeg) from by simp [u2_v])
            rw [z49]
            exact m_iret hx hb hr hlocks hM hS (Nat.le_of_ble_eq_true rfl) (Nat.le_of_ble_eq_true rfl) ⟨_, _, rfl, hI, hK, ⟨(KM.of [1009, 1015] hK rfl (fun n hn k hk => by simp only [List.mem_cons, List.not_mem_nil, or_false] at hn; rcases hn with rfl | rfl; exact (fun k hk => (congrFun (rfl) k).trans ((xI46 k hk).trans ((congrFun (((((((show (u2 I41 (1015) ((a1).toNatClampNeg) (I (1015) ((a1).toNatClampNeg))) 1067 = I41 1067 from by funext zz; simp [u2_v])).trans (hkI41.getA 1067 rfl)).trans (hkI30.getA 1067 rfl)).trans (hkI25.getA 1067 rfl)).trans (hkI21.getA 1067 rfl)).trans (show (u2 I15 (1015) ((a1).toNatClampNeg) (1)) 1067 = I15 1067 from by funext zz; simp [u2_v])) k).trans ((xI15 k hk).trans (congrFun (((hkI12.getA 1009 rfl)).trans (hkI9.getA 1009 rfl)) k))))) k hk; exact (show ∀ q : Nat, q < 24 → I46 1015 q = I 1015 q from fun q _ => (congrFun ((hkI46.getA 1015 rfl)) q).trans (by rw [u2_v]; by_cases hq : q = (a1).toNatClampNeg; (rw [if_pos ⟨rfl, hq⟩, hq] <;> exact hwas); rw [if_neg (fun z => hq z.2)]; exact (congrFun (((((hkI41.getA 1015 rfl)).trans (hkI30.getA 1015 rfl)).trans (hkI25.getA 1015 rfl)).trans (hkI21.getA 1015 rfl)) q).trans (by rw [u2_v, if_neg (fun z => hq z.2)]; exact congrFun ((((hkI15.getA 1015 rfl)).trans (hkI12.getA 1015 rfl)).trans (hkI9.getA 1015 rfl)) q))) k hk)), zt48⟩⟩ dX10_mends_143
        · have hc28 := c28
          have q28 := q_ne hc28
          refine lv_aload_n hx hb dX10_mends_94 rfl (lv_at hl 1 rfl) ?_
          refine m_getr (1000) 73 (1073) hx hb hts hown hE oc10 hM hJ.1 rfl (by decide) rfl (hJ.2 73 (by decide)).2 (by decide) tb_1250 dX10_mends_95 ?_
          refine lv_iconst (v := (0)) hx hb dX10_mends_98 (by decide) ?_
          refine lv_iconst (v := (0)) hx hb dX10_mends_99 (by decide) ?_
          refine m_iast (1073) hx hb hE hM hS (hJ.2 73 (by decide)).1 rfl (vp_in_iff.mpr (by decide)) dX10_mends_100 (fun H locs I50 eI50 hM hS => ?_)
          rw [show (0 : Int32).toNatClampNeg = 0 from rfl] at eI50
          subst eI50
          have hI := hI.putF (n := 1073) (k := 0) (v := 0) rfl
          have hK := hK.put (n := 1073) (k := 0) (v := 0) (by first | rfl | simp [inR])
          have zt51 : Z59 I (u2 I25 (1073) 0 (0)) := zt27.pt (by decide)
          refine lv_goto (tgt := 118) hx hb dX10_mends_101 (by decide) ?_
          refine lv_aload_n hx hb dX10_mends_118 rfl (lv_at hl 1 rfl) ?_
          refine m_getr (1000) 15 (1015) hx hb hts hown hE oc10 hM hJ.1 rfl (by decide) rfl (hJ.2 15 (by decide)).2 (by decide) tb_1192 dX10_mends_119 ?_
          refine lv_iload_n hx hb dX10_mends_122 rfl (lv_at hl 3 rfl) ?_
          refine lv_iload hx hb dX10_mends_123 (lv_at hl 0 rfl) ?_
          refine m_iast (1015) hx hb hE hM hS (hJ.2 15 (by decide)).1 rfl (vp_in_iff.mpr (by omega)) dX10_mends_125 (fun H locs I52 eI52 hM hS => ?_)
          subst eI52
          have hI := hI.putF (n := 1015) (k := ((a1).toNatClampNeg)) (v := I (1015) ((a1).toNatClampNeg)) rfl
          have hK := hK.put (n := 1015) (k := ((a1).toNatClampNeg)) (v := I (1015) ((a1).toNatClampNeg)) (by first | rfl | simp [inR])
          have zt53 : Z59 I (u2 (u2 I25 (1073) 0 (0)) (1015) ((a1).toNatClampNeg) (I (1015) ((a1).toNatClampNeg))) := zt51.pt (fun z => absurd z.1 (by decide))
          refine lv_aload_n hx hb dX10_mends_126 rfl (lv_at hl 1 rfl) ?_
          refine m_getr (1000) 67 (1067) hx hb hts hown hE oc10 hM hJ.1 rfl (by decide) rfl (hJ.2 67 (by decide)).2 (by decide) tb_1244 dX10_mends_127 ?_
          refine lv_aload_n hx hb dX10_mends_130 rfl (lv_at hl 1 rfl) ?_
          refine m_getr (1000) 9 (1009) hx hb hts hown hE oc10 hM hJ.1 rfl (by decide) rfl (hJ.2 9 (by decide)).2 (by decide) tb_1186 dX10_mends_131 ?_
          refine m_callv (m_runS (As := [.ref (ad (1067)), .ref (ad (1009))]) (rest := []) hx hb hml hown hts hE hM hS hA ce_X10_copy tb_1723 (V_X10_copy_1067_1009_t l D A ad ns (u2 (u2 I25 (1073) 0 (0)) (1015) ((a1).toNatClampNeg) (I (1015) ((a1).toNatClampNeg))) L26 G hJ hI) rfl rfl ⟨Nat.le_of_ble_eq_true rfl, Nat.le_of_ble_eq_true rfl⟩  rfl hl.1 rfl (Nat.le_of_ble_eq_true rfl) dX10_mends_134 ⟨Nat.le_of_ble_eq_true rfl, Nat.le_of_ble_eq_true rfl⟩) hS (fun u H locs hw hM hS => ?_)
          obtain ⟨I54, L55, rfl, hI, hkI54, xI54⟩ := hw
          have hM : Mem D A ad ns I54 L55 G H := hM
          have hK := hK.trans hkI54 rfl
          have zt56 : Z59 I I54 := zt53.eq (hkI54.get 1000 59 rfl)
          refine lv_aload_n hx hb dX10_mends_137 rfl (lv_at hl 1 rfl) ?_
          refine m_getr (1000) 73 (1073) hx hb hts hown hE oc10 hM hJ.1 rfl (by decide) rfl (hJ.2 73 (by decide)).2 (by decide) tb_1250 dX10_mends_138 ?_
          refine lv_iload_n hx hb dX10_mends_141 rfl (lv_at hl 4 rfl) ?_
          refine m_iald (1073) hx hb hE hM (hJ.2 73 (by decide)).1 rfl (vp_in_iff.mpr (by omega)) dX10_mends_142 ?_
          have z57 : I54 (1073) (a2).toNatClampNeg = (u2 I25 (1073) 0 (0)) (1073) ((a2).toNatClampNeg) := ((congrFun (hkI54.getA (1073) rfl) ((a2).toNatClampNeg))).trans (show (u2 (u2 I25 (1073) 0 (0)) (1015) ((a1).toNatClampNeg) (I (1015) ((a1).toNatClampNeg))) (1073) ((a2).toNatClampNeg) = (u2 I25 (1073) 0 (0)) (1073) ((a2).toNatClampNeg) from by simp [u2_v])
          rw [z57]
          exact m_iret hx hb hr hlocks hM hS (Nat.le_of_ble_eq_true rfl) (Nat.le_of_ble_eq_true rfl) ⟨_, _, rfl, hI, hK, ⟨(KM.of [1009, 1015] hK rfl (fun n hn k hk => by simp only [List.mem_cons, List.not_mem_nil, or_false] at hn; rcases hn with rfl | rfl; exact (fun k hk => (congrFun (rfl) k).trans ((xI54 k hk).trans ((congrFun (((((show (u2 (u2 I25 (1073) 0 (0)) (1015) ((a1).toNatClampNeg) (I (1015) ((a1).toNatClampNeg))) 1067 = I25 1067 from by funext zz; simp [u2_v])).trans (hkI25.getA 1067 rfl)).trans (hkI21.getA 1067 rfl)).trans (show (u2 I15 (1015) ((a1).toNatClampNeg) (1)) 1067 = I15 1067 from by funext zz; simp [u2_v])) k).trans ((xI15 k hk).trans (congrFun (((hkI12.getA 1009 rfl)).trans (hkI9.getA 1009 rfl)) k))))) k hk; exact (show ∀ q : Nat, q < 24 → I54 1015 q = I 1015 q from fun q _ => (congrFun ((hkI54.getA 1015 rfl)) q).trans (by rw [u2_v]; by_cases hq : q = (a1).toNatClampNeg; (rw [if_pos ⟨rfl, hq⟩, hq] <;> exact hwas); rw [if_neg (fun z => hq z.2)]; exact (congrFun ((((show (u2 I25 (1073) 0 (0)) 1015 = I25 1015 from by funext zz; simp [u2_v])).trans (hkI25.getA 1015 rfl)).trans (hkI21.getA 1015 rfl)) q).trans (by rw [u2_v, if_neg (fun z => hq z.2)]; exact congrFun ((((hkI15.getA 1015 rfl)).trans (hkI12.getA 1015 rfl)).trans (hkI9.getA 1015 rfl)) q))) k hk)), zt56⟩⟩ dX10_mends_143
      · have hc8 := c8
        have q8 := xr7.f hc8
        refine lv_iconst (v := (-1)) hx hb dX10_mends_28 (by decide) ?_
        exact m_iret hx hb hr hlocks hM hS (Nat.le_of_ble_eq_true rfl) (Nat.le_of_ble_eq_true rfl) ⟨_, _, rfl, hI, hK, ⟨EqV.rf, Z59.rf⟩⟩ dX10_mends_29
