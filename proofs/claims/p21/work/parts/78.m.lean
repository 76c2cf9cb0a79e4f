set_option maxHeartbeats 4000000 in
set_option maxRecDepth 20000 in
theorem V_X10_test_h (l : Launch) (D : va_G) (A : Nat → Prop) (ad : Nat → Nat) (ns : List Nat) (I : MI) (L : ML) (G : MG) (hJ : SGM ns G) (hI : INV I) (hp : (I 1000 25).toInt ≤ 400) (hPI : Imp ((I 1000 26).toInt = 0) (0 ≤ (I 1000 31).toInt ∧ (I 1000 31).toInt ≤ 60 ∧ 3 * (I 1000 29).toInt ≤ 6 * (I 1000 31).toInt + (I 1000 25).toInt)) (hbt : BTM I) : Met l yX10_test (wd yX10_test cX10_test 5 none) ({ frames := 10, cells := 0, slots := 0, locals := 215 }) (va_Pc [.ref (ad (1000))] (PM D A ad ns I L G)) (va_Qv (fun u => ∃ I2 L2, u = (ad, ns, I2, L2, G) ∧ INV I2 ∧ Kp [(1035, 1037), (1042, 1043)] [(1000, 25), (1000, 26), (1000, 29), (1000, 30), (1000, 31), (1000, 32)] I I2 ∧ ((∃ w on, TSI (TM I) I I2 w on ∧ Imp ((I2 1000 26).toInt = 0) (on = 0)) ∧ (I 1000 25).toInt ≤ (I2 1000 25).toInt ∧ (I2 1000 25).toInt ≤ 401 ∧ (I 1000 29).toInt ≤ (I2 1000 29).toInt ∧ Imp ((I2 1000 26).toInt = 0) ((I 1000 26).toInt = 0 ∧ (I2 1000 25).toInt ≤ 400 ∧ 0 ≤ (I2 1000 31).toInt ∧ (I2 1000 31).toInt ≤ 60 ∧ 3 * (I2 1000 29).toInt ≤ 6 * (I2 1000 31).toInt + (I2 1000 25).toInt) ∧ ∃ d, CT I I2 0 d)) (BM D A) A) 0 0 A := by
  refine m_ofW (by decide) (Nat.le_of_ble_eq_true rfl) ?_
  intro p e s m below meth c ls args hC hE hM hA hS hl
  obtain ⟨hx, hb, hml, hown, hts, hr, hlocks, hin⟩ := hC
  have k0 : (0 : Int32).toInt = 0 := by decide
  have k1 : (1 : Int32).toInt = 1 := by decide
  have k2 : (2 : Int32).toInt = 2 := by decide
  have k3 : (3 : Int32).toInt = 3 := by decide
  have k9 : (9 : Int32).toInt = 9 := by decide
  have k10 : (10 : Int32).toInt = 10 := by decide
  have k11 : (11 : Int32).toInt = 11 := by decide
  have k12 : (12 : Int32).toInt = 12 := by decide
  have k93 : (93 : Int32).toInt = 93 := by decide
  obtain ⟨dd, hdd⟩ : ∃ z : Nat, z = 0 := ⟨_, rfl⟩
  have hC : CT I I 0 dd := by rw [hdd]; exact CT.rf I 0
  have hI0 := hI
  have hT := TM_ok hI
  have k1 : (1 : Int32).toInt = 1 := by decide
  have hK : Kp [(1035, 1037), (1042, 1043)] [(1000, 25), (1000, 26), (1000, 29), (1000, 30), (1000, 31), (1000, 32)] I I := Kp.rf
  have hl : lv_has ls 5 [(0, .ref (ad (1000)))] := hl
  refine lv_aload_n hx hb dX10_test_0 rfl (lv_at hl 0 rfl) ?_
  refine lv_iconst (v := (0)) hx hb dX10_test_1 (by decide) ?_
  refine m_puti (1000) 32 hx hb hts hown hE oc10 hM hS hJ.1 rfl (by decide) rfl rfl rfl rfl tb_1209 dX10_test_2 (fun H locs I1 eI1 hM hS => ?_)
  subst eI1
  have hI := hI.put (n := 1000) (k := 32) (v := 0) (lo := 0) (hi := 402) rfl (by first | omega | decide)
  have hK := hK.put (n := 1000) (k := 32) (v := 0) (by first | rfl | simp [inR])
  have hn0 := NS_0 (I := (u2 I (1000) 32 (0))) (by rw [u2_self]; decide)
  refine lv_iconst (v := (1)) hx hb dX10_test_5 (by decide) ?_
  refine lv_istore_n (lv' := [(1, .int (1)), (0, .ref (ad (1000)))]) hx hb dX10_test_6 rfl hl (by decide) rfl (fun ls hl => ?_)
  refine lv_iconst (v := (1)) hx hb dX10_test_7 (by decide) ?_
  refine lv_istore_n (lv' := [(2, .int (1)), (1, .int (1)), (0, .ref (ad (1000)))]) hx hb dX10_test_8 rfl hl (by decide) rfl (fun ls hl => ?_)
  have pw2 : ((u2 I (1000) 32 (0)) (1000) 24).toInt = (I (1000) 24 : Int32).toInt := congrArg Int32.toInt ((show (u2 I (1000) 32 (0)) (1000) 24 = I (1000) 24 from by simp [u2_v]))
  have pw3 : ((u2 I (1000) 32 (0)) (1000) 25).toInt = (I (1000) 25 : Int32).toInt := congrArg Int32.toInt ((show (u2 I (1000) 32 (0)) (1000) 25 = I (1000) 25 from by simp [u2_v]))
  have pw4 : ((u2 I (1000) 32 (0)) (1000) 26).toInt = (I (1000) 26 : Int32).toInt := congrArg Int32.toInt ((show (u2 I (1000) 32 (0)) (1000) 26 = I (1000) 26 from by simp [u2_v]))
  have pw5 : ((u2 I (1000) 32 (0)) (1000) 27).toInt = (I (1000) 27 : Int32).toInt := congrArg Int32.toInt ((show (u2 I (1000) 32 (0)) (1000) 27 = I (1000) 27 from by simp [u2_v]))
  have pw6 : ((u2 I (1000) 32 (0)) (1000) 29).toInt = (I (1000) 29 : Int32).toInt := congrArg Int32.toInt ((show (u2 I (1000) 32 (0)) (1000) 29 = I (1000) 29 from by simp [u2_v]))
  have pw7 : ((u2 I (1000) 32 (0)) (1000) 31).toInt = (I (1000) 31 : Int32).toInt := congrArg Int32.toInt ((show (u2 I (1000) 32 (0)) (1000) 31 = I (1000) 31 from by simp [u2_v]))
  have pw8 : ((u2 I (1000) 32 (0)) (1000) 32).toInt = (0 : Int32).toInt := congrArg Int32.toInt ((show (u2 I (1000) 32 (0)) (1000) 32 = 0 from by simp [u2_v]))
  replace hC := CT.link (I2 := (u2 I (1000) 32 (0))) hC ((show (u2 I (1000) 32 (0)) 1035 = I 1035 from by funext zz; simp [u2_v])) ((show (u2 I (1000) 32 (0)) 1036 = I 1036 from by funext zz; simp [u2_v])) (by omega) (fun hz => by have w0 := hPI (by omega); omega)
  have pw9 : ((u2 I (1000) 32 (0)) (1000) 30).toInt = (I (1000) 30 : Int32).toInt := congrArg Int32.toInt ((show (u2 I (1000) 32 (0)) (1000) 30 = I (1000) 30 from by simp [u2_v]))
  have gP9 := hI.get 1000 25 (lo := 0) (hi := 100000) rfl
  have gO9 := hI.get 1000 32 (lo := 0) (hi := 402) rfl
  have loop9 : ∀ (n : Nat) (x2_9 : Int32) (x1_9 : Int32) (Ia9 : MI) (La9 : ML) (H : Heap) (locs : List Loc) (ls : Array Slot), INV Ia9 → Kp [(1035, 1037), (1042, 1043)] [(1000, 25), (1000, 26), (1000, 29), (1000, 30), (1000, 31), (1000, 32)] I Ia9 → (0 ≤ x2_9.toInt ∧ x2_9.toInt ≤ 1) → (0 ≤ x1_9.toInt ∧ x1_9.toInt ≤ 1) → ((I 1000 25).toInt ≤ (Ia9 1000 25).toInt ∧ (Ia9 1000 25).toInt ≤ 401 ∧ (I 1000 29).toInt ≤ (Ia9 1000 29).toInt ∧ (Ia9 1000 32).toInt ≤ (Ia9 1000 25).toInt) → (Imp ((Ia9 1000 26).toInt = 0) ((I 1000 26).toInt = 0 ∧ (Ia9 1000 25).toInt ≤ 400 ∧ 0 ≤ (Ia9 1000 31).toInt ∧ (Ia9 1000 31).toInt ≤ 60 ∧ 3 * (Ia9 1000 29).toInt + 3 * (NS Ia9 : Int) + 9 * (1 - (x1_9).toInt) ≤ 6 * (Ia9 1000 31).toInt + (Ia9 1000 25).toInt)) → (CT I Ia9 0 (NB Ia9 + (1 - (x1_9).toInt).toNat)) → (TSI (TM I) I Ia9 (x1_9).toInt (x2_9).toInt) → (3 * (401 - (Ia9 1000 25).toInt) + x1_9.toInt + x2_9.toInt).toNat < n → Mem D A ad ns Ia9 La9 G H → va_S A s.heap H locs → lv_has ls 5 [(2, .int (x2_9)), (1, .int (x1_9)), (0, .ref (ad (1000)))] → W p l e ({ frames := 10, cells := 0, slots := 0, locals := 215 } : Room) s m args below meth c H locs 0 0 (MQ below (va_Qv (fun u => ∃ I2 L2, u = (ad, ns, I2, L2, G) ∧ INV I2 ∧ Kp [(1035, 1037), (1042, 1043)] [(1000, 25), (1000, 26), (1000, 29), (1000, 30), (1000, 31), (1000, 32)] I I2 ∧ ((∃ w on, TSI (TM I) I I2 w on ∧ Imp ((I2 1000 26).toInt = 0) (on = 0)) ∧ (I 1000 25).toInt ≤ (I2 1000 25).toInt ∧ (I2 1000 25).toInt ≤ 401 ∧ (I 1000 29).toInt ≤ (I2 1000 29).toInt ∧ Imp ((I2 1000 26).toInt = 0) ((I 1000 26).toInt = 0 ∧ (I2 1000 25).toInt ≤ 400 ∧ 0 ≤ (I2 1000 31).toInt ∧ (I2 1000 31).toInt ≤ 60 ∧ 3 * (I2 1000 29).toInt ≤ 6 * (I2 1000 31).toInt + (I2 1000 25).toInt) ∧ ∃ d, CT I I2 0 d)) (BM D A) A) args s 0 0 A) (F0 m 9 ls []) := by
    intro n
    induction n with
    | zero =>
      intro x2_9 x1_9 Ia9 La9 H locs ls hI hK hr2_9 hr1_9 hlin hcn hC hTS hmu
      exact absurd hmu (Nat.not_lt_zero _)
    | succ n ih9 =>
      intro x2_9 x1_9 Ia9 La9 H locs ls hI hK hr2_9 hr1_9 hlin hcn hC hTS hmu9 hM hS hl
      obtain ⟨dd, hdd⟩ : ∃ z : Nat, z = NB Ia9 + (1 - (x1_9).toInt).toNat := ⟨_, rfl⟩
      rw [← hdd] at hC
      have gx9 := hI0.get 1000 27 (lo := 0) (hi := 5) rfl
      have gy9 := hI0.get 1000 29 (lo := 0) (hi := 300) rfl
      have pk27 := congrArg Int32.toInt (hK.get 1000 27 rfl)
      have gO99 := hI.get 1000 32 (lo := 0) (hi := 402) rfl
      have gE99 := hI.get 1000 29 (lo := 0) (hi := 300) rfl
      have gP99 := hI.get 1000 25 (lo := 0) (hi := 100000) rfl
      refine lv_iload_n hx hb dX10_test_9 rfl (lv_at hl 0 rfl) ?_
      refine lv_if_eq (tgt := 202) hx hb dX10_test_10 (by decide) (fun c10 => ?_) (fun c10 => ?_)
      · have hc10 := c10
        have q10 := q_eq hc10
        exact m_vret hx hb hr hlocks hM hS (Nat.le_of_ble_eq_true rfl) (Nat.le_of_ble_eq_true rfl) ⟨_, _, rfl, hI, hK, ⟨⟨_, _, hTS, fun hz => by omega⟩, by omega, by omega, by omega, (fun hz => by have w0 := hcn (by omega); omega), _, hC⟩⟩ dX10_test_202
      · have hc10 := c10
        have q10 := q_ne hc10
        refine lv_aload_n hx hb dX10_test_13 rfl (lv_at hl 2 rfl) ?_
        refine m_geti (1000) 26 hx hb hts hown hE oc10 hM hJ.1 rfl (by decide) rfl tb_1203 dX10_test_14 ?_
        refine lv_if_ne (tgt := 202) hx hb dX10_test_17 (by decide) (fun c11 => ?_) (fun c11 => ?_)
        · have hc11 := c11
          have q11 := q_ne hc11
          exact m_vret hx hb hr hlocks hM hS (Nat.le_of_ble_eq_true rfl) (Nat.le_of_ble_eq_true rfl) ⟨_, _, rfl, hI, hK, ⟨⟨_, _, hTS, fun hz => by omega⟩, by omega, by omega, by omega, (fun hz => by have w0 := hcn (by omega); omega), _, hC⟩⟩ dX10_test_202
        · have hc11 := c11
          have q11 := q_eq hc11
          have w12 := hcn (by omega)
          refine lv_iload_n hx hb dX10_test_20 rfl (lv_at hl 1 rfl) ?_
          refine lv_if_eq (tgt := 40) hx hb dX10_test_21 (by decide) (fun c13 => ?_) (fun c13 => ?_)
          · have hc13 := c13
            have q13 := q_eq hc13
            refine lv_aload_n hx hb dX10_test_40 rfl (lv_at hl 2 rfl) ?_
            refine lv_bipush (v := (9)) hx hb dX10_test_41 (by decide) ?_
            refine m_callv (m_runV (1000) (As := [.int (9)]) (rest := []) hx hb hml hown hts hE hM hS hA ce_X10_answers tb_1594 (V_X10_answers_h l D A ad ns Ia9 La9 G (9) hJ hI (by decide) (fun hz => by omega)) rfl rfl ⟨Nat.le_of_ble_eq_true rfl, Nat.le_of_ble_eq_true rfl⟩ hJ.1 rfl rfl (by decide) rfl hl.1 rfl (Nat.le_of_ble_eq_true rfl) dX10_test_43 ⟨Nat.le_of_ble_eq_true rfl, Nat.le_of_ble_eq_true rfl⟩) hS (fun u H locs hw hM hS => ?_)
            obtain ⟨I14, L15, rfl, hI, hkI14, xI14⟩ := hw
            have hM : Mem D A ad ns I14 L15 G H := hM
            have hK := hK.trans hkI14 rfl
            have g16 := hI.get 1000 32 (lo := 0) (hi := 402) rfl
            have pw17 : (I14 (1000) 24).toInt = (Ia9 (1000) 24 : Int32).toInt := congrArg Int32.toInt ((hkI14.get (1000) 24 rfl))
            have pw18 : (I14 (1000) 25).toInt = (Ia9 (1000) 25 : Int32).toInt := congrArg Int32.toInt ((hkI14.get (1000) 25 rfl))
            have pw19 : (I14 (1000) 26).toInt = (Ia9 (1000) 26 : Int32).toInt := congrArg Int32.toInt ((hkI14.get (1000) 26 rfl))
            have pw20 : (I14 (1000) 27).toInt = (Ia9 (1000) 27 : Int32).toInt := congrArg Int32.toInt ((hkI14.get (1000) 27 rfl))
            have pw21 : (I14 (1000) 31).toInt = (Ia9 (1000) 31 : Int32).toInt := congrArg Int32.toInt ((hkI14.get (1000) 31 rfl))
            have g22 := hI0.get 1000 27 (lo := 0) (hi := 5) rfl
            have g23 := hI0.get 1000 29 (lo := 0) (hi := 300) rfl
            replace hC := CT.comp (n1 := NB Ia9 + 1) (by rw [show NB Ia9 + 1 = dd from by omega]; exact hC) (xI14.2.2.2.2) (by omega) (by omega) (by omega) (by omega) (fun hz => by omega)
            obtain ⟨dd, hdd⟩ : ∃ z : Nat, z = NB I14 + 1 := ⟨_, rfl⟩
            rw [← hdd] at hC
            have an24 := xI14.1 (by omega)
            rw [show encs (9 : Int32).toInt = -14 from by decide] at an24
            refine lv_aload_n hx hb dX10_test_46 rfl (lv_at hl 2 rfl) ?_
            refine m_callv (m_runV (1000) (As := []) (rest := []) hx hb hml hown hts hE hM hS hA ce_X10_blanks tb_1506 (V_X10_blanks_h l D A ad ns I14 L15 G hJ hI (by omega)) rfl rfl ⟨Nat.le_of_ble_eq_true rfl, Nat.le_of_ble_eq_true rfl⟩ hJ.1 rfl rfl (by decide) rfl hl.1 rfl (Nat.le_of_ble_eq_true rfl) dX10_test_47 ⟨Nat.le_of_ble_eq_true rfl, Nat.le_of_ble_eq_true rfl⟩) hS (fun u H locs hw hM hS => ?_)
            obtain ⟨I25, L26, rfl, hI, hkI25, xI25⟩ := hw
            have hM : Mem D A ad ns I25 L26 G H := hM
            have hK := hK.trans hkI25 rfl
            have pw27 : (I25 (1000) 24).toInt = (Ia9 (1000) 24 : Int32).toInt := (congrArg Int32.toInt ((hkI25.get (1000) 24 rfl))).trans pw17
            have pw28 : (I25 (1000) 26).toInt = (Ia9 (1000) 26 : Int32).toInt := (congrArg Int32.toInt ((hkI25.get (1000) 26 rfl))).trans pw19
            have pw29 : (I25 (1000) 27).toInt = (Ia9 (1000) 27 : Int32).toInt := (congrArg Int32.toInt ((hkI25.get (1000) 27 rfl))).trans pw20
            have pw30 : (I25 (1000) 29).toInt = (I14 (1000) 29 : Int32).toInt := congrArg Int32.toInt ((hkI25.get (1000) 29 rfl))
            have pw31 : (I25 (1000) 30).toInt = (I14 (1000) 30 : Int32).toInt := congrArg Int32.toInt ((hkI25.get (1000) 30 rfl))
            have pw32 : (I25 (1000) 31).toInt = (Ia9 (1000) 31 : Int32).toInt := (congrArg Int32.toInt ((hkI25.get (1000) 31 rfl))).trans pw21
            have pw33 : (I25 (1000) 32).toInt = (I14 (1000) 32 : Int32).toInt := congrArg Int32.toInt ((hkI25.get (1000) 32 rfl))
            have nw34 := xI25.1
            rw [show TM I14 = TM I from (TM_of (hkI25.getA 1034 rfl) (hkI25.get 1000 24 rfl)).symm.trans (TM_of (hK.getA 1034 rfl) (hK.get 1000 24 rfl))] at nw34
            refine lv_aload_n hx hb dX10_test_50 rfl (lv_at hl 2 rfl) ?_
            refine m_ldcwS hx hb hown (EV.str hE 26 rfl).1 dX10_test_51 ?_
            refine m_calli (m_runV (1000) (As := [.ref (D.2 100 26)]) (rest := []) hx hb hml hown hts hE hM hS hA ce_X10_stands tb_1515 (V_X10_stands_h l D A ad ns I25 L26 G 26 _ hJ hI rfl (by decide) (by decide) (hbt.of (hK.getA 1034 rfl) (hK.get 1000 24 rfl))) rfl rfl ⟨Nat.le_of_ble_eq_true rfl, Nat.le_of_ble_eq_true rfl⟩ hJ.1 rfl rfl (by decide) rfl hl.1 rfl (Nat.le_of_ble_eq_true rfl) dX10_test_54 ⟨Nat.le_of_ble_eq_true rfl, Nat.le_of_ble_eq_true rfl⟩) hS (fun r35 u H locs hw hM hS => ?_)
            obtain ⟨rfl, xr35⟩ := hw
            have hM : Mem D A ad ns I25 L26 G H := hM
            have g36 := hI.get 1000 24 (lo := 0) (hi := 400) rfl
            have g37 := hI.get 1000 25 (lo := 0) (hi := 100000) rfl
            have slr35 : Imp ((r35).toInt ≠ 0) ((I25 (1000) 25).toInt + 3 ≤ (I25 (1000) 24).toInt) := xr35.2.2.2
            have sx38 : WQX (TM I25) (I25 1000 25).toNatClampNeg (([97, 110, 100] : List Int32).map b8) r35 := xr35.1
            rw [mb_and] at sx38
            rw [show TM I25 = TM I from (TM_of (hK.getA 1034 rfl) (hK.get 1000 24 rfl))] at sx38
            refine lv_istore_n (lv' := [(3, .int (r35)), (2, .int (x2_9)), (1, .int (x1_9)), (0, .ref (ad (1000)))]) hx hb dX10_test_57 rfl hl (by decide) rfl (fun ls hl => ?_)
            refine lv_aload_n hx hb dX10_test_58 rfl (lv_at hl 3 rfl) ?_
            refine m_ldcwS hx hb hown (EV.str hE 27 rfl).1 dX10_test_59 ?_
            refine m_calli (m_runV (1000) (As := [.ref (D.2 100 27)]) (rest := []) hx hb hml hown hts hE hM hS hA ce_X10_stands tb_1515 (V_X10_stands_h l D A ad ns I25 L26 G 27 _ hJ hI rfl (by decide) (by decide) (hbt.of (hK.getA 1034 rfl) (hK.get 1000 24 rfl))) rfl rfl ⟨Nat.le_of_ble_eq_true rfl, Nat.le_of_ble_eq_true rfl⟩ hJ.1 rfl rfl (by decide) rfl hl.1 rfl (Nat.le_of_ble_eq_true rfl) dX10_test_62 ⟨Nat.le_of_ble_eq_true rfl, Nat.le_of_ble_eq_true rfl⟩) hS (fun r39 u H locs hw hM hS => ?_)
            obtain ⟨rfl, xr39⟩ := hw
            have hM : Mem D A ad ns I25 L26 G H := hM
            have g40 := hI.get 1000 24 (lo := 0) (hi := 400) rfl
            have g41 := hI.get 1000 25 (lo := 0) (hi := 100000) rfl
            have slr39 : Imp ((r39).toInt ≠ 0) ((I25 (1000) 25).toInt + 2 ≤ (I25 (1000) 24).toInt) := xr39.2.2.2
            have sx42 : WQX (TM I25) (I25 1000 25).toNatClampNeg (([111, 114] : List Int32).map b8) r39 := xr39.1
            rw [mb_or] at sx42
            rw [show TM I25 = TM I from (TM_of (hK.getA 1034 rfl) (hK.get 1000 24 rfl))] at sx42
            refine lv_istore (lv' := [(4, .int (r39)), (3, .int (r35)), (2, .int (x2_9)), (1, .int (x1_9)), (0, .ref (ad (1000)))]) hx hb dX10_test_65 hl (by decide) rfl (fun ls hl => ?_)
            refine lv_aload_n hx hb dX10_test_67 rfl (lv_at hl 4 rfl) ?_
            refine lv_bipush (v := (10)) hx hb dX10_test_68 (by decide) ?_
            have nn43 := NS_of (I2 := I25) (I := I14) ((hkI25.getA 1042 rfl)) (by omega)
            refine m_callv (m_runV (1000) (As := [.int (10)]) (rest := []) hx hb hml hown hts hE hM hS hA ce_X10_answers tb_1594 (V_X10_answers_h l D A ad ns I25 L26 G (10) hJ hI (by decide) (fun hz => by omega)) rfl rfl ⟨Nat.le_of_ble_eq_true rfl, Nat.le_of_ble_eq_true rfl⟩ hJ.1 rfl rfl (by decide) rfl hl.1 rfl (Nat.le_of_ble_eq_true rfl) dX10_test_70 ⟨Nat.le_of_ble_eq_true rfl, Nat.le_of_ble_eq_true rfl⟩) hS (fun u H locs hw hM hS => ?_)
            obtain ⟨I44, L45, rfl, hI, hkI44, xI44⟩ := hw
            have hM : Mem D A ad ns I44 L45 G H := hM
            have hK := hK.trans hkI44 rfl
            have g46 := hI.get 1000 32 (lo := 0) (hi := 402) rfl
            replace hC := CT.link (I2 := I25) hC ((hkI25.getA 1035 rfl)) ((hkI25.getA 1036 rfl)) (by omega) (fun hz => by omega)
            have pw47 : (I44 (1000) 24).toInt = (Ia9 (1000) 24 : Int32).toInt := (congrArg Int32.toInt ((hkI44.get (1000) 24 rfl))).trans pw27
            have pw48 : (I44 (1000) 25).toInt = (I25 (1000) 25 : Int32).toInt := congrArg Int32.toInt ((hkI44.get (1000) 25 rfl))
            have pw49 : (I44 (1000) 26).toInt = (Ia9 (1000) 26 : Int32).toInt := (congrArg Int32.toInt ((hkI44.get (1000) 26 rfl))).trans pw28
            have pw50 : (I44 (1000) 27).toInt = (Ia9 (1000) 27 : Int32).toInt := (congrArg Int32.toInt ((hkI44.get (1000) 27 rfl))).trans pw29
            have pw51 : (I44 (1000) 31).toInt = (Ia9 (1000) 31 : Int32).toInt := (congrArg Int32.toInt ((hkI44.get (1000) 31 rfl))).trans pw32
            replace hC := CT.comp (n1 := NB I25 + 1) (by rw [show NB I25 + 1 = dd from by omega]; exact hC) (xI44.2.2.2.2) (by omega) (by omega) (by omega) (by omega) (fun hz => by omega)
            obtain ⟨dd, hdd⟩ : ∃ z : Nat, z = NB I44 + 1 := ⟨_, rfl⟩
            rw [← hdd] at hC
            have an52 := xI44.1 (by omega)
            rw [show encs (10 : Int32).toInt = -24 from by decide] at an52
            refine lv_iload_n hx hb dX10_test_73 rfl (lv_at hl 1 rfl) ?_
            refine lv_if_ne (tgt := 82) hx hb dX10_test_74 (by decide) (fun c53 => ?_) (fun c53 => ?_)
            · have hc53 := c53
              have q53 := q_ne hc53
              have sg54 := slr35 (by omega)
              have sc55 := sx38.y (by omega)
              refine lv_iload hx hb dX10_test_82 (lv_at hl 0 rfl) ?_
              refine lv_if_eq (tgt := 93) hx hb dX10_test_84 (by decide) (fun c56 => ?_) (fun c56 => ?_)
              · have hc56 := c56
                have q56 := q_eq hc56
                have sc57 := sx42.n (by omega)
                refine lv_aload_n hx hb dX10_test_93 rfl (lv_at hl 4 rfl) ?_
                refine lv_iload_n hx hb dX10_test_94 rfl (lv_at hl 1 rfl) ?_
                refine lv_if_eq (tgt := 103) hx hb dX10_test_95 (by decide) (fun c58 => ?_) (fun c58 => ?_)
                · have hc58 := c58
                  have q58 := q_eq hc58
                  have sc59 := sx38.n (by omega)
                  refine lv_bipush (v := (11)) hx hb dX10_test_103 (by decide) ?_
                  refine m_callv (m_runV (1000) (As := [.int (11)]) (rest := []) hx hb hml hown hts hE hM hS hA ce_X10_opens tb_1586 (V_X10_opens_h l D A ad ns I44 L45 G (11) hJ hI (by first | omega | decide) (by omega)) rfl rfl ⟨Nat.le_of_ble_eq_true rfl, Nat.le_of_ble_eq_true rfl⟩ hJ.1 rfl rfl (by decide) rfl hl.1 rfl (Nat.le_of_ble_eq_true rfl) dX10_test_105 ⟨Nat.le_of_ble_eq_true rfl, Nat.le_of_ble_eq_true rfl⟩) hS (fun u H locs hw hM hS => ?_)
                  obtain ⟨I60, L61, rfl, hI, hkI60, xI60⟩ := hw
                  have hM : Mem D A ad ns I60 L61 G H := hM
                  have hK := hK.trans hkI60 rfl
                  have g62 := hI.get 1000 32 (lo := 0) (hi := 402) rfl
                  have pw63 : (I60 (1000) 24).toInt = (Ia9 (1000) 24 : Int32).toInt := (congrArg Int32.toInt ((hkI60.get (1000) 24 rfl))).trans pw47
                  have pw64 : (I60 (1000) 25).toInt = (I25 (1000) 25 : Int32).toInt := (congrArg Int32.toInt ((hkI60.get (1000) 25 rfl))).trans pw48
                  have pw65 : (I60 (1000) 27).toInt = (Ia9 (1000) 27 : Int32).toInt := (congrArg Int32.toInt ((hkI60.get (1000) 27 rfl))).trans pw50
                  have pw66 : (I60 (1000) 29).toInt = (I44 (1000) 29 : Int32).toInt := congrArg Int32.toInt ((hkI60.get (1000) 29 rfl))
                  have pw67 : (I60 (1000) 31).toInt = (Ia9 (1000) 31 : Int32).toInt := (congrArg Int32.toInt ((hkI60.get (1000) 31 rfl))).trans pw51
                  have pv68 : pN 11 = 1 ∧ pB 11 = 1 := by decide
                  have po69 := xI60.2.2
                  refine lv_aload_n hx hb dX10_test_108 rfl (lv_at hl 4 rfl) ?_
                  refine lv_dup hx hb dX10_test_109 rfl ?_
                  refine m_geti (1000) 25 hx hb hts hown hE oc10 hM hJ.1 rfl (by decide) rfl tb_1202 dX10_test_110 ?_
                  have g70 := hI.get (1000) 25 (lo := 0) (hi := 100000) rfl
                  have z71 : I60 (1000) 25 = I25 (1000) 25 := ((hkI60.get (1000) 25 rfl)).trans (hkI44.get (1000) 25 rfl)
                  rw [z71] at g70 ⊢
                  refine lv_iload_n hx hb dX10_test_113 rfl (lv_at hl 1 rfl) ?_
                  refine lv_if_eq (tgt := 121) hx hb dX10_test_114 (by decide) (fun c72 => ?_) (fun c72 => ?_)
                  · have hc72 := c72
                    have q72 := q_eq hc72
                    have sc73 := sx38.n (by omega)
                    refine lv_iconst (v := (2)) hx hb dX10_test_121 (by decide) ?_
                    refine lv_iadd hx hb dX10_test_122 ?_
                    refine lv_topi (fun v74 ev74 => ?_)
                    have tv74 := a_add ev74 (by omega) (by omega)
                    refine m_puti (1000) 25 hx hb hts hown hE oc10 hM hS hJ.1 rfl (by decide) rfl rfl rfl rfl tb_1202 dX10_test_123 (fun H locs I75 eI75 hM hS => ?_)
                    subst eI75
                    have hI := hI.put (n := 1000) (k := 25) (v := v74) (lo := 0) (hi := 100000) rfl (by first | omega | decide)
                    have hK := hK.put (n := 1000) (k := 25) (v := v74) (by first | rfl | simp [inR])
                    refine lv_iconst (v := (1)) hx hb dX10_test_126 (by decide) ?_
                    refine lv_istore_n (lv' := [(1, .int (1)), (4, .int (r39)), (3, .int (r35)), (2, .int (x2_9)), (0, .ref (ad (1000)))]) hx hb dX10_test_127 rfl hl (by decide) rfl (fun ls hl => ?_)
                    refine lv_goto (tgt := 199) hx hb dX10_test_128 (by decide) ?_
                    refine lv_goto (tgt := 9) hx hb dX10_test_199 (by decide) ?_
                    have pw76 : ((u2 I60 (1000) 25 (v74)) (1000) 24).toInt = (Ia9 (1000) 24 : Int32).toInt := (congrArg Int32.toInt ((show (u2 I60 (1000) 25 (v74)) (1000) 24 = I60 (1000) 24 from by simp [u2_v]))).trans pw63
                    have pw77 : ((u2 I60 (1000) 25 (v74)) (1000) 25).toInt = (v74 : Int32).toInt := congrArg Int32.toInt ((show (u2 I60 (1000) 25 (v74)) (1000) 25 = v74 from by simp [u2_v]))
                    have pw78 : ((u2 I60 (1000) 25 (v74)) (1000) 26).toInt = (I60 (1000) 26 : Int32).toInt := congrArg Int32.toInt ((show (u2 I60 (1000) 25 (v74)) (1000) 26 = I60 (1000) 26 from by simp [u2_v]))
                    have pw79 : ((u2 I60 (1000) 25 (v74)) (1000) 27).toInt = (Ia9 (1000) 27 : Int32).toInt := (congrArg Int32.toInt ((show (u2 I60 (1000) 25 (v74)) (1000) 27 = I60 (1000) 27 from by simp [u2_v]))).trans pw65
                    have pw80 : ((u2 I60 (1000) 25 (v74)) (1000) 29).toInt = (I44 (1000) 29 : Int32).toInt := (congrArg Int32.toInt ((show (u2 I60 (1000) 25 (v74)) (1000) 29 = I60 (1000) 29 from by simp [u2_v]))).trans pw66
                    have pw81 : ((u2 I60 (1000) 25 (v74)) (1000) 31).toInt = (Ia9 (1000) 31 : Int32).toInt := (congrArg Int32.toInt ((show (u2 I60 (1000) 25 (v74)) (1000) 31 = I60 (1000) 31 from by simp [u2_v]))).trans pw67
                    have pw82 : ((u2 I60 (1000) 25 (v74)) (1000) 32).toInt = (I60 (1000) 32 : Int32).toInt := congrArg Int32.toInt ((show (u2 I60 (1000) 25 (v74)) (1000) 32 = I60 (1000) 32 from by simp [u2_v]))
                    replace hC := CT.link (I2 := (u2 I60 (1000) 25 (v74))) hC (((show (u2 I60 (1000) 25 (v74)) 1035 = I60 1035 from by funext zz; simp [u2_v])).trans (hkI60.getA 1035 rfl)) (((show (u2 I60 (1000) 25 (v74)) 1036 = I60 1036 from by funext zz; simp [u2_v])).trans (hkI60.getA 1036 rfl)) (by omega) (fun hz => by have w0 := xI60.2.1 (by omega); omega)
                    have nn83 := NS_of (I2 := (u2 I60 (1000) 25 (v74))) (I := I60) ((show (u2 I60 (1000) 25 (v74)) 1042 = I60 1042 from by funext zz; simp [u2_v])) (by omega)
                    have pw84 : ((u2 I60 (1000) 25 (v74)) (1000) 30).toInt = (I60 (1000) 30 : Int32).toInt := congrArg Int32.toInt ((show (u2 I60 (1000) 25 (v74)) (1000) 30 = I60 (1000) 30 from by simp [u2_v]))
                    have gP9 := hI.get 1000 25 (lo := 0) (hi := 100000) rfl
                    have gO9 := hI.get 1000 32 (lo := 0) (hi := 402) rfl
                    have hT1 := hTS
                    rw [show (x1_9).toInt = 0 from by omega, show (x2_9).toInt = 1 from by omega] at hT1
                    have hq0 : (I25 1000 25).toNatClampNeg = skp (TM I) (Ia9 1000 25).toNatClampNeg := by rw [nw34, show (I14 1000 25).toNatClampNeg = (Ia9 1000 25).toNatClampNeg from cl_eq (by omega)]
                    have z1 := tn (i := I25 1000 25) (by omega)
                    have z2 := tn (i := (u2 I60 (1000) 25 (v74)) 1000 25) (by omega)
                    rw [(RK_of (J := I14) (J2 := I25) ((hkI25.getA 1042 rfl)) (by omega)), (RC_of (J := I14) (J2 := I25) ((hkI25.getA 1035 rfl)) ((hkI25.getA 1036 rfl)) (by omega) (by omega)), show I25 1000 30 = I14 1000 30 from Int32.toInt_inj.mp (by omega)] at an52
                    have hz2 := pz2_of an24 an52
                    have gR7 := RC_len (J := Ia9) gE99.1
                    exact ih9 (x2_9) (1) (u2 I60 (1000) 25 (v74)) L61 _ _ ls hI hK (by first | omega | decide) (by first | omega | decide) (by omega) (fun hz => by have w0 := xI60.2.1 (by omega); omega) (by rw [show NB (u2 I60 (1000) 25 (v74)) + (1 - (1 : Int32).toInt).toNat = dd from by omega]; exact hC) (by exfalso; omega) (by omega) hM hS (lv_sub hl [3, 0, 4] rfl)
                  · have hc72 := c72
                    have q72 := q_ne hc72
                    have sg85 := slr35 (by omega)
                    have sc86 := sx38.y (by omega)
                    refine lv_iconst (v := (3)) hx hb dX10_test_117 (by decide) ?_
                    refine lv_goto (tgt := 122) hx hb dX10_test_118 (by decide) ?_
                    refine lv_iadd hx hb dX10_test_122 ?_
                    refine lv_topi (fun v87 ev87 => ?_)
                    have tv87 := a_add ev87 (by omega) (by omega)
                    refine m_puti (1000) 25 hx hb hts hown hE oc10 hM hS hJ.1 rfl (by decide) rfl rfl rfl rfl tb_1202 dX10_test_123 (fun H locs I88 eI88 hM hS => ?_)
                    subst eI88
                    have hI := hI.put (n := 1000) (k := 25) (v := v87) (lo := 0) (hi := 100000) rfl (by first | omega | decide)
                    have hK := hK.put (n := 1000) (k := 25) (v := v87) (by first | rfl | simp [inR])
                    refine lv_iconst (v := (1)) hx hb dX10_test_126 (by decide) ?_
                    refine lv_istore_n (lv' := [(1, .int (1)), (4, .int (r39)), (3, .int (r35)), (2, .int (x2_9)), (0, .ref (ad (1000)))]) hx hb dX10_test_127 rfl hl (by decide) rfl (fun ls hl => ?_)
                    refine lv_goto (tgt := 199) hx hb dX10_test_128 (by decide) ?_
                    refine lv_goto (tgt := 9) hx hb dX10_test_199 (by decide) ?_
                    have pw89 : ((u2 I60 (1000) 25 (v87)) (1000) 24).toInt = (Ia9 (1000) 24 : Int32).toInt := (congrArg Int32.toInt ((show (u2 I60 (1000) 25 (v87)) (1000) 24 = I60 (1000) 24 from by simp [u2_v]))).trans pw63
                    have pw90 : ((u2 I60 (1000) 25 (v87)) (1000) 25).toInt = (v87 : Int32).toInt := congrArg Int32.toInt ((show (u2 I60 (1000) 25 (v87)) (1000) 25 = v87 from by simp [u2_v]))
                    have pw91 : ((u2 I60 (1000) 25 (v87)) (1000) 26).toInt = (I60 (1000) 26 : Int32).toInt := congrArg Int32.toInt ((show (u2 I60 (1000) 25 (v87)) (1000) 26 = I60 (1000) 26 from by simp [u2_v]))
                    have pw92 : ((u2 I60 (1000) 25 (v87)) (1000) 27).toInt = (Ia9 (1000) 27 : Int32).toInt := (congrArg Int32.toInt ((show (u2 I60 (1000) 25 (v87)) (1000) 27 = I60 (1000) 27 from by simp [u2_v]))).trans pw65
                    have pw93 : ((u2 I60 (1000) 25 (v87)) (1000) 29).toInt = (I44 (1000) 29 : Int32).toInt := (congrArg Int32.toInt ((show (u2 I60 (1000) 25 (v87)) (1000) 29 = I60 (1000) 29 from by simp [u2_v]))).trans pw66
                    have pw94 : ((u2 I60 (1000) 25 (v87)) (1000) 31).toInt = (Ia9 (1000) 31 : Int32).toInt := (congrArg Int32.toInt ((show (u2 I60 (1000) 25 (v87)) (1000) 31 = I60 (1000) 31 from by simp [u2_v]))).trans pw67
                    have pw95 : ((u2 I60 (1000) 25 (v87)) (1000) 32).toInt = (I60 (1000) 32 : Int32).toInt := congrArg Int32.toInt ((show (u2 I60 (1000) 25 (v87)) (1000) 32 = I60 (1000) 32 from by simp [u2_v]))
                    replace hC := CT.link (I2 := (u2 I60 (1000) 25 (v87))) hC (((show (u2 I60 (1000) 25 (v87)) 1035 = I60 1035 from by funext zz; simp [u2_v])).trans (hkI60.getA 1035 rfl)) (((show (u2 I60 (1000) 25 (v87)) 1036 = I60 1036 from by funext zz; simp [u2_v])).trans (hkI60.getA 1036 rfl)) (by omega) (fun hz => by have w0 := xI60.2.1 (by omega); omega)
                    have nn96 := NS_of (I2 := (u2 I60 (1000) 25 (v87))) (I := I60) ((show (u2 I60 (1000) 25 (v87)) 1042 = I60 1042 from by funext zz; simp [u2_v])) (by omega)
                    have pw97 : ((u2 I60 (1000) 25 (v87)) (1000) 30).toInt = (I60 (1000) 30 : Int32).toInt := congrArg Int32.toInt ((show (u2 I60 (1000) 25 (v87)) (1000) 30 = I60 (1000) 30 from by simp [u2_v]))
                    have gP9 := hI.get 1000 25 (lo := 0) (hi := 100000) rfl
                    have gO9 := hI.get 1000 32 (lo := 0) (hi := 402) rfl
                    have hT1 := hTS
                    rw [show (x1_9).toInt = 0 from by omega, show (x2_9).toInt = 1 from by omega] at hT1
                    have hq0 : (I25 1000 25).toNatClampNeg = skp (TM I) (Ia9 1000 25).toNatClampNeg := by rw [nw34, show (I14 1000 25).toNatClampNeg = (Ia9 1000 25).toNatClampNeg from cl_eq (by omega)]
                    have z1 := tn (i := I25 1000 25) (by omega)
                    have z2 := tn (i := (u2 I60 (1000) 25 (v87)) 1000 25) (by omega)
                    rw [(RK_of (J := I14) (J2 := I25) ((hkI25.getA 1042 rfl)) (by omega)), (RC_of (J := I14) (J2 := I25) ((hkI25.getA 1035 rfl)) ((hkI25.getA 1036 rfl)) (by omega) (by omega)), show I25 1000 30 = I14 1000 30 from Int32.toInt_inj.mp (by omega)] at an52
                    have hz2 := pz2_of an24 an52
                    have gR7 := RC_len (J := Ia9) gE99.1
                    exact ih9 (x2_9) (1) (u2 I60 (1000) 25 (v87)) L61 _ _ ls hI hK (by first | omega | decide) (by first | omega | decide) (by omega) (fun hz => by have w0 := xI60.2.1 (by omega); omega) (by rw [show NB (u2 I60 (1000) 25 (v87)) + (1 - (1 : Int32).toInt).toNat = dd from by omega]; exact hC) (by exfalso; omega) (by omega) hM hS (lv_sub hl [3, 0, 4] rfl)
                · have hc58 := c58
                  have q58 := q_ne hc58
                  have sg98 := slr35 (by omega)
                  have sc99 := sx38.y (by omega)
                  refine lv_bipush (v := (10)) hx hb dX10_test_98 (by decide) ?_
                  refine lv_goto (tgt := 105) hx hb dX10_test_100 (by decide) ?_
                  refine m_callv (m_runV (1000) (As := [.int (10)]) (rest := []) hx hb hml hown hts hE hM hS hA ce_X10_opens tb_1586 (V_X10_opens_h l D A ad ns I44 L45 G (10) hJ hI (by first | omega | decide) (by omega)) rfl rfl ⟨Nat.le_of_ble_eq_true rfl, Nat.le_of_ble_eq_true rfl⟩ hJ.1 rfl rfl (by decide) rfl hl.1 rfl (Nat.le_of_ble_eq_true rfl) dX10_test_105 ⟨Nat.le_of_ble_eq_true rfl, Nat.le_of_ble_eq_true rfl⟩) hS (fun u H locs hw hM hS => ?_)
                  obtain ⟨I100, L101, rfl, hI, hkI100, xI100⟩ := hw
                  have hM : Mem D A ad ns I100 L101 G H := hM
                  have hK := hK.trans hkI100 rfl
                  have g102 := hI.get 1000 32 (lo := 0) (hi := 402) rfl
                  have pw103 : (I100 (1000) 24).toInt = (Ia9 (1000) 24 : Int32).toInt := (congrArg Int32.toInt ((hkI100.get (1000) 24 rfl))).trans pw47
                  have pw104 : (I100 (1000) 25).toInt = (I25 (1000) 25 : Int32).toInt := (congrArg Int32.toInt ((hkI100.get (1000) 25 rfl))).trans pw48
                  have pw105 : (I100 (1000) 27).toInt = (Ia9 (1000) 27 : Int32).toInt := (congrArg Int32.toInt ((hkI100.get (1000) 27 rfl))).trans pw50
                  have pw106 : (I100 (1000) 29).toInt = (I44 (1000) 29 : Int32).toInt := congrArg Int32.toInt ((hkI100.get (1000) 29 rfl))
                  have pw107 : (I100 (1000) 31).toInt = (Ia9 (1000) 31 : Int32).toInt := (congrArg Int32.toInt ((hkI100.get (1000) 31 rfl))).trans pw51
                  have pv108 : pN 10 = 1 ∧ pB 10 = 1 := by decide
                  have po109 := xI100.2.2
                  refine lv_aload_n hx hb dX10_test_108 rfl (lv_at hl 4 rfl) ?_
                  refine lv_dup hx hb dX10_test_109 rfl ?_
                  refine m_geti (1000) 25 hx hb hts hown hE oc10 hM hJ.1 rfl (by decide) rfl tb_1202 dX10_test_110 ?_
                  have g110 := hI.get (1000) 25 (lo := 0) (hi := 100000) rfl
                  have z111 : I100 (1000) 25 = I25 (1000) 25 := ((hkI100.get (1000) 25 rfl)).trans (hkI44.get (1000) 25 rfl)
                  rw [z111] at g110 ⊢
                  refine lv_iload_n hx hb dX10_test_113 rfl (lv_at hl 1 rfl) ?_
                  refine lv_if_eq (tgt := 121) hx hb dX10_test_114 (by decide) (fun c112 => ?_) (fun c112 => ?_)
                  · have hc112 := c112
                    have q112 := q_eq hc112
                    have sc113 := sx38.n (by omega)
                    refine lv_iconst (v := (2)) hx hb dX10_test_121 (by decide) ?_
                    refine lv_iadd hx hb dX10_test_122 ?_
                    refine lv_topi (fun v114 ev114 => ?_)
                    have tv114 := a_add ev114 (by omega) (by omega)
                    refine m_puti (1000) 25 hx hb hts hown hE oc10 hM hS hJ.1 rfl (by decide) rfl rfl rfl rfl tb_1202 dX10_test_123 (fun H locs I115 eI115 hM hS => ?_)
                    subst eI115
                    have hI := hI.put (n := 1000) (k := 25) (v := v114) (lo := 0) (hi := 100000) rfl (by first | omega | decide)
                    have hK := hK.put (n := 1000) (k := 25) (v := v114) (by first | rfl | simp [inR])
                    refine lv_iconst (v := (1)) hx hb dX10_test_126 (by decide) ?_
                    refine lv_istore_n (lv' := [(1, .int (1)), (4, .int (r39)), (3, .int (r35)), (2, .int (x2_9)), (0, .ref (ad (1000)))]) hx hb dX10_test_127 rfl hl (by decide) rfl (fun ls hl => ?_)
                    refine lv_goto (tgt := 199) hx hb dX10_test_128 (by decide) ?_
                    refine lv_goto (tgt := 9) hx hb dX10_test_199 (by decide) ?_
                    have pw116 : ((u2 I100 (1000) 25 (v114)) (1000) 24).toInt = (Ia9 (1000) 24 : Int32).toInt := (congrArg Int32.toInt ((show (u2 I100 (1000) 25 (v114)) (1000) 24 = I100 (1000) 24 from by simp [u2_v]))).trans pw103
                    have pw117 : ((u2 I100 (1000) 25 (v114)) (1000) 25).toInt = (v114 : Int32).toInt := congrArg Int32.toInt ((show (u2 I100 (1000) 25 (v114)) (1000) 25 = v114 from by simp [u2_v]))
                    have pw118 : ((u2 I100 (1000) 25 (v114)) (1000) 26).toInt = (I100 (1000) 26 : Int32).toInt := congrArg Int32.toInt ((show (u2 I100 (1000) 25 (v114)) (1000) 26 = I100 (1000) 26 from by simp [u2_v]))
                    have pw119 : ((u2 I100 (1000) 25 (v114)) (1000) 27).toInt = (Ia9 (1000) 27 : Int32).toInt := (congrArg Int32.toInt ((show (u2 I100 (1000) 25 (v114)) (1000) 27 = I100 (1000) 27 from by simp [u2_v]))).trans pw105
                    have pw120 : ((u2 I100 (1000) 25 (v114)) (1000) 29).toInt = (I44 (1000) 29 : Int32).toInt := (congrArg Int32.toInt ((show (u2 I100 (1000) 25 (v114)) (1000) 29 = I100 (1000) 29 from by simp [u2_v]))).trans pw106
                    have pw121 : ((u2 I100 (1000) 25 (v114)) (1000) 31).toInt = (Ia9 (1000) 31 : Int32).toInt := (congrArg Int32.toInt ((show (u2 I100 (1000) 25 (v114)) (1000) 31 = I100 (1000) 31 from by simp [u2_v]))).trans pw107
                    have pw122 : ((u2 I100 (1000) 25 (v114)) (1000) 32).toInt = (I100 (1000) 32 : Int32).toInt := congrArg Int32.toInt ((show (u2 I100 (1000) 25 (v114)) (1000) 32 = I100 (1000) 32 from by simp [u2_v]))
                    replace hC := CT.link (I2 := (u2 I100 (1000) 25 (v114))) hC (((show (u2 I100 (1000) 25 (v114)) 1035 = I100 1035 from by funext zz; simp [u2_v])).trans (hkI100.getA 1035 rfl)) (((show (u2 I100 (1000) 25 (v114)) 1036 = I100 1036 from by funext zz; simp [u2_v])).trans (hkI100.getA 1036 rfl)) (by omega) (fun hz => by have w0 := xI100.2.1 (by omega); omega)
                    have nn123 := NS_of (I2 := (u2 I100 (1000) 25 (v114))) (I := I100) ((show (u2 I100 (1000) 25 (v114)) 1042 = I100 1042 from by funext zz; simp [u2_v])) (by omega)
                    have pw124 : ((u2 I100 (1000) 25 (v114)) (1000) 30).toInt = (I100 (1000) 30 : Int32).toInt := congrArg Int32.toInt ((show (u2 I100 (1000) 25 (v114)) (1000) 30 = I100 (1000) 30 from by simp [u2_v]))
                    have gP9 := hI.get 1000 25 (lo := 0) (hi := 100000) rfl
                    have gO9 := hI.get 1000 32 (lo := 0) (hi := 402) rfl
                    have hT1 := hTS
                    rw [show (x1_9).toInt = 0 from by omega, show (x2_9).toInt = 1 from by omega] at hT1
                    have hq0 : (I25 1000 25).toNatClampNeg = skp (TM I) (Ia9 1000 25).toNatClampNeg := by rw [nw34, show (I14 1000 25).toNatClampNeg = (Ia9 1000 25).toNatClampNeg from cl_eq (by omega)]
                    have z1 := tn (i := I25 1000 25) (by omega)
                    have z2 := tn (i := (u2 I100 (1000) 25 (v114)) 1000 25) (by omega)
                    rw [(RK_of (J := I14) (J2 := I25) ((hkI25.getA 1042 rfl)) (by omega)), (RC_of (J := I14) (J2 := I25) ((hkI25.getA 1035 rfl)) ((hkI25.getA 1036 rfl)) (by omega) (by omega)), show I25 1000 30 = I14 1000 30 from Int32.toInt_inj.mp (by omega)] at an52
                    have hz2 := pz2_of an24 an52
                    have gR7 := RC_len (J := Ia9) gE99.1
                    exact ih9 (x2_9) (1) (u2 I100 (1000) 25 (v114)) L101 _ _ ls hI hK (by first | omega | decide) (by first | omega | decide) (by omega) (fun hz => by have w0 := xI100.2.1 (by omega); omega) (by rw [show NB (u2 I100 (1000) 25 (v114)) + (1 - (1 : Int32).toInt).toNat = dd from by omega]; exact hC) (by exfalso; omega) (by omega) hM hS (lv_sub hl [3, 0, 4] rfl)
                  · have hc112 := c112
                    have q112 := q_ne hc112
                    have sg125 := slr35 (by omega)
                    have sc126 := sx38.y (by omega)
                    refine lv_iconst (v := (3)) hx hb dX10_test_117 (by decide) ?_
                    refine lv_goto (tgt := 122) hx hb dX10_test_118 (by decide) ?_
                    refine lv_iadd hx hb dX10_test_122 ?_
                    refine lv_topi (fun v127 ev127 => ?_)
                    have tv127 := a_add ev127 (by omega) (by omega)
                    refine m_puti (1000) 25 hx hb hts hown hE oc10 hM hS hJ.1 rfl (by decide) rfl rfl rfl rfl tb_1202 dX10_test_123 (fun H locs I128 eI128 hM hS => ?_)
                    subst eI128
                    have hI := hI.put (n := 1000) (k := 25) (v := v127) (lo := 0) (hi := 100000) rfl (by first | omega | decide)
                    have hK := hK.put (n := 1000) (k := 25) (v := v127) (by first | rfl | simp [inR])
                    refine lv_iconst (v := (1)) hx hb dX10_test_126 (by decide) ?_
                    refine lv_istore_n (lv' := [(1, .int (1)), (4, .int (r39)), (3, .int (r35)), (2, .int (x2_9)), (0, .ref (ad (1000)))]) hx hb dX10_test_127 rfl hl (by decide) rfl (fun ls hl => ?_)
                    refine lv_goto (tgt := 199) hx hb dX10_test_128 (by decide) ?_
                    refine lv_goto (tgt := 9) hx hb dX10_test_199 (by decide) ?_
                    have pw129 : ((u2 I100 (1000) 25 (v127)) (1000) 24).toInt = (Ia9 (1000) 24 : Int32).toInt := (congrArg Int32.toInt ((show (u2 I100 (1000) 25 (v127)) (1000) 24 = I100 (1000) 24 from by simp [u2_v]))).trans pw103
                    have pw130 : ((u2 I100 (1000) 25 (v127)) (1000) 25).toInt = (v127 : Int32).toInt := congrArg Int32.toInt ((show (u2 I100 (1000) 25 (v127)) (1000) 25 = v127 from by simp [u2_v]))
                    have pw131 : ((u2 I100 (1000) 25 (v127)) (1000) 26).toInt = (I100 (1000) 26 : Int32).toInt := congrArg Int32.toInt ((show (u2 I100 (1000) 25 (v127)) (1000) 26 = I100 (1000) 26 from by simp [u2_v]))
                    have pw132 : ((u2 I100 (1000) 25 (v127)) (1000) 27).toInt = (Ia9 (1000) 27 : Int32).toInt := (congrArg Int32.toInt ((show (u2 I100 (1000) 25 (v127)) (1000) 27 = I100 (1000) 27 from by simp [u2_v]))).trans pw105
                    have pw133 : ((u2 I100 (1000) 25 (v127)) (1000) 29).toInt = (I44 (1000) 29 : Int32).toInt := (congrArg Int32.toInt ((show (u2 I100 (1000) 25 (v127)) (1000) 29 = I100 (1000) 29 from by simp [u2_v]))).trans pw106
                    have pw134 : ((u2 I100 (1000) 25 (v127)) (1000) 31).toInt = (Ia9 (1000) 31 : Int32).toInt := (congrArg Int32.toInt ((show (u2 I100 (1000) 25 (v127)) (1000) 31 = I100 (1000) 31 from by simp [u2_v]))).trans pw107
                    have pw135 : ((u2 I100 (1000) 25 (v127)) (1000) 32).toInt = (I100 (1000) 32 : Int32).toInt := congrArg Int32.toInt ((show (u2 I100 (1000) 25 (v127)) (1000) 32 = I100 (1000) 32 from by simp [u2_v]))
                    replace hC := CT.link (I2 := (u2 I100 (1000) 25 (v127))) hC (((show (u2 I100 (1000) 25 (v127)) 1035 = I100 1035 from by funext zz; simp [u2_v])).trans (hkI100.getA 1035 rfl)) (((show (u2 I100 (1000) 25 (v127)) 1036 = I100 1036 from by funext zz; simp [u2_v])).trans (hkI100.getA 1036 rfl)) (by omega) (fun hz => by have w0 := xI100.2.1 (by omega); omega)
                    have nn136 := NS_of (I2 := (u2 I100 (1000) 25 (v127))) (I := I100) ((show (u2 I100 (1000) 25 (v127)) 1042 = I100 1042 from by funext zz; simp [u2_v])) (by omega)
                    have pw137 : ((u2 I100 (1000) 25 (v127)) (1000) 30).toInt = (I100 (1000) 30 : Int32).toInt := congrArg Int32.toInt ((show (u2 I100 (1000) 25 (v127)) (1000) 30 = I100 (1000) 30 from by simp [u2_v]))
                    have gP9 := hI.get 1000 25 (lo := 0) (hi := 100000) rfl
                    have gO9 := hI.get 1000 32 (lo := 0) (hi := 402) rfl
                    have hT1 := hTS
                    rw [show (x1_9).toInt = 0 from by omega, show (x2_9).toInt = 1 from by omega] at hT1
                    have hq0 : (I25 1000 25).toNatClampNeg = skp (TM I) (Ia9 1000 25).toNatClampNeg := by rw [nw34, show (I14 1000 25).toNatClampNeg = (Ia9 1000 25).toNatClampNeg from cl_eq (by omega)]
                    have z1 := tn (i := I25 1000 25) (by omega)
                    have z2 := tn (i := (u2 I100 (1000) 25 (v127)) 1000 25) (by omega)
                    rw [(RK_of (J := I14) (J2 := I25) ((hkI25.getA 1042 rfl)) (by omega)), (RC_of (J := I14) (J2 := I25) ((hkI25.getA 1035 rfl)) ((hkI25.getA 1036 rfl)) (by omega) (by omega)), show I25 1000 30 = I14 1000 30 from Int32.toInt_inj.mp (by omega)] at an52
                    have hz2 := pz2_of an24 an52
                    have gR7 := RC_len (J := Ia9) gE99.1
                    have hdo := xI100.1.2.2 (by decide)
                    exact ih9 (x2_9) (1) (u2 I100 (1000) 25 (v127)) L101 _ _ ls hI hK (by first | omega | decide) (by first | omega | decide) (by omega) (fun hz => by have w0 := xI100.2.1 (by omega); omega) (by rw [show NB (u2 I100 (1000) 25 (v127)) + (1 - (1 : Int32).toInt).toNat = dd from by omega]; exact hC) (by rw [show (1 : Int32).toInt = 1 from by omega, show (x2_9 : Int32).toInt = 1 from by omega]; exact tsi_sign (q := (I25 1000 25).toNatClampNeg) (o := -24) (z := (RK I44, I44 1000 30, RC I44)) hT1 (by omega) hq0 (tk_and sc126).1 (Or.inl ⟨rfl, hz2.symm⟩) (by omega) (by omega) (by rw [(tk_and sc126).2.1]; omega) (by omega) (RC_of (J := I44) (J2 := (u2 I100 (1000) 25 (v127))) (((show (u2 I100 (1000) 25 (v127)) 1035 = I100 1035 from by funext zz; simp [u2_v])).trans (hkI100.getA 1035 rfl)) (((show (u2 I100 (1000) 25 (v127)) 1036 = I100 1036 from by funext zz; simp [u2_v])).trans (hkI100.getA 1036 rfl)) (by omega) (by omega)) (((RK_of (J := I100) (J2 := (u2 I100 (1000) 25 (v127))) ((show (u2 I100 (1000) 25 (v127)) 1042 = I100 1042 from by funext zz; simp [u2_v])) (by omega))).trans (xI100.1.1.trans (by rw [(RK_of (J := I44) (J2 := I44) (rfl) (by omega)), show encs (10 : Int32).toInt = -24 from by decide]))) (show (u2 I100 (1000) 25 (v127)) 1000 30 = I44 1000 30 from (Int32.toInt_inj.mp (by omega)).trans (hdo.1.trans (Int32.toInt_inj.mp (by omega))))) (by omega) hM hS (lv_sub hl [3, 0, 4] rfl)
              · have hc56 := c56
                have q56 := q_ne hc56
                have sg138 := slr39 (by omega)
                have sc139 := sx42.y (by omega)
                refine lv_aload_n hx hb dX10_test_87 rfl (lv_at hl 4 rfl) ?_
                refine lv_bipush (v := (11)) hx hb dX10_test_88 (by decide) ?_
                refine m_callv (m_runV (1000) (As := [.int (11)]) (rest := []) hx hb hml hown hts hE hM hS hA ce_X10_answers tb_1594 (V_X10_answers_h l D A ad ns I44 L45 G (11) hJ hI (by decide) (fun hz => by omega)) rfl rfl ⟨Nat.le_of_ble_eq_true rfl, Nat.le_of_ble_eq_true rfl⟩ hJ.1 rfl rfl (by decide) rfl hl.1 rfl (Nat.le_of_ble_eq_true rfl) dX10_test_90 ⟨Nat.le_of_ble_eq_true rfl, Nat.le_of_ble_eq_true rfl⟩) hS (fun u H locs hw hM hS => ?_)
                obtain ⟨I140, L141, rfl, hI, hkI140, xI140⟩ := hw
                have hM : Mem D A ad ns I140 L141 G H := hM
                have hK := hK.trans hkI140 rfl
                have g142 := hI.get 1000 32 (lo := 0) (hi := 402) rfl
                have pw143 : (I140 (1000) 24).toInt = (Ia9 (1000) 24 : Int32).toInt := (congrArg Int32.toInt ((hkI140.get (1000) 24 rfl))).trans pw47
                have pw144 : (I140 (1000) 25).toInt = (I25 (1000) 25 : Int32).toInt := (congrArg Int32.toInt ((hkI140.get (1000) 25 rfl))).trans pw48
                have pw145 : (I140 (1000) 26).toInt = (Ia9 (1000) 26 : Int32).toInt := (congrArg Int32.toInt ((hkI140.get (1000) 26 rfl))).trans pw49
                have pw146 : (I140 (1000) 27).toInt = (Ia9 (1000) 27 : Int32).toInt := (congrArg Int32.toInt ((hkI140.get (1000) 27 rfl))).trans pw50
                have pw147 : (I140 (1000) 31).toInt = (Ia9 (1000) 31 : Int32).toInt := (congrArg Int32.toInt ((hkI140.get (1000) 31 rfl))).trans pw51
                replace hC := CT.comp (n1 := NB I44 + 1) (by rw [show NB I44 + 1 = dd from by omega]; exact hC) (xI140.2.2.2.2) (by omega) (by omega) (by omega) (by omega) (fun hz => by omega)
                obtain ⟨dd, hdd⟩ : ∃ z : Nat, z = NB I140 + 1 := ⟨_, rfl⟩
                rw [← hdd] at hC
                have an148 := xI140.1 (by omega)
                rw [show encs (11 : Int32).toInt = -25 from by decide] at an148
                refine lv_aload_n hx hb dX10_test_93 rfl (lv_at hl 4 rfl) ?_
                refine lv_iload_n hx hb dX10_test_94 rfl (lv_at hl 1 rfl) ?_
                refine lv_if_eq (tgt := 103) hx hb dX10_test_95 (by decide) (fun c149 => ?_) (fun c149 => ?_)
                · have hc149 := c149
                  have q149 := q_eq hc149
                  have sc150 := sx38.n (by omega)
                  refine lv_bipush (v := (11)) hx hb dX10_test_103 (by decide) ?_
                  refine m_callv (m_runV (1000) (As := [.int (11)]) (rest := []) hx hb hml hown hts hE hM hS hA ce_X10_opens tb_1586 (V_X10_opens_h l D A ad ns I140 L141 G (11) hJ hI (by first | omega | decide) (by omega)) rfl rfl ⟨Nat.le_of_ble_eq_true rfl, Nat.le_of_ble_eq_true rfl⟩ hJ.1 rfl rfl (by decide) rfl hl.1 rfl (Nat.le_of_ble_eq_true rfl) dX10_test_105 ⟨Nat.le_of_ble_eq_true rfl, Nat.le_of_ble_eq_true rfl⟩) hS (fun u H locs hw hM hS => ?_)
                  obtain ⟨I151, L152, rfl, hI, hkI151, xI151⟩ := hw
                  have hM : Mem D A ad ns I151 L152 G H := hM
                  have hK := hK.trans hkI151 rfl
                  have g153 := hI.get 1000 32 (lo := 0) (hi := 402) rfl
                  have pw154 : (I151 (1000) 24).toInt = (Ia9 (1000) 24 : Int32).toInt := (congrArg Int32.toInt ((hkI151.get (1000) 24 rfl))).trans pw143
                  have pw155 : (I151 (1000) 25).toInt = (I25 (1000) 25 : Int32).toInt := (congrArg Int32.toInt ((hkI151.get (1000) 25 rfl))).trans pw144
                  have pw156 : (I151 (1000) 27).toInt = (Ia9 (1000) 27 : Int32).toInt := (congrArg Int32.toInt ((hkI151.get (1000) 27 rfl))).trans pw146
                  have pw157 : (I151 (1000) 29).toInt = (I140 (1000) 29 : Int32).toInt := congrArg Int32.toInt ((hkI151.get (1000) 29 rfl))
                  have pw158 : (I151 (1000) 31).toInt = (Ia9 (1000) 31 : Int32).toInt := (congrArg Int32.toInt ((hkI151.get (1000) 31 rfl))).trans pw147
                  have pv159 : pN 11 = 1 ∧ pB 11 = 1 := by decide
                  have po160 := xI151.2.2
                  refine lv_aload_n hx hb dX10_test_108 rfl (lv_at hl 4 rfl) ?_
                  refine lv_dup hx hb dX10_test_109 rfl ?_
                  refine m_geti (1000) 25 hx hb hts hown hE oc10 hM hJ.1 rfl (by decide) rfl tb_1202 dX10_test_110 ?_
                  have g161 := hI.get (1000) 25 (lo := 0) (hi := 100000) rfl
                  have z162 : I151 (1000) 25 = I25 (1000) 25 := (((hkI151.get (1000) 25 rfl)).trans (hkI140.get (1000) 25 rfl)).trans (hkI44.get (1000) 25 rfl)
                  rw [z162] at g161 ⊢
                  refine lv_iload_n hx hb dX10_test_113 rfl (lv_at hl 1 rfl) ?_
                  refine lv_if_eq (tgt := 121) hx hb dX10_test_114 (by decide) (fun c163 => ?_) (fun c163 => ?_)
                  · have hc163 := c163
                    have q163 := q_eq hc163
                    have sc164 := sx38.n (by omega)
                    refine lv_iconst (v := (2)) hx hb dX10_test_121 (by decide) ?_
                    refine lv_iadd hx hb dX10_test_122 ?_
                    refine lv_topi (fun v165 ev165 => ?_)
                    have tv165 := a_add ev165 (by omega) (by omega)
                    refine m_puti (1000) 25 hx hb hts hown hE oc10 hM hS hJ.1 rfl (by decide) rfl rfl rfl rfl tb_1202 dX10_test_123 (fun H locs I166 eI166 hM hS => ?_)
                    subst eI166
                    have hI := hI.put (n := 1000) (k := 25) (v := v165) (lo := 0) (hi := 100000) rfl (by first | omega | decide)
                    have hK := hK.put (n := 1000) (k := 25) (v := v165) (by first | rfl | simp [inR])
                    refine lv_iconst (v := (1)) hx hb dX10_test_126 (by decide) ?_
                    refine lv_istore_n (lv' := [(1, .int (1)), (4, .int (r39)), (3, .int (r35)), (2, .int (x2_9)), (0, .ref (ad (1000)))]) hx hb dX10_test_127 rfl hl (by decide) rfl (fun ls hl => ?_)
                    refine lv_goto (tgt := 199) hx hb dX10_test_128 (by decide) ?_
                    refine lv_goto (tgt := 9) hx hb dX10_test_199 (by decide) ?_
                    have pw167 : ((u2 I151 (1000) 25 (v165)) (1000) 24).toInt = (Ia9 (1000) 24 : Int32).toInt := (congrArg Int32.toInt ((show (u2 I151 (1000) 25 (v165)) (1000) 24 = I151 (1000) 24 from by simp [u2_v]))).trans pw154
                    have pw168 : ((u2 I151 (1000) 25 (v165)) (1000) 25).toInt = (v165 : Int32).toInt := congrArg Int32.toInt ((show (u2 I151 (1000) 25 (v165)) (1000) 25 = v165 from by simp [u2_v]))
                    have pw169 : ((u2 I151 (1000) 25 (v165)) (1000) 26).toInt = (I151 (1000) 26 : Int32).toInt := congrArg Int32.toInt ((show (u2 I151 (1000) 25 (v165)) (1000) 26 = I151 (1000) 26 from by simp [u2_v]))
                    have pw170 : ((u2 I151 (1000) 25 (v165)) (1000) 27).toInt = (Ia9 (1000) 27 : Int32).toInt := (congrArg Int32.toInt ((show (u2 I151 (1000) 25 (v165)) (1000) 27 = I151 (1000) 27 from by simp [u2_v]))).trans pw156
                    have pw171 : ((u2 I151 (1000) 25 (v165)) (1000) 29).toInt = (I140 (1000) 29 : Int32).toInt := (congrArg Int32.toInt ((show (u2 I151 (1000) 25 (v165)) (1000) 29 = I151 (1000) 29 from by simp [u2_v]))).trans pw157
                    have pw172 : ((u2 I151 (1000) 25 (v165)) (1000) 31).toInt = (Ia9 (1000) 31 : Int32).toInt := (congrArg Int32.toInt ((show (u2 I151 (1000) 25 (v165)) (1000) 31 = I151 (1000) 31 from by simp [u2_v]))).trans pw158
                    have pw173 : ((u2 I151 (1000) 25 (v165)) (1000) 32).toInt = (I151 (1000) 32 : Int32).toInt := congrArg Int32.toInt ((show (u2 I151 (1000) 25 (v165)) (1000) 32 = I151 (1000) 32 from by simp [u2_v]))
                    replace hC := CT.link (I2 := (u2 I151 (1000) 25 (v165))) hC (((show (u2 I151 (1000) 25 (v165)) 1035 = I151 1035 from by funext zz; simp [u2_v])).trans (hkI151.getA 1035 rfl)) (((show (u2 I151 (1000) 25 (v165)) 1036 = I151 1036 from by funext zz; simp [u2_v])).trans (hkI151.getA 1036 rfl)) (by omega) (fun hz => by have w0 := xI151.2.1 (by omega); omega)
                    have nn174 := NS_of (I2 := (u2 I151 (1000) 25 (v165))) (I := I151) ((show (u2 I151 (1000) 25 (v165)) 1042 = I151 1042 from by funext zz; simp [u2_v])) (by omega)
                    have pw175 : ((u2 I151 (1000) 25 (v165)) (1000) 30).toInt = (I151 (1000) 30 : Int32).toInt := congrArg Int32.toInt ((show (u2 I151 (1000) 25 (v165)) (1000) 30 = I151 (1000) 30 from by simp [u2_v]))
                    have gP9 := hI.get 1000 25 (lo := 0) (hi := 100000) rfl
                    have gO9 := hI.get 1000 32 (lo := 0) (hi := 402) rfl
                    have hT1 := hTS
                    rw [show (x1_9).toInt = 0 from by omega, show (x2_9).toInt = 1 from by omega] at hT1
                    have hq0 : (I25 1000 25).toNatClampNeg = skp (TM I) (Ia9 1000 25).toNatClampNeg := by rw [nw34, show (I14 1000 25).toNatClampNeg = (Ia9 1000 25).toNatClampNeg from cl_eq (by omega)]
                    have z1 := tn (i := I25 1000 25) (by omega)
                    have z2 := tn (i := (u2 I151 (1000) 25 (v165)) 1000 25) (by omega)
                    rw [(RK_of (J := I14) (J2 := I25) ((hkI25.getA 1042 rfl)) (by omega)), (RC_of (J := I14) (J2 := I25) ((hkI25.getA 1035 rfl)) ((hkI25.getA 1036 rfl)) (by omega) (by omega)), show I25 1000 30 = I14 1000 30 from Int32.toInt_inj.mp (by omega)] at an52
                    have hz2 := pz2_of an24 an52
                    have gR7 := RC_len (J := Ia9) gE99.1
                    rw [(RK_of (J := I44) (J2 := I44) (rfl) (by omega)), (RC_of (J := I44) (J2 := I44) (rfl) (rfl) (by omega) (by omega)), show I44 1000 30 = I44 1000 30 from Int32.toInt_inj.mp (by omega)] at an148
                    have hz3 := pz3_of hz2 an148
                    exact ih9 (x2_9) (1) (u2 I151 (1000) 25 (v165)) L152 _ _ ls hI hK (by first | omega | decide) (by first | omega | decide) (by omega) (fun hz => by have w0 := xI151.2.1 (by omega); omega) (by rw [show NB (u2 I151 (1000) 25 (v165)) + (1 - (1 : Int32).toInt).toNat = dd from by omega]; exact hC) (by exfalso; omega) (by omega) hM hS (lv_sub hl [3, 0, 4] rfl)
                  · have hc163 := c163
                    have q163 := q_ne hc163
                    have sg176 := slr35 (by omega)
                    have sc177 := sx38.y (by omega)
                    refine lv_iconst (v := (3)) hx hb dX10_test_117 (by decide) ?_
                    refine lv_goto (tgt := 122) hx hb dX10_test_118 (by decide) ?_
                    refine lv_iadd hx hb dX10_test_122 ?_
                    refine lv_topi (fun v178 ev178 => ?_)
                    have tv178 := a_add ev178 (by omega) (by omega)
                    refine m_puti (1000) 25 hx hb hts hown hE oc10 hM hS hJ.1 rfl (by decide) rfl rfl rfl rfl tb_1202 dX10_test_123 (fun H locs I179 eI179 hM hS => ?_)
                    subst eI179
                    have hI := hI.put (n := 1000) (k := 25) (v := v178) (lo := 0) (hi := 100000) rfl (by first | omega | decide)
                    have hK := hK.put (n := 1000) (k := 25) (v := v178) (by first | rfl | simp [inR])
                    refine lv_iconst (v := (1)) hx hb dX10_test_126 (by decide) ?_
                    refine lv_istore_n (lv' := [(1, .int (1)), (4, .int (r39)), (3, .int (r35)), (2, .int (x2_9)), (0, .ref (ad (1000)))]) hx hb dX10_test_127 rfl hl (by decide) rfl (fun ls hl => ?_)
                    refine lv_goto (tgt := 199) hx hb dX10_test_128 (by decide) ?_
                    refine lv_goto (tgt := 9) hx hb dX10_test_199 (by decide) ?_
                    have pw180 : ((u2 I151 (1000) 25 (v178)) (1000) 24).toInt = (Ia9 (1000) 24 : Int32).toInt := (congrArg Int32.toInt ((show (u2 I151 (1000) 25 (v178)) (1000) 24 = I151 (1000) 24 from by simp [u2_v]))).trans pw154
                    have pw181 : ((u2 I151 (1000) 25 (v178)) (1000) 25).toInt = (v178 : Int32).toInt := congrArg Int32.toInt ((show (u2 I151 (1000) 25 (v178)) (1000) 25 = v178 from by simp [u2_v]))
                    have pw182 : ((u2 I151 (1000) 25 (v178)) (1000) 26).toInt = (I151 (1000) 26 : Int32).toInt := congrArg Int32.toInt ((show (u2 I151 (1000) 25 (v178)) (1000) 26 = I151 (1000) 26 from by simp [u2_v]))
                    have pw183 : ((u2 I151 (1000) 25 (v178)) (1000) 27).toInt = (Ia9 (1000) 27 : Int32).toInt := (congrArg Int32.toInt ((show (u2 I151 (1000) 25 (v178)) (1000) 27 = I151 (1000) 27 from by simp [u2_v]))).trans pw156
                    have pw184 : ((u2 I151 (1000) 25 (v178)) (1000) 29).toInt = (I140 (1000) 29 : Int32).toInt := (congrArg Int32.toInt ((show (u2 I151 (1000) 25 (v178)) (1000) 29 = I151 (1000) 29 from by simp [u2_v]))).trans pw157
                    have pw185 : ((u2 I151 (1000) 25 (v178)) (1000) 31).toInt = (Ia9 (1000) 31 : Int32).toInt := (congrArg Int32.toInt ((show (u2 I151 (1000) 25 (v178)) (1000) 31 = I151 (1000) 31 from by simp [u2_v]))).trans pw158
                    have pw186 : ((u2 I151 (1000) 25 (v178)) (1000) 32).toInt = (I151 (1000) 32 : Int32).toInt := congrArg Int32.toInt ((show (u2 I151 (1000) 25 (v178)) (1000) 32 = I151 (1000) 32 from by simp [u2_v]))
                    replace hC := CT.link (I2 := (u2 I151 (1000) 25 (v178))) hC (((show (u2 I151 (1000) 25 (v178)) 1035 = I151 1035 from by funext zz; simp [u2_v])).trans (hkI151.getA 1035 rfl)) (((show (u2 I151 (1000) 25 (v178)) 1036 = I151 1036 from by funext zz; simp [u2_v])).trans (hkI151.getA 1036 rfl)) (by omega) (fun hz => by have w0 := xI151.2.1 (by omega); omega)
                    have nn187 := NS_of (I2 := (u2 I151 (1000) 25 (v178))) (I := I151) ((show (u2 I151 (1000) 25 (v178)) 1042 = I151 1042 from by funext zz; simp [u2_v])) (by omega)
                    have pw188 : ((u2 I151 (1000) 25 (v178)) (1000) 30).toInt = (I151 (1000) 30 : Int32).toInt := congrArg Int32.toInt ((show (u2 I151 (1000) 25 (v178)) (1000) 30 = I151 (1000) 30 from by simp [u2_v]))
                    have gP9 := hI.get 1000 25 (lo := 0) (hi := 100000) rfl
                    have gO9 := hI.get 1000 32 (lo := 0) (hi := 402) rfl
                    have hT1 := hTS
                    rw [show (x1_9).toInt = 0 from by omega, show (x2_9).toInt = 1 from by omega] at hT1
                    have hq0 : (I25 1000 25).toNatClampNeg = skp (TM I) (Ia9 1000 25).toNatClampNeg := by rw [nw34, show (I14 1000 25).toNatClampNeg = (Ia9 1000 25).toNatClampNeg from cl_eq (by omega)]
                    have z1 := tn (i := I25 1000 25) (by omega)
                    have z2 := tn (i := (u2 I151 (1000) 25 (v178)) 1000 25) (by omega)
                    rw [(RK_of (J := I14) (J2 := I25) ((hkI25.getA 1042 rfl)) (by omega)), (RC_of (J := I14) (J2 := I25) ((hkI25.getA 1035 rfl)) ((hkI25.getA 1036 rfl)) (by omega) (by omega)), show I25 1000 30 = I14 1000 30 from Int32.toInt_inj.mp (by omega)] at an52
                    have hz2 := pz2_of an24 an52
                    have gR7 := RC_len (J := Ia9) gE99.1
                    rw [(RK_of (J := I44) (J2 := I44) (rfl) (by omega)), (RC_of (J := I44) (J2 := I44) (rfl) (rfl) (by omega) (by omega)), show I44 1000 30 = I44 1000 30 from Int32.toInt_inj.mp (by omega)] at an148
                    have hz3 := pz3_of hz2 an148
                    exact ih9 (x2_9) (1) (u2 I151 (1000) 25 (v178)) L152 _ _ ls hI hK (by first | omega | decide) (by first | omega | decide) (by omega) (fun hz => by have w0 := xI151.2.1 (by omega); omega) (by rw [show NB (u2 I151 (1000) 25 (v178)) + (1 - (1 : Int32).toInt).toNat = dd from by omega]; exact hC) (by exfalso; omega) (by omega) hM hS (lv_sub hl [3, 0, 4] rfl)
                · have hc149 := c149
                  have q149 := q_ne hc149
                  have sg189 := slr35 (by omega)
                  have sc190 := sx38.y (by omega)
                  refine lv_bipush (v := (10)) hx hb dX10_test_98 (by decide) ?_
                  refine lv_goto (tgt := 105) hx hb dX10_test_100 (by decide) ?_
                  refine m_callv (m_runV (1000) (As := [.int (10)]) (rest := []) hx hb hml hown hts hE hM hS hA ce_X10_opens tb_1586 (V_X10_opens_h l D A ad ns I140 L141 G (10) hJ hI (by first | omega | decide) (by omega)) rfl rfl ⟨Nat.le_of_ble_eq_true rfl, Nat.le_of_ble_eq_true rfl⟩ hJ.1 rfl rfl (by decide) rfl hl.1 rfl (Nat.le_of_ble_eq_true rfl) dX10_test_105 ⟨Nat.le_of_ble_eq_true rfl, Nat.le_of_ble_eq_true rfl⟩) hS (fun u H locs hw hM hS => ?_)
                  obtain ⟨I191, L192, rfl, hI, hkI191, xI191⟩ := hw
                  have hM : Mem D A ad ns I191 L192 G H := hM
                  have hK := hK.trans hkI191 rfl
                  have g193 := hI.get 1000 32 (lo := 0) (hi := 402) rfl
                  have pw194 : (I191 (1000) 24).toInt = (Ia9 (1000) 24 : Int32).toInt := (congrArg Int32.toInt ((hkI191.get (1000) 24 rfl))).trans pw143
                  have pw195 : (I191 (1000) 25).toInt = (I25 (1000) 25 : Int32).toInt := (congrArg Int32.toInt ((hkI191.get (1000) 25 rfl))).trans pw144
                  have pw196 : (I191 (1000) 27).toInt = (Ia9 (1000) 27 : Int32).toInt := (congrArg Int32.toInt ((hkI191.get (1000) 27 rfl))).trans pw146
                  have pw197 : (I191 (1000) 29).toInt = (I140 (1000) 29 : Int32).toInt := congrArg Int32.toInt ((hkI191.get (1000) 29 rfl))
                  have pw198 : (I191 (1000) 31).toInt = (Ia9 (1000) 31 : Int32).toInt := (congrArg Int32.toInt ((hkI191.get (1000) 31 rfl))).trans pw147
                  have pv199 : pN 10 = 1 ∧ pB 10 = 1 := by decide
                  have po200 := xI191.2.2
                  refine lv_aload_n hx hb dX10_test_108 rfl (lv_at hl 4 rfl) ?_
                  refine lv_dup hx hb dX10_test_109 rfl ?_
                  refine m_geti (1000) 25 hx hb hts hown hE oc10 hM hJ.1 rfl (by decide) rfl tb_1202 dX10_test_110 ?_
                  have g201 := hI.get (1000) 25 (lo := 0) (hi := 100000) rfl
                  have z202 : I191 (1000) 25 = I25 (1000) 25 := (((hkI191.get (1000) 25 rfl)).trans (hkI140.get (1000) 25 rfl)).trans (hkI44.get (1000) 25 rfl)
                  rw [z202] at g201 ⊢
                  refine lv_iload_n hx hb dX10_test_113 rfl (lv_at hl 1 rfl) ?_
                  refine lv_if_eq (tgt := 121) hx hb dX10_test_114 (by decide) (fun c203 => ?_) (fun c203 => ?_)
                  · have hc203 := c203
                    have q203 := q_eq hc203
                    have sc204 := sx38.n (by omega)
                    refine lv_iconst (v := (2)) hx hb dX10_test_121 (by decide) ?_
                    refine lv_iadd hx hb dX10_test_122 ?_
                    refine lv_topi (fun v205 ev205 => ?_)
                    have tv205 := a_add ev205 (by omega) (by omega)
                    refine m_puti (1000) 25 hx hb hts hown hE oc10 hM hS hJ.1 rfl (by decide) rfl rfl rfl rfl tb_1202 dX10_test_123 (fun H locs I206 eI206 hM hS => ?_)
                    subst eI206
                    have hI := hI.put (n := 1000) (k := 25) (v := v205) (lo := 0) (hi := 100000) rfl (by first | omega | decide)
                    have hK := hK.put (n := 1000) (k := 25) (v := v205) (by first | rfl | simp [inR])
                    refine lv_iconst (v := (1)) hx hb dX10_test_126 (by decide) ?_
                    refine lv_istore_n (lv' := [(1, .int (1)), (4, .int (r39)), (3, .int (r35)), (2, .int (x2_9)), (0, .ref (ad (1000)))]) hx hb dX10_test_127 rfl hl (by decide) rfl (fun ls hl => ?_)
                    refine lv_goto (tgt := 199) hx hb dX10_test_128 (by decide) ?_
                    refine lv_goto (tgt := 9) hx hb dX10_test_199 (by decide) ?_
                    have pw207 : ((u2 I191 (1000) 25 (v205)) (1000) 24).toInt = (Ia9 (1000) 24 : Int32).toInt := (congrArg Int32.toInt ((show (u2 I191 (1000) 25 (v205)) (1000) 24 = I191 (1000) 24 from by simp [u2_v]))).trans pw194
                    have pw208 : ((u2 I191 (1000) 25 (v205)) (1000) 25).toInt = (v205 : Int32).toInt := congrArg Int32.toInt ((show (u2 I191 (1000) 25 (v205)) (1000) 25 = v205 from by simp [u2_v]))
                    have pw209 : ((u2 I191 (1000) 25 (v205)) (1000) 26).toInt = (I191 (1000) 26 : Int32).toInt := congrArg Int32.toInt ((show (u2 I191 (1000) 25 (v205)) (1000) 26 = I191 (1000) 26 from by simp [u2_v]))
                    have pw210 : ((u2 I191 (1000) 25 (v205)) (1000) 27).toInt = (Ia9 (1000) 27 : Int32).toInt := (congrArg Int32.toInt ((show (u2 I191 (1000) 25 (v205)) (1000) 27 = I191 (1000) 27 from by simp [u2_v]))).trans pw196
                    have pw211 : ((u2 I191 (1000) 25 (v205)) (1000) 29).toInt = (I140 (1000) 29 : Int32).toInt := (congrArg Int32.toInt ((show (u2 I191 (1000) 25 (v205)) (1000) 29 = I191 (1000) 29 from by simp [u2_v]))).trans pw197
                    have pw212 : ((u2 I191 (1000) 25 (v205)) (1000) 31).toInt = (Ia9 (1000) 31 : Int32).toInt := (congrArg Int32.toInt ((show (u2 I191 (1000) 25 (v205)) (1000) 31 = I191 (1000) 31 from by simp [u2_v]))).trans pw198
                    have pw213 : ((u2 I191 (1000) 25 (v205)) (1000) 32).toInt = (I191 (1000) 32 : Int32).toInt := congrArg Int32.toInt ((show (u2 I191 (1000) 25 (v205)) (1000) 32 = I191 (1000) 32 from by simp [u2_v]))
                    replace hC := CT.link (I2 := (u2 I191 (1000) 25 (v205))) hC (((show (u2 I191 (1000) 25 (v205)) 1035 = I191 1035 from by funext zz; simp [u2_v])).trans (hkI191.getA 1035 rfl)) (((show (u2 I191 (1000) 25 (v205)) 1036 = I191 1036 from by funext zz; simp [u2_v])).trans (hkI191.getA 1036 rfl)) (by omega) (fun hz => by have w0 := xI191.2.1 (by omega); omega)
                    have nn214 := NS_of (I2 := (u2 I191 (1000) 25 (v205))) (I := I191) ((show (u2 I191 (1000) 25 (v205)) 1042 = I191 1042 from by funext zz; simp [u2_v])) (by omega)
                    have pw215 : ((u2 I191 (1000) 25 (v205)) (1000) 30).toInt = (I191 (1000) 30 : Int32).toInt := congrArg Int32.toInt ((show (u2 I191 (1000) 25 (v205)) (1000) 30 = I191 (1000) 30 from by simp [u2_v]))
                    have gP9 := hI.get 1000 25 (lo := 0) (hi := 100000) rfl
                    have gO9 := hI.get 1000 32 (lo := 0) (hi := 402) rfl
                    have hT1 := hTS
                    rw [show (x1_9).toInt = 0 from by omega, show (x2_9).toInt = 1 from by omega] at hT1
                    have hq0 : (I25 1000 25).toNatClampNeg = skp (TM I) (Ia9 1000 25).toNatClampNeg := by rw [nw34, show (I14 1000 25).toNatClampNeg = (Ia9 1000 25).toNatClampNeg from cl_eq (by omega)]
                    have z1 := tn (i := I25 1000 25) (by omega)
                    have z2 := tn (i := (u2 I191 (1000) 25 (v205)) 1000 25) (by omega)
                    rw [(RK_of (J := I14) (J2 := I25) ((hkI25.getA 1042 rfl)) (by omega)), (RC_of (J := I14) (J2 := I25) ((hkI25.getA 1035 rfl)) ((hkI25.getA 1036 rfl)) (by omega) (by omega)), show I25 1000 30 = I14 1000 30 from Int32.toInt_inj.mp (by omega)] at an52
                    have hz2 := pz2_of an24 an52
                    have gR7 := RC_len (J := Ia9) gE99.1
                    rw [(RK_of (J := I44) (J2 := I44) (rfl) (by omega)), (RC_of (J := I44) (J2 := I44) (rfl) (rfl) (by omega) (by omega)), show I44 1000 30 = I44 1000 30 from Int32.toInt_inj.mp (by omega)] at an148
                    have hz3 := pz3_of hz2 an148
                    exact ih9 (x2_9) (1) (u2 I191 (1000) 25 (v205)) L192 _ _ ls hI hK (by first | omega | decide) (by first | omega | decide) (by omega) (fun hz => by have w0 := xI191.2.1 (by omega); omega) (by rw [show NB (u2 I191 (1000) 25 (v205)) + (1 - (1 : Int32).toInt).toNat = dd from by omega]; exact hC) (by exfalso; omega) (by omega) hM hS (lv_sub hl [3, 0, 4] rfl)
                  · have hc203 := c203
                    have q203 := q_ne hc203
                    have sg216 := slr35 (by omega)
                    have sc217 := sx38.y (by omega)
                    refine lv_iconst (v := (3)) hx hb dX10_test_117 (by decide) ?_
                    refine lv_goto (tgt := 122) hx hb dX10_test_118 (by decide) ?_
                    refine lv_iadd hx hb dX10_test_122 ?_
                    refine lv_topi (fun v218 ev218 => ?_)
                    have tv218 := a_add ev218 (by omega) (by omega)
                    refine m_puti (1000) 25 hx hb hts hown hE oc10 hM hS hJ.1 rfl (by decide) rfl rfl rfl rfl tb_1202 dX10_test_123 (fun H locs I219 eI219 hM hS => ?_)
                    subst eI219
                    have hI := hI.put (n := 1000) (k := 25) (v := v218) (lo := 0) (hi := 100000) rfl (by first | omega | decide)
                    have hK := hK.put (n := 1000) (k := 25) (v := v218) (by first | rfl | simp [inR])
                    refine lv_iconst (v := (1)) hx hb dX10_test_126 (by decide) ?_
                    refine lv_istore_n (lv' := [(1, .int (1)), (4, .int (r39)), (3, .int (r35)), (2, .int (x2_9)), (0, .ref (ad (1000)))]) hx hb dX10_test_127 rfl hl (by decide) rfl (fun ls hl => ?_)
                    refine lv_goto (tgt := 199) hx hb dX10_test_128 (by decide) ?_
                    refine lv_goto (tgt := 9) hx hb dX10_test_199 (by decide) ?_
                    have pw220 : ((u2 I191 (1000) 25 (v218)) (1000) 24).toInt = (Ia9 (1000) 24 : Int32).toInt := (congrArg Int32.toInt ((show (u2 I191 (1000) 25 (v218)) (1000) 24 = I191 (1000) 24 from by simp [u2_v]))).trans pw194
                    have pw221 : ((u2 I191 (1000) 25 (v218)) (1000) 25).toInt = (v218 : Int32).toInt := congrArg Int32.toInt ((show (u2 I191 (1000) 25 (v218)) (1000) 25 = v218 from by simp [u2_v]))
                    have pw222 : ((u2 I191 (1000) 25 (v218)) (1000) 26).toInt = (I191 (1000) 26 : Int32).toInt := congrArg Int32.toInt ((show (u2 I191 (1000) 25 (v218)) (1000) 26 = I191 (1000) 26 from by simp [u2_v]))
                    have pw223 : ((u2 I191 (1000) 25 (v218)) (1000) 27).toInt = (Ia9 (1000) 27 : Int32).toInt := (congrArg Int32.toInt ((show (u2 I191 (1000) 25 (v218)) (1000) 27 = I191 (1000) 27 from by simp [u2_v]))).trans pw196
                    have pw224 : ((u2 I191 (1000) 25 (v218)) (1000) 29).toInt = (I140 (1000) 29 : Int32).toInt := (congrArg Int32.toInt ((show (u2 I191 (1000) 25 (v218)) (1000) 29 = I191 (1000) 29 from by simp [u2_v]))).trans pw197
                    have pw225 : ((u2 I191 (1000) 25 (v218)) (1000) 31).toInt = (Ia9 (1000) 31 : Int32).toInt := (congrArg Int32.toInt ((show (u2 I191 (1000) 25 (v218)) (1000) 31 = I191 (1000) 31 from by simp [u2_v]))).trans pw198
                    have pw226 : ((u2 I191 (1000) 25 (v218)) (1000) 32).toInt = (I191 (1000) 32 : Int32).toInt := congrArg Int32.toInt ((show (u2 I191 (1000) 25 (v218)) (1000) 32 = I191 (1000) 32 from by simp [u2_v]))
                    replace hC := CT.link (I2 := (u2 I191 (1000) 25 (v218))) hC (((show (u2 I191 (1000) 25 (v218)) 1035 = I191 1035 from by funext zz; simp [u2_v])).trans (hkI191.getA 1035 rfl)) (((show (u2 I191 (1000) 25 (v218)) 1036 = I191 1036 from by funext zz; simp [u2_v])).trans (hkI191.getA 1036 rfl)) (by omega) (fun hz => by have w0 := xI191.2.1 (by omega); omega)
                    have nn227 := NS_of (I2 := (u2 I191 (1000) 25 (v218))) (I := I191) ((show (u2 I191 (1000) 25 (v218)) 1042 = I191 1042 from by funext zz; simp [u2_v])) (by omega)
                    have pw228 : ((u2 I191 (1000) 25 (v218)) (1000) 30).toInt = (I191 (1000) 30 : Int32).toInt := congrArg Int32.toInt ((show (u2 I191 (1000) 25 (v218)) (1000) 30 = I191 (1000) 30 from by simp [u2_v]))
                    have gP9 := hI.get 1000 25 (lo := 0) (hi := 100000) rfl
                    have gO9 := hI.get 1000 32 (lo := 0) (hi := 402) rfl
                    have hT1 := hTS
                    rw [show (x1_9).toInt = 0 from by omega, show (x2_9).toInt = 1 from by omega] at hT1
                    have hq0 : (I25 1000 25).toNatClampNeg = skp (TM I) (Ia9 1000 25).toNatClampNeg := by rw [nw34, show (I14 1000 25).toNatClampNeg = (Ia9 1000 25).toNatClampNeg from cl_eq (by omega)]
                    have z1 := tn (i := I25 1000 25) (by omega)
                    have z2 := tn (i := (u2 I191 (1000) 25 (v218)) 1000 25) (by omega)
                    rw [(RK_of (J := I14) (J2 := I25) ((hkI25.getA 1042 rfl)) (by omega)), (RC_of (J := I14) (J2 := I25) ((hkI25.getA 1035 rfl)) ((hkI25.getA 1036 rfl)) (by omega) (by omega)), show I25 1000 30 = I14 1000 30 from Int32.toInt_inj.mp (by omega)] at an52
                    have hz2 := pz2_of an24 an52
                    have gR7 := RC_len (J := Ia9) gE99.1
                    rw [(RK_of (J := I44) (J2 := I44) (rfl) (by omega)), (RC_of (J := I44) (J2 := I44) (rfl) (rfl) (by omega) (by omega)), show I44 1000 30 = I44 1000 30 from Int32.toInt_inj.mp (by omega)] at an148
                    have hz3 := pz3_of hz2 an148
                    exact ih9 (x2_9) (1) (u2 I191 (1000) 25 (v218)) L192 _ _ ls hI hK (by first | omega | decide) (by first | omega | decide) (by omega) (fun hz => by have w0 := xI191.2.1 (by omega); omega) (by rw [show NB (u2 I191 (1000) 25 (v218)) + (1 - (1 : Int32).toInt).toNat = dd from by omega]; exact hC) (by exfalso; have wa := (tk_and sc55).2.2; have wo := (tk_or sc139).2.2; omega) (by omega) hM hS (lv_sub hl [3, 0, 4] rfl)
            · have hc53 := c53
              have q53 := q_eq hc53
              have sc229 := sx38.n (by omega)
              refine lv_iload hx hb dX10_test_77 (lv_at hl 0 rfl) ?_
              refine lv_if_eq (tgt := 131) hx hb dX10_test_79 (by decide) (fun c230 => ?_) (fun c230 => ?_)
              · have hc230 := c230
                have q230 := q_eq hc230
                have sc231 := sx42.n (by omega)
                refine lv_aload_n hx hb dX10_test_131 rfl (lv_at hl 4 rfl) ?_
                refine lv_bipush (v := (11)) hx hb dX10_test_132 (by decide) ?_
                refine m_callv (m_runV (1000) (As := [.int (11)]) (rest := []) hx hb hml hown hts hE hM hS hA ce_X10_answers tb_1594 (V_X10_answers_h l D A ad ns I44 L45 G (11) hJ hI (by decide) (fun hz => by omega)) rfl rfl ⟨Nat.le_of_ble_eq_true rfl, Nat.le_of_ble_eq_true rfl⟩ hJ.1 rfl rfl (by decide) rfl hl.1 rfl (Nat.le_of_ble_eq_true rfl) dX10_test_134 ⟨Nat.le_of_ble_eq_true rfl, Nat.le_of_ble_eq_true rfl⟩) hS (fun u H locs hw hM hS => ?_)
                obtain ⟨I232, L233, rfl, hI, hkI232, xI232⟩ := hw
                have hM : Mem D A ad ns I232 L233 G H := hM
                have hK := hK.trans hkI232 rfl
                have g234 := hI.get 1000 32 (lo := 0) (hi := 402) rfl
                have pw235 : (I232 (1000) 24).toInt = (Ia9 (1000) 24 : Int32).toInt := (congrArg Int32.toInt ((hkI232.get (1000) 24 rfl))).trans pw47
                have pw236 : (I232 (1000) 25).toInt = (I25 (1000) 25 : Int32).toInt := (congrArg Int32.toInt ((hkI232.get (1000) 25 rfl))).trans pw48
                have pw237 : (I232 (1000) 26).toInt = (Ia9 (1000) 26 : Int32).toInt := (congrArg Int32.toInt ((hkI232.get (1000) 26 rfl))).trans pw49
                have pw238 : (I232 (1000) 27).toInt = (Ia9 (1000) 27 : Int32).toInt := (congrArg Int32.toInt ((hkI232.get (1000) 27 rfl))).trans pw50
                have pw239 : (I232 (1000) 31).toInt = (Ia9 (1000) 31 : Int32).toInt := (congrArg Int32.toInt ((hkI232.get (1000) 31 rfl))).trans pw51
                replace hC := CT.comp (n1 := NB I44 + 1) (by rw [show NB I44 + 1 = dd from by omega]; exact hC) (xI232.2.2.2.2) (by omega) (by omega) (by omega) (by omega) (fun hz => by omega)
                obtain ⟨dd, hdd⟩ : ∃ z : Nat, z = NB I232 + 1 := ⟨_, rfl⟩
                rw [← hdd] at hC
                have an240 := xI232.1 (by omega)
                rw [show encs (11 : Int32).toInt = -25 from by decide] at an240
                refine lv_aload_n hx hb dX10_test_137 rfl (lv_at hl 4 rfl) ?_
                refine m_calli (m_runV (1000) (As := []) (rest := []) hx hb hml hown hts hE hM hS hA ce_X10_top tb_1598 (V_X10_top l D A ad ns I232 L233 G hJ hI) rfl rfl ⟨Nat.le_of_ble_eq_true rfl, Nat.le_of_ble_eq_true rfl⟩ hJ.1 rfl rfl (by decide) rfl hl.1 rfl (Nat.le_of_ble_eq_true rfl) dX10_test_138 ⟨Nat.le_of_ble_eq_true rfl, Nat.le_of_ble_eq_true rfl⟩) hS (fun r241 u H locs hw hM hS => ?_)
                obtain ⟨rfl, xr241⟩ := hw
                have hM : Mem D A ad ns I232 L233 G H := hM
                refine lv_bipush (v := (12)) hx hb dX10_test_141 (by decide) ?_
                refine lv_icmp_ne (tgt := 197) hx hb dX10_test_143 (by decide) (fun c242 => ?_) (fun c242 => ?_)
                · have hc242 := c242
                  have q242 := q_ne hc242
                  have htv := (top_v xr241 (k := 12) (by decide)).2 c242
                  refine lv_iconst (v := (0)) hx hb dX10_test_197 (by decide) ?_
                  refine lv_istore_n (lv' := [(2, .int (0)), (4, .int (r39)), (3, .int (r35)), (1, .int (x1_9)), (0, .ref (ad (1000)))]) hx hb dX10_test_198 rfl hl (by decide) rfl (fun ls hl => ?_)
                  refine lv_goto (tgt := 9) hx hb dX10_test_199 (by decide) ?_
                  have gP9 := hI.get 1000 25 (lo := 0) (hi := 100000) rfl
                  have gO9 := hI.get 1000 32 (lo := 0) (hi := 402) rfl
                  have hT1 := hTS
                  rw [show (x1_9).toInt = 0 from by omega, show (x2_9).toInt = 1 from by omega] at hT1
                  have hq0 : (I25 1000 25).toNatClampNeg = skp (TM I) (Ia9 1000 25).toNatClampNeg := by rw [nw34, show (I14 1000 25).toNatClampNeg = (Ia9 1000 25).toNatClampNeg from cl_eq (by omega)]
                  have z1 := tn (i := I25 1000 25) (by omega)
                  have z2 := tn (i := I232 1000 25) (by omega)
                  rw [(RK_of (J := I14) (J2 := I25) ((hkI25.getA 1042 rfl)) (by omega)), (RC_of (J := I14) (J2 := I25) ((hkI25.getA 1035 rfl)) ((hkI25.getA 1036 rfl)) (by omega) (by omega)), show I25 1000 30 = I14 1000 30 from Int32.toInt_inj.mp (by omega)] at an52
                  have hz2 := pz2_of an24 an52
                  have gR7 := RC_len (J := Ia9) gE99.1
                  rw [(RK_of (J := I44) (J2 := I44) (rfl) (by omega)), (RC_of (J := I44) (J2 := I44) (rfl) (rfl) (by omega) (by omega)), show I44 1000 30 = I44 1000 30 from Int32.toInt_inj.mp (by omega)] at an240
                  have hz3 := pz3_of hz2 an240
                  exact ih9 (0) (x1_9) I232 L233 _ _ ls hI hK (by first | omega | decide) (by first | omega | decide) (by omega) (fun hz => by omega) (by rw [show NB I232 + (1 - (x1_9 : Int32).toInt).toNat = dd from by omega]; exact hC) (by rw [show (0 : Int32).toInt = 0 from by omega]; exact tsi_end hT (q := (I25 1000 25).toNatClampNeg) hT1 (by omega) hq0 sc229 sc231 (fun l h => by rw [hz3] at h; have w1 := htv _ _ h; exact absurd ((encs_i (v := (I232 1042 ((I232 1000 32).toNatClampNeg - 1)).toInt)).2.2.2.mp w1.2.1.symm) (fun e => w1.2.2 (Int32.toInt_inj.mp e))) (by omega) (by omega) (by rw [show (I232 1000 25).toNatClampNeg = (I25 1000 25).toNatClampNeg from cl_eq (by omega), hq0, skp_i hT]) (by omega) (by rw [hz3] <;> exact (RC_of (J := I232) (J2 := I232) (rfl) (rfl) (by omega) (by omega))) (by rw [hz3] <;> exact Int32.toInt_inj.mp (by omega))) (by omega) hM hS (lv_sub hl [0, 3, 4] rfl)
                · have hc242 := c242
                  have q242 := q_eq hc242
                  have htk := top_k xr241 c242 (by decide)
                  have htp := htk.2.2
                  have hpv : pN 12 = 0 ∧ pB 12 = 0 := by decide
                  refine lv_aload_n hx hb dX10_test_146 rfl (lv_at hl 4 rfl) ?_
                  refine m_calli (m_runV (1000) (As := []) (rest := []) hx hb hml hown hts hE hM hS hA ce_X10_sign tb_1510 (V_X10_sign_h l D A ad ns I232 L233 G hJ hI) rfl rfl ⟨Nat.le_of_ble_eq_true rfl, Nat.le_of_ble_eq_true rfl⟩ hJ.1 rfl rfl (by decide) rfl hl.1 rfl (Nat.le_of_ble_eq_true rfl) dX10_test_147 ⟨Nat.le_of_ble_eq_true rfl, Nat.le_of_ble_eq_true rfl⟩) hS (fun r243 u H locs hw hM hS => ?_)
                  obtain ⟨rfl, xr243⟩ := hw
                  have hM : Mem D A ad ns I232 L233 G H := hM
                  have g244 := hI.get 1000 24 (lo := 0) (hi := 400) rfl
                  have g245 := hI.get 1000 25 (lo := 0) (hi := 100000) rfl
                  have sx246 := xr243.1
                  rw [show TM I232 = TM I from (TM_of (hK.getA 1034 rfl) (hK.get 1000 24 rfl))] at sx246
                  refine lv_bipush (v := (93)) hx hb dX10_test_150 (by decide) ?_
                  refine lv_icmp_eq (tgt := 164) hx hb dX10_test_152 (by decide) (fun c247 => ?_) (fun c247 => ?_)
                  · have hc247 := c247
                    have q247 := q_eq hc247
                    have sg248 := xr243.2.2.2 (by omega)
                    have sc249 := sx246.y (k := 93) (by omega) (by decide)
                    refine lv_aload_n hx hb dX10_test_164 rfl (lv_at hl 4 rfl) ?_
                    refine lv_dup hx hb dX10_test_165 rfl ?_
                    refine m_geti (1000) 25 hx hb hts hown hE oc10 hM hJ.1 rfl (by decide) rfl tb_1202 dX10_test_166 ?_
                    have g250 := hI.get (1000) 25 (lo := 0) (hi := 100000) rfl
                    have z251 : I232 (1000) 25 = I25 (1000) 25 := ((hkI232.get (1000) 25 rfl)).trans (hkI44.get (1000) 25 rfl)
                    rw [z251] at g250 ⊢
                    refine lv_iconst (v := (1)) hx hb dX10_test_169 (by decide) ?_
                    refine lv_iadd hx hb dX10_test_170 ?_
                    refine lv_topi (fun v252 ev252 => ?_)
                    have tv252 := a_add ev252 (by omega) (by omega)
                    refine m_puti (1000) 25 hx hb hts hown hE oc10 hM hS hJ.1 rfl (by decide) rfl rfl rfl rfl tb_1202 dX10_test_171 (fun H locs I253 eI253 hM hS => ?_)
                    subst eI253
                    have hI := hI.put (n := 1000) (k := 25) (v := v252) (lo := 0) (hi := 100000) rfl (by first | omega | decide)
                    have hK := hK.put (n := 1000) (k := 25) (v := v252) (by first | rfl | simp [inR])
                    refine lv_aload_n hx hb dX10_test_174 rfl (lv_at hl 4 rfl) ?_
                    refine lv_dup hx hb dX10_test_175 rfl ?_
                    refine m_geti (1000) 32 hx hb hts hown hE oc10 hM hJ.1 rfl (by decide) rfl tb_1209 dX10_test_176 ?_
                    have g254 := hI.get (1000) 32 (lo := 0) (hi := 402) rfl
                    have z255 : (u2 I232 (1000) 25 (v252)) (1000) 32 = I232 (1000) 32 := (show (u2 I232 (1000) 25 (v252)) (1000) 32 = I232 (1000) 32 from by simp [u2_v])
                    rw [z255] at g254 ⊢
                    refine lv_iconst (v := (1)) hx hb dX10_test_179 (by decide) ?_
                    refine lv_isub hx hb dX10_test_180 ?_
                    refine lv_topi (fun v256 ev256 => ?_)
                    have tv256 := a_sub ev256 (by omega) (by omega)
                    refine m_puti (1000) 32 hx hb hts hown hE oc10 hM hS hJ.1 rfl (by decide) rfl rfl rfl rfl tb_1209 dX10_test_181 (fun H locs I257 eI257 hM hS => ?_)
                    subst eI257
                    have hI := hI.put (n := 1000) (k := 32) (v := v256) (lo := 0) (hi := 402) rfl (by first | omega | decide)
                    have hK := hK.put (n := 1000) (k := 32) (v := v256) (by first | rfl | simp [inR])
                    have pw258 : ((u2 (u2 I232 (1000) 25 (v252)) (1000) 32 (v256)) (1000) 24).toInt = (Ia9 (1000) 24 : Int32).toInt := (congrArg Int32.toInt ((show (u2 (u2 I232 (1000) 25 (v252)) (1000) 32 (v256)) (1000) 24 = I232 (1000) 24 from by simp [u2_v]))).trans pw235
                    have pw259 : ((u2 (u2 I232 (1000) 25 (v252)) (1000) 32 (v256)) (1000) 25).toInt = (v252 : Int32).toInt := congrArg Int32.toInt ((show (u2 (u2 I232 (1000) 25 (v252)) (1000) 32 (v256)) (1000) 25 = v252 from by simp [u2_v]))
                    have pw260 : ((u2 (u2 I232 (1000) 25 (v252)) (1000) 32 (v256)) (1000) 26).toInt = (Ia9 (1000) 26 : Int32).toInt := (congrArg Int32.toInt ((show (u2 (u2 I232 (1000) 25 (v252)) (1000) 32 (v256)) (1000) 26 = I232 (1000) 26 from by simp [u2_v]))).trans pw237
                    have pw261 : ((u2 (u2 I232 (1000) 25 (v252)) (1000) 32 (v256)) (1000) 27).toInt = (Ia9 (1000) 27 : Int32).toInt := (congrArg Int32.toInt ((show (u2 (u2 I232 (1000) 25 (v252)) (1000) 32 (v256)) (1000) 27 = I232 (1000) 27 from by simp [u2_v]))).trans pw238
                    have pw262 : ((u2 (u2 I232 (1000) 25 (v252)) (1000) 32 (v256)) (1000) 29).toInt = (I232 (1000) 29 : Int32).toInt := congrArg Int32.toInt ((show (u2 (u2 I232 (1000) 25 (v252)) (1000) 32 (v256)) (1000) 29 = I232 (1000) 29 from by simp [u2_v]))
                    have pw263 : ((u2 (u2 I232 (1000) 25 (v252)) (1000) 32 (v256)) (1000) 30).toInt = (I232 (1000) 30 : Int32).toInt := congrArg Int32.toInt ((show (u2 (u2 I232 (1000) 25 (v252)) (1000) 32 (v256)) (1000) 30 = I232 (1000) 30 from by simp [u2_v]))
                    have pw264 : ((u2 (u2 I232 (1000) 25 (v252)) (1000) 32 (v256)) (1000) 31).toInt = (Ia9 (1000) 31 : Int32).toInt := (congrArg Int32.toInt ((show (u2 (u2 I232 (1000) 25 (v252)) (1000) 32 (v256)) (1000) 31 = I232 (1000) 31 from by simp [u2_v]))).trans pw239
                    have pw265 : ((u2 (u2 I232 (1000) 25 (v252)) (1000) 32 (v256)) (1000) 32).toInt = (v256 : Int32).toInt := congrArg Int32.toInt ((show (u2 (u2 I232 (1000) 25 (v252)) (1000) 32 (v256)) (1000) 32 = v256 from by simp [u2_v]))
                    have hpk := pop_k (I := I232) (I2 := (u2 (u2 I232 (1000) 25 (v252)) (1000) 32 (v256))) htk.1 htk.2.1 ((show (u2 (u2 I232 (1000) 25 (v252)) (1000) 32 (v256)) 1042 = I232 1042 from by funext zz; simp [u2_v])) (by omega)
                    have hrp := RK_pop (J := I232) (J2 := (u2 (u2 I232 (1000) 25 (v252)) (1000) 32 (v256))) ((show (u2 (u2 I232 (1000) 25 (v252)) (1000) 32 (v256)) 1042 = I232 1042 from by funext zz; simp [u2_v])) (by omega) (by omega)
                    rw [htk.2.1, show encs (12 : Int32).toInt = -42 from by decide] at hrp
                    refine lv_aload_n hx hb dX10_test_184 rfl (lv_at hl 4 rfl) ?_
                    refine lv_dup hx hb dX10_test_185 rfl ?_
                    refine m_geti (1000) 30 hx hb hts hown hE oc10 hM hJ.1 rfl (by decide) rfl tb_1207 dX10_test_186 ?_
                    have z266 : (u2 (u2 I232 (1000) 25 (v252)) (1000) 32 (v256)) (1000) 30 = I232 (1000) 30 := (show (u2 (u2 I232 (1000) 25 (v252)) (1000) 32 (v256)) (1000) 30 = I232 (1000) 30 from by simp [u2_v])
                    rw [z266]
                    refine lv_iconst (v := (1)) hx hb dX10_test_189 (by decide) ?_
                    refine lv_isub hx hb dX10_test_190 ?_
                    refine lv_topi (fun v267 ev267 => ?_)
                    refine m_puti (1000) 30 hx hb hts hown hE oc10 hM hS hJ.1 rfl (by decide) rfl rfl rfl rfl tb_1207 dX10_test_191 (fun H locs I268 eI268 hM hS => ?_)
                    subst eI268
                    have hI := hI.putF (n := 1000) (k := 30) (v := v267) rfl
                    have hK := hK.put (n := 1000) (k := 30) (v := v267) (by first | rfl | simp [inR])
                    refine lv_goto (tgt := 199) hx hb dX10_test_194 (by decide) ?_
                    refine lv_goto (tgt := 9) hx hb dX10_test_199 (by decide) ?_
                    have pw269 : ((u2 (u2 (u2 I232 (1000) 25 (v252)) (1000) 32 (v256)) (1000) 30 (v267)) (1000) 24).toInt = (Ia9 (1000) 24 : Int32).toInt := (congrArg Int32.toInt ((show (u2 (u2 (u2 I232 (1000) 25 (v252)) (1000) 32 (v256)) (1000) 30 (v267)) (1000) 24 = (u2 (u2 I232 (1000) 25 (v252)) (1000) 32 (v256)) (1000) 24 from by simp [u2_v]))).trans pw258
                    have pw270 : ((u2 (u2 (u2 I232 (1000) 25 (v252)) (1000) 32 (v256)) (1000) 30 (v267)) (1000) 25).toInt = (v252 : Int32).toInt := (congrArg Int32.toInt ((show (u2 (u2 (u2 I232 (1000) 25 (v252)) (1000) 32 (v256)) (1000) 30 (v267)) (1000) 25 = (u2 (u2 I232 (1000) 25 (v252)) (1000) 32 (v256)) (1000) 25 from by simp [u2_v]))).trans pw259
                    have pw271 : ((u2 (u2 (u2 I232 (1000) 25 (v252)) (1000) 32 (v256)) (1000) 30 (v267)) (1000) 26).toInt = (Ia9 (1000) 26 : Int32).toInt := (congrArg Int32.toInt ((show (u2 (u2 (u2 I232 (1000) 25 (v252)) (1000) 32 (v256)) (1000) 30 (v267)) (1000) 26 = (u2 (u2 I232 (1000) 25 (v252)) (1000) 32 (v256)) (1000) 26 from by simp [u2_v]))).trans pw260
                    have pw272 : ((u2 (u2 (u2 I232 (1000) 25 (v252)) (1000) 32 (v256)) (1000) 30 (v267)) (1000) 27).toInt = (Ia9 (1000) 27 : Int32).toInt := (congrArg Int32.toInt ((show (u2 (u2 (u2 I232 (1000) 25 (v252)) (1000) 32 (v256)) (1000) 30 (v267)) (1000) 27 = (u2 (u2 I232 (1000) 25 (v252)) (1000) 32 (v256)) (1000) 27 from by simp [u2_v]))).trans pw261
                    have pw273 : ((u2 (u2 (u2 I232 (1000) 25 (v252)) (1000) 32 (v256)) (1000) 30 (v267)) (1000) 29).toInt = (I232 (1000) 29 : Int32).toInt := (congrArg Int32.toInt ((show (u2 (u2 (u2 I232 (1000) 25 (v252)) (1000) 32 (v256)) (1000) 30 (v267)) (1000) 29 = (u2 (u2 I232 (1000) 25 (v252)) (1000) 32 (v256)) (1000) 29 from by simp [u2_v]))).trans pw262
                    have pw274 : ((u2 (u2 (u2 I232 (1000) 25 (v252)) (1000) 32 (v256)) (1000) 30 (v267)) (1000) 31).toInt = (Ia9 (1000) 31 : Int32).toInt := (congrArg Int32.toInt ((show (u2 (u2 (u2 I232 (1000) 25 (v252)) (1000) 32 (v256)) (1000) 30 (v267)) (1000) 31 = (u2 (u2 I232 (1000) 25 (v252)) (1000) 32 (v256)) (1000) 31 from by simp [u2_v]))).trans pw264
                    have pw275 : ((u2 (u2 (u2 I232 (1000) 25 (v252)) (1000) 32 (v256)) (1000) 30 (v267)) (1000) 32).toInt = (v256 : Int32).toInt := (congrArg Int32.toInt ((show (u2 (u2 (u2 I232 (1000) 25 (v252)) (1000) 32 (v256)) (1000) 30 (v267)) (1000) 32 = (u2 (u2 I232 (1000) 25 (v252)) (1000) 32 (v256)) (1000) 32 from by simp [u2_v]))).trans pw265
                    replace hC := CT.link (I2 := (u2 (u2 (u2 I232 (1000) 25 (v252)) (1000) 32 (v256)) (1000) 30 (v267))) hC ((show (u2 (u2 (u2 I232 (1000) 25 (v252)) (1000) 32 (v256)) (1000) 30 (v267)) 1035 = I232 1035 from by funext zz; simp [u2_v])) ((show (u2 (u2 (u2 I232 (1000) 25 (v252)) (1000) 32 (v256)) (1000) 30 (v267)) 1036 = I232 1036 from by funext zz; simp [u2_v])) (by omega) (fun hz => by omega)
                    have nn276 := NS_of (I2 := (u2 (u2 (u2 I232 (1000) 25 (v252)) (1000) 32 (v256)) (1000) 30 (v267))) (I := (u2 (u2 I232 (1000) 25 (v252)) (1000) 32 (v256))) ((show (u2 (u2 (u2 I232 (1000) 25 (v252)) (1000) 32 (v256)) (1000) 30 (v267)) 1042 = (u2 (u2 I232 (1000) 25 (v252)) (1000) 32 (v256)) 1042 from by funext zz; simp [u2_v])) (by omega)
                    have pw277 : ((u2 (u2 (u2 I232 (1000) 25 (v252)) (1000) 32 (v256)) (1000) 30 (v267)) (1000) 30).toInt = (v267 : Int32).toInt := congrArg Int32.toInt ((show (u2 (u2 (u2 I232 (1000) 25 (v252)) (1000) 32 (v256)) (1000) 30 (v267)) (1000) 30 = v267 from by simp [u2_v]))
                    have gP9 := hI.get 1000 25 (lo := 0) (hi := 100000) rfl
                    have gO9 := hI.get 1000 32 (lo := 0) (hi := 402) rfl
                    have hT1 := hTS
                    rw [show (x1_9).toInt = 0 from by omega, show (x2_9).toInt = 1 from by omega] at hT1
                    have hq0 : (I25 1000 25).toNatClampNeg = skp (TM I) (Ia9 1000 25).toNatClampNeg := by rw [nw34, show (I14 1000 25).toNatClampNeg = (Ia9 1000 25).toNatClampNeg from cl_eq (by omega)]
                    have z1 := tn (i := I25 1000 25) (by omega)
                    have z2 := tn (i := (u2 (u2 (u2 I232 (1000) 25 (v252)) (1000) 32 (v256)) (1000) 30 (v267)) 1000 25) (by omega)
                    rw [(RK_of (J := I14) (J2 := I25) ((hkI25.getA 1042 rfl)) (by omega)), (RC_of (J := I14) (J2 := I25) ((hkI25.getA 1035 rfl)) ((hkI25.getA 1036 rfl)) (by omega) (by omega)), show I25 1000 30 = I14 1000 30 from Int32.toInt_inj.mp (by omega)] at an52
                    have hz2 := pz2_of an24 an52
                    have gR7 := RC_len (J := Ia9) gE99.1
                    rw [(RK_of (J := I44) (J2 := I44) (rfl) (by omega)), (RC_of (J := I44) (J2 := I44) (rfl) (rfl) (by omega) (by omega)), show I44 1000 30 = I44 1000 30 from Int32.toInt_inj.mp (by omega)] at an240
                    have hz3 := pz3_of hz2 an240
                    exact ih9 (x2_9) (x1_9) (u2 (u2 (u2 I232 (1000) 25 (v252)) (1000) 32 (v256)) (1000) 30 (v267)) L233 _ _ ls hI hK (by first | omega | decide) (by first | omega | decide) (by omega) (fun hz => by omega) (by rw [show NB (u2 (u2 (u2 I232 (1000) 25 (v252)) (1000) 32 (v256)) (1000) 30 (v267)) + (1 - (x1_9 : Int32).toInt).toNat = dd from by omega]; exact hC) (by rw [show (x1_9 : Int32).toInt = 0 from by omega, show (x2_9 : Int32).toInt = 1 from by omega]; exact tsi_close hT (q := (I25 1000 25).toNatClampNeg) (s := RK (u2 (u2 I232 (1000) 25 (v252)) (1000) 32 (v256))) hT1 (by omega) hq0 (by rw [show (I25 1000 25).toNatClampNeg = (I232 1000 25).toNatClampNeg from cl_eq (by omega)]; exact sc249) (by rw [hz3]; exact hrp) (by omega) (by omega) (by omega) (by omega) (by rw [hz3]; exact (RC_of (J := I232) (J2 := (u2 (u2 (u2 I232 (1000) 25 (v252)) (1000) 32 (v256)) (1000) 30 (v267))) ((show (u2 (u2 (u2 I232 (1000) 25 (v252)) (1000) 32 (v256)) (1000) 30 (v267)) 1035 = I232 1035 from by funext zz; simp [u2_v])) ((show (u2 (u2 (u2 I232 (1000) 25 (v252)) (1000) 32 (v256)) (1000) 30 (v267)) 1036 = I232 1036 from by funext zz; simp [u2_v])) (by omega) (by omega))) (RK_of (J := (u2 (u2 I232 (1000) 25 (v252)) (1000) 32 (v256))) (J2 := (u2 (u2 (u2 I232 (1000) 25 (v252)) (1000) 32 (v256)) (1000) 30 (v267))) ((show (u2 (u2 (u2 I232 (1000) 25 (v252)) (1000) 32 (v256)) (1000) 30 (v267)) 1042 = (u2 (u2 I232 (1000) 25 (v252)) (1000) 32 (v256)) 1042 from by funext zz; simp [u2_v])) (by omega)) (by rw [hz3]; exact (show (u2 (u2 (u2 I232 (1000) 25 (v252)) (1000) 32 (v256)) (1000) 30 (v267)) 1000 30 = I232 1000 30 - 1 from ((show (u2 (u2 (u2 I232 (1000) 25 (v252)) (1000) 32 (v256)) (1000) 30 (v267)) (1000) 30 = v267 from by simp [u2_v])).trans ev267))) (by omega) hM hS (lv_sub hl [2, 3, 4] rfl)
                  · have hc247 := c247
                    have q247 := q_ne hc247
                    have sc278 := sx246.n (k := 93) (by omega) (by decide)
                    refine lv_aload_n hx hb dX10_test_155 rfl (lv_at hl 4 rfl) ?_
                    refine lv_iconst (v := (0)) hx hb dX10_test_156 (by decide) ?_
                    refine lv_aload_n hx hb dX10_test_157 rfl (lv_at hl 4 rfl) ?_
                    refine m_geti (1000) 25 hx hb hts hown hE oc10 hM hJ.1 rfl (by decide) rfl tb_1202 dX10_test_158 ?_
                    have g279 := hI.get (1000) 25 (lo := 0) (hi := 100000) rfl
                    have z280 : I232 (1000) 25 = I25 (1000) 25 := ((hkI232.get (1000) 25 rfl)).trans (hkI44.get (1000) 25 rfl)
                    rw [z280] at g279 ⊢
                    refine m_callv (m_runV (1000) (As := [.int (0), .int (I25 (1000) 25)]) (rest := []) hx hb hml hown hts hE hM hS hA ce_X10_fails tb_1521 (V_X10_fails_h l D A ad ns I232 L233 G (0) (I25 (1000) 25) hJ hI (by first | omega | decide) (by first | omega | decide)) rfl rfl ⟨Nat.le_of_ble_eq_true rfl, Nat.le_of_ble_eq_true rfl⟩ hJ.1 rfl rfl (by decide) rfl hl.1 rfl (Nat.le_of_ble_eq_true rfl) dX10_test_161 ⟨Nat.le_of_ble_eq_true rfl, Nat.le_of_ble_eq_true rfl⟩) hS (fun u H locs hw hM hS => ?_)
                    obtain ⟨I281, L282, rfl, hI, hkI281, xI281⟩ := hw
                    have hM : Mem D A ad ns I281 L282 G H := hM
                    have hK := hK.trans hkI281 rfl
                    have pw283 : (I281 (1000) 24).toInt = (Ia9 (1000) 24 : Int32).toInt := (congrArg Int32.toInt ((hkI281.get (1000) 24 rfl))).trans pw235
                    have pw284 : (I281 (1000) 25).toInt = (I25 (1000) 25 : Int32).toInt := (congrArg Int32.toInt ((hkI281.get (1000) 25 rfl))).trans pw236
                    have pw285 : (I281 (1000) 27).toInt = (Ia9 (1000) 27 : Int32).toInt := (congrArg Int32.toInt ((hkI281.get (1000) 27 rfl))).trans pw238
                    have pw286 : (I281 (1000) 29).toInt = (I232 (1000) 29 : Int32).toInt := congrArg Int32.toInt ((hkI281.get (1000) 29 rfl))
                    have pw287 : (I281 (1000) 30).toInt = (I232 (1000) 30 : Int32).toInt := congrArg Int32.toInt ((hkI281.get (1000) 30 rfl))
                    have pw288 : (I281 (1000) 31).toInt = (Ia9 (1000) 31 : Int32).toInt := (congrArg Int32.toInt ((hkI281.get (1000) 31 rfl))).trans pw239
                    have pw289 : (I281 (1000) 32).toInt = (I232 (1000) 32 : Int32).toInt := congrArg Int32.toInt ((hkI281.get (1000) 32 rfl))
                    refine lv_aload_n hx hb dX10_test_164 rfl (lv_at hl 4 rfl) ?_
                    refine lv_dup hx hb dX10_test_165 rfl ?_
                    refine m_geti (1000) 25 hx hb hts hown hE oc10 hM hJ.1 rfl (by decide) rfl tb_1202 dX10_test_166 ?_
                    have g290 := hI.get (1000) 25 (lo := 0) (hi := 100000) rfl
                    have z291 : I281 (1000) 25 = I25 (1000) 25 := (((hkI281.get (1000) 25 rfl)).trans (hkI232.get (1000) 25 rfl)).trans (hkI44.get (1000) 25 rfl)
                    rw [z291] at g290 ⊢
                    refine lv_iconst (v := (1)) hx hb dX10_test_169 (by decide) ?_
                    refine lv_iadd hx hb dX10_test_170 ?_
                    refine lv_topi (fun v292 ev292 => ?_)
                    have tv292 := a_add ev292 (by omega) (by omega)
                    refine m_puti (1000) 25 hx hb hts hown hE oc10 hM hS hJ.1 rfl (by decide) rfl rfl rfl rfl tb_1202 dX10_test_171 (fun H locs I293 eI293 hM hS => ?_)
                    subst eI293
                    have hI := hI.put (n := 1000) (k := 25) (v := v292) (lo := 0) (hi := 100000) rfl (by first | omega | decide)
                    have hK := hK.put (n := 1000) (k := 25) (v := v292) (by first | rfl | simp [inR])
                    refine lv_aload_n hx hb dX10_test_174 rfl (lv_at hl 4 rfl) ?_
                    refine lv_dup hx hb dX10_test_175 rfl ?_
                    refine m_geti (1000) 32 hx hb hts hown hE oc10 hM hJ.1 rfl (by decide) rfl tb_1209 dX10_test_176 ?_
                    have g294 := hI.get (1000) 32 (lo := 0) (hi := 402) rfl
                    have z295 : (u2 I281 (1000) 25 (v292)) (1000) 32 = I232 (1000) 32 := ((show (u2 I281 (1000) 25 (v292)) (1000) 32 = I281 (1000) 32 from by simp [u2_v])).trans (hkI281.get (1000) 32 rfl)
                    rw [z295] at g294 ⊢
                    refine lv_iconst (v := (1)) hx hb dX10_test_179 (by decide) ?_
                    refine lv_isub hx hb dX10_test_180 ?_
                    refine lv_topi (fun v296 ev296 => ?_)
                    have tv296 := a_sub ev296 (by omega) (by omega)
                    refine m_puti (1000) 32 hx hb hts hown hE oc10 hM hS hJ.1 rfl (by decide) rfl rfl rfl rfl tb_1209 dX10_test_181 (fun H locs I297 eI297 hM hS => ?_)
                    subst eI297
                    have hI := hI.put (n := 1000) (k := 32) (v := v296) (lo := 0) (hi := 402) rfl (by first | omega | decide)
                    have hK := hK.put (n := 1000) (k := 32) (v := v296) (by first | rfl | simp [inR])
                    have pw298 : ((u2 (u2 I281 (1000) 25 (v292)) (1000) 32 (v296)) (1000) 24).toInt = (Ia9 (1000) 24 : Int32).toInt := (congrArg Int32.toInt ((show (u2 (u2 I281 (1000) 25 (v292)) (1000) 32 (v296)) (1000) 24 = I281 (1000) 24 from by simp [u2_v]))).trans pw283
                    have pw299 : ((u2 (u2 I281 (1000) 25 (v292)) (1000) 32 (v296)) (1000) 25).toInt = (v292 : Int32).toInt := congrArg Int32.toInt ((show (u2 (u2 I281 (1000) 25 (v292)) (1000) 32 (v296)) (1000) 25 = v292 from by simp [u2_v]))
                    have pw300 : ((u2 (u2 I281 (1000) 25 (v292)) (1000) 32 (v296)) (1000) 26).toInt = (I281 (1000) 26 : Int32).toInt := congrArg Int32.toInt ((show (u2 (u2 I281 (1000) 25 (v292)) (1000) 32 (v296)) (1000) 26 = I281 (1000) 26 from by simp [u2_v]))
                    have pw301 : ((u2 (u2 I281 (1000) 25 (v292)) (1000) 32 (v296)) (1000) 27).toInt = (Ia9 (1000) 27 : Int32).toInt := (congrArg Int32.toInt ((show (u2 (u2 I281 (1000) 25 (v292)) (1000) 32 (v296)) (1000) 27 = I281 (1000) 27 from by simp [u2_v]))).trans pw285
                    have pw302 : ((u2 (u2 I281 (1000) 25 (v292)) (1000) 32 (v296)) (1000) 29).toInt = (I232 (1000) 29 : Int32).toInt := (congrArg Int32.toInt ((show (u2 (u2 I281 (1000) 25 (v292)) (1000) 32 (v296)) (1000) 29 = I281 (1000) 29 from by simp [u2_v]))).trans pw286
                    have pw303 : ((u2 (u2 I281 (1000) 25 (v292)) (1000) 32 (v296)) (1000) 30).toInt = (I232 (1000) 30 : Int32).toInt := (congrArg Int32.toInt ((show (u2 (u2 I281 (1000) 25 (v292)) (1000) 32 (v296)) (1000) 30 = I281 (1000) 30 from by simp [u2_v]))).trans pw287
                    have pw304 : ((u2 (u2 I281 (1000) 25 (v292)) (1000) 32 (v296)) (1000) 31).toInt = (Ia9 (1000) 31 : Int32).toInt := (congrArg Int32.toInt ((show (u2 (u2 I281 (1000) 25 (v292)) (1000) 32 (v296)) (1000) 31 = I281 (1000) 31 from by simp [u2_v]))).trans pw288
                    have pw305 : ((u2 (u2 I281 (1000) 25 (v292)) (1000) 32 (v296)) (1000) 32).toInt = (v296 : Int32).toInt := congrArg Int32.toInt ((show (u2 (u2 I281 (1000) 25 (v292)) (1000) 32 (v296)) (1000) 32 = v296 from by simp [u2_v]))
                    have hpk := pop_k (I := I232) (I2 := (u2 (u2 I281 (1000) 25 (v292)) (1000) 32 (v296))) htk.1 htk.2.1 (((show (u2 (u2 I281 (1000) 25 (v292)) (1000) 32 (v296)) 1042 = I281 1042 from by funext zz; simp [u2_v])).trans (hkI281.getA 1042 rfl)) (by omega)
                    have hrp := RK_pop (J := I232) (J2 := (u2 (u2 I281 (1000) 25 (v292)) (1000) 32 (v296))) (((show (u2 (u2 I281 (1000) 25 (v292)) (1000) 32 (v296)) 1042 = I281 1042 from by funext zz; simp [u2_v])).trans (hkI281.getA 1042 rfl)) (by omega) (by omega)
                    rw [htk.2.1, show encs (12 : Int32).toInt = -42 from by decide] at hrp
                    refine lv_aload_n hx hb dX10_test_184 rfl (lv_at hl 4 rfl) ?_
                    refine lv_dup hx hb dX10_test_185 rfl ?_
                    refine m_geti (1000) 30 hx hb hts hown hE oc10 hM hJ.1 rfl (by decide) rfl tb_1207 dX10_test_186 ?_
                    have z306 : (u2 (u2 I281 (1000) 25 (v292)) (1000) 32 (v296)) (1000) 30 = I232 (1000) 30 := ((show (u2 (u2 I281 (1000) 25 (v292)) (1000) 32 (v296)) (1000) 30 = I281 (1000) 30 from by simp [u2_v])).trans (hkI281.get (1000) 30 rfl)
                    rw [z306]
                    refine lv_iconst (v := (1)) hx hb dX10_test_189 (by decide) ?_
                    refine lv_isub hx hb dX10_test_190 ?_
                    refine lv_topi (fun v307 ev307 => ?_)
                    refine m_puti (1000) 30 hx hb hts hown hE oc10 hM hS hJ.1 rfl (by decide) rfl rfl rfl rfl tb_1207 dX10_test_191 (fun H locs I308 eI308 hM hS => ?_)
                    subst eI308
                    have hI := hI.putF (n := 1000) (k := 30) (v := v307) rfl
                    have hK := hK.put (n := 1000) (k := 30) (v := v307) (by first | rfl | simp [inR])
                    refine lv_goto (tgt := 199) hx hb dX10_test_194 (by decide) ?_
                    refine lv_goto (tgt := 9) hx hb dX10_test_199 (by decide) ?_
                    have pw309 : ((u2 (u2 (u2 I281 (1000) 25 (v292)) (1000) 32 (v296)) (1000) 30 (v307)) (1000) 24).toInt = (Ia9 (1000) 24 : Int32).toInt := (congrArg Int32.toInt ((show (u2 (u2 (u2 I281 (1000) 25 (v292)) (1000) 32 (v296)) (1000) 30 (v307)) (1000) 24 = (u2 (u2 I281 (1000) 25 (v292)) (1000) 32 (v296)) (1000) 24 from by simp [u2_v]))).trans pw298
                    have pw310 : ((u2 (u2 (u2 I281 (1000) 25 (v292)) (1000) 32 (v296)) (1000) 30 (v307)) (1000) 25).toInt = (v292 : Int32).toInt := (congrArg Int32.toInt ((show (u2 (u2 (u2 I281 (1000) 25 (v292)) (1000) 32 (v296)) (1000) 30 (v307)) (1000) 25 = (u2 (u2 I281 (1000) 25 (v292)) (1000) 32 (v296)) (1000) 25 from by simp [u2_v]))).trans pw299
                    have pw311 : ((u2 (u2 (u2 I281 (1000) 25 (v292)) (1000) 32 (v296)) (1000) 30 (v307)) (1000) 26).toInt = (I281 (1000) 26 : Int32).toInt := (congrArg Int32.toInt ((show (u2 (u2 (u2 I281 (1000) 25 (v292)) (1000) 32 (v296)) (1000) 30 (v307)) (1000) 26 = (u2 (u2 I281 (1000) 25 (v292)) (1000) 32 (v296)) (1000) 26 from by simp [u2_v]))).trans pw300
                    have pw312 : ((u2 (u2 (u2 I281 (1000) 25 (v292)) (1000) 32 (v296)) (1000) 30 (v307)) (1000) 27).toInt = (Ia9 (1000) 27 : Int32).toInt := (congrArg Int32.toInt ((show (u2 (u2 (u2 I281 (1000) 25 (v292)) (1000) 32 (v296)) (1000) 30 (v307)) (1000) 27 = (u2 (u2 I281 (1000) 25 (v292)) (1000) 32 (v296)) (1000) 27 from by simp [u2_v]))).trans pw301
                    have pw313 : ((u2 (u2 (u2 I281 (1000) 25 (v292)) (1000) 32 (v296)) (1000) 30 (v307)) (1000) 29).toInt = (I232 (1000) 29 : Int32).toInt := (congrArg Int32.toInt ((show (u2 (u2 (u2 I281 (1000) 25 (v292)) (1000) 32 (v296)) (1000) 30 (v307)) (1000) 29 = (u2 (u2 I281 (1000) 25 (v292)) (1000) 32 (v296)) (1000) 29 from by simp [u2_v]))).trans pw302
                    have pw314 : ((u2 (u2 (u2 I281 (1000) 25 (v292)) (1000) 32 (v296)) (1000) 30 (v307)) (1000) 31).toInt = (Ia9 (1000) 31 : Int32).toInt := (congrArg Int32.toInt ((show (u2 (u2 (u2 I281 (1000) 25 (v292)) (1000) 32 (v296)) (1000) 30 (v307)) (1000) 31 = (u2 (u2 I281 (1000) 25 (v292)) (1000) 32 (v296)) (1000) 31 from by simp [u2_v]))).trans pw304
                    have pw315 : ((u2 (u2 (u2 I281 (1000) 25 (v292)) (1000) 32 (v296)) (1000) 30 (v307)) (1000) 32).toInt = (v296 : Int32).toInt := (congrArg Int32.toInt ((show (u2 (u2 (u2 I281 (1000) 25 (v292)) (1000) 32 (v296)) (1000) 30 (v307)) (1000) 32 = (u2 (u2 I281 (1000) 25 (v292)) (1000) 32 (v296)) (1000) 32 from by simp [u2_v]))).trans pw305
                    replace hC := CT.link (I2 := (u2 (u2 (u2 I281 (1000) 25 (v292)) (1000) 32 (v296)) (1000) 30 (v307))) hC (((show (u2 (u2 (u2 I281 (1000) 25 (v292)) (1000) 32 (v296)) (1000) 30 (v307)) 1035 = I281 1035 from by funext zz; simp [u2_v])).trans (hkI281.getA 1035 rfl)) (((show (u2 (u2 (u2 I281 (1000) 25 (v292)) (1000) 32 (v296)) (1000) 30 (v307)) 1036 = I281 1036 from by funext zz; simp [u2_v])).trans (hkI281.getA 1036 rfl)) (by omega) (fun hz => by have w0 := xI281.2.1 (by omega); exact w0.elim)
                    have nn316 := NS_of (I2 := (u2 (u2 (u2 I281 (1000) 25 (v292)) (1000) 32 (v296)) (1000) 30 (v307))) (I := (u2 (u2 I281 (1000) 25 (v292)) (1000) 32 (v296))) ((show (u2 (u2 (u2 I281 (1000) 25 (v292)) (1000) 32 (v296)) (1000) 30 (v307)) 1042 = (u2 (u2 I281 (1000) 25 (v292)) (1000) 32 (v296)) 1042 from by funext zz; simp [u2_v])) (by omega)
                    have pw317 : ((u2 (u2 (u2 I281 (1000) 25 (v292)) (1000) 32 (v296)) (1000) 30 (v307)) (1000) 30).toInt = (v307 : Int32).toInt := congrArg Int32.toInt ((show (u2 (u2 (u2 I281 (1000) 25 (v292)) (1000) 32 (v296)) (1000) 30 (v307)) (1000) 30 = v307 from by simp [u2_v]))
                    have gP9 := hI.get 1000 25 (lo := 0) (hi := 100000) rfl
                    have gO9 := hI.get 1000 32 (lo := 0) (hi := 402) rfl
                    have hT1 := hTS
                    rw [show (x1_9).toInt = 0 from by omega, show (x2_9).toInt = 1 from by omega] at hT1
                    have hq0 : (I25 1000 25).toNatClampNeg = skp (TM I) (Ia9 1000 25).toNatClampNeg := by rw [nw34, show (I14 1000 25).toNatClampNeg = (Ia9 1000 25).toNatClampNeg from cl_eq (by omega)]
                    have z1 := tn (i := I25 1000 25) (by omega)
                    have z2 := tn (i := (u2 (u2 (u2 I281 (1000) 25 (v292)) (1000) 32 (v296)) (1000) 30 (v307)) 1000 25) (by omega)
                    rw [(RK_of (J := I14) (J2 := I25) ((hkI25.getA 1042 rfl)) (by omega)), (RC_of (J := I14) (J2 := I25) ((hkI25.getA 1035 rfl)) ((hkI25.getA 1036 rfl)) (by omega) (by omega)), show I25 1000 30 = I14 1000 30 from Int32.toInt_inj.mp (by omega)] at an52
                    have hz2 := pz2_of an24 an52
                    have gR7 := RC_len (J := Ia9) gE99.1
                    rw [(RK_of (J := I44) (J2 := I44) (rfl) (by omega)), (RC_of (J := I44) (J2 := I44) (rfl) (rfl) (by omega) (by omega)), show I44 1000 30 = I44 1000 30 from Int32.toInt_inj.mp (by omega)] at an240
                    have hz3 := pz3_of hz2 an240
                    exact ih9 (x2_9) (x1_9) (u2 (u2 (u2 I281 (1000) 25 (v292)) (1000) 32 (v296)) (1000) 30 (v307)) L282 _ _ ls hI hK (by first | omega | decide) (by first | omega | decide) (by omega) (fun hz => by have w0 := xI281.2.1 (by omega); exact w0.elim) (by rw [show NB (u2 (u2 (u2 I281 (1000) 25 (v292)) (1000) 32 (v296)) (1000) 30 (v307)) + (1 - (x1_9 : Int32).toInt).toNat = dd from by omega]; exact hC) (tsi_bad hT (q := (I25 1000 25).toNatClampNeg) (s := RK (u2 (u2 I281 (1000) 25 (v292)) (1000) 32 (v296))) hT1 (by omega) hq0 (by rw [show (I25 1000 25).toNatClampNeg = (I232 1000 25).toNatClampNeg from cl_eq (by omega)]; exact sc278) sc229 sc231 (by rw [hz3]; exact hrp) (by have w1 := xI281.2.2.1 (by omega); omega)) (by omega) hM hS (lv_sub hl [2, 3, 4] rfl)
              · have hc230 := c230
                have q230 := q_ne hc230
                have sg318 := slr39 (by omega)
                have sc319 := sx42.y (by omega)
                refine lv_iload hx hb dX10_test_82 (lv_at hl 0 rfl) ?_
                refine lv_if_eq (tgt := 93) hx hb dX10_test_84 (by decide) (fun c320 => ?_) (fun c320 => ?_)
                · have hc320 := c320
                  have q320 := q_eq hc320
                  have sc321 := sx42.n (by omega)
                  refine lv_aload_n hx hb dX10_test_93 rfl (lv_at hl 4 rfl) ?_
                  refine lv_iload_n hx hb dX10_test_94 rfl (lv_at hl 1 rfl) ?_
                  refine lv_if_eq (tgt := 103) hx hb dX10_test_95 (by decide) (fun c322 => ?_) (fun c322 => ?_)
                  · have hc322 := c322
                    have q322 := q_eq hc322
                    have sc323 := sx38.n (by omega)
                    refine lv_bipush (v := (11)) hx hb dX10_test_103 (by decide) ?_
                    refine m_callv (m_runV (1000) (As := [.int (11)]) (rest := []) hx hb hml hown hts hE hM hS hA ce_X10_opens tb_1586 (V_X10_opens_h l D A ad ns I44 L45 G (11) hJ hI (by first | omega | decide) (by omega)) rfl rfl ⟨Nat.le_of_ble_eq_true rfl, Nat.le_of_ble_eq_true rfl⟩ hJ.1 rfl rfl (by decide) rfl hl.1 rfl (Nat.le_of_ble_eq_true rfl) dX10_test_105 ⟨Nat.le_of_ble_eq_true rfl, Nat.le_of_ble_eq_true rfl⟩) hS (fun u H locs hw hM hS => ?_)
                    obtain ⟨I324, L325, rfl, hI, hkI324, xI324⟩ := hw
                    have hM : Mem D A ad ns I324 L325 G H := hM
                    have hK := hK.trans hkI324 rfl
                    have g326 := hI.get 1000 32 (lo := 0) (hi := 402) rfl
                    have pw327 : (I324 (1000) 24).toInt = (Ia9 (1000) 24 : Int32).toInt := (congrArg Int32.toInt ((hkI324.get (1000) 24 rfl))).trans pw47
                    have pw328 : (I324 (1000) 25).toInt = (I25 (1000) 25 : Int32).toInt := (congrArg Int32.toInt ((hkI324.get (1000) 25 rfl))).trans pw48
                    have pw329 : (I324 (1000) 27).toInt = (Ia9 (1000) 27 : Int32).toInt := (congrArg Int32.toInt ((hkI324.get (1000) 27 rfl))).trans pw50
                    have pw330 : (I324 (1000) 29).toInt = (I44 (1000) 29 : Int32).toInt := congrArg Int32.toInt ((hkI324.get (1000) 29 rfl))
                    have pw331 : (I324 (1000) 31).toInt = (Ia9 (1000) 31 : Int32).toInt := (congrArg Int32.toInt ((hkI324.get (1000) 31 rfl))).trans pw51
                    have pv332 : pN 11 = 1 ∧ pB 11 = 1 := by decide
                    have po333 := xI324.2.2
                    refine lv_aload_n hx hb dX10_test_108 rfl (lv_at hl 4 rfl) ?_
                    refine lv_dup hx hb dX10_test_109 rfl ?_
                    refine m_geti (1000) 25 hx hb hts hown hE oc10 hM hJ.1 rfl (by decide) rfl tb_1202 dX10_test_110 ?_
                    have g334 := hI.get (1000) 25 (lo := 0) (hi := 100000) rfl
                    have z335 : I324 (1000) 25 = I25 (1000) 25 := ((hkI324.get (1000) 25 rfl)).trans (hkI44.get (1000) 25 rfl)
                    rw [z335] at g334 ⊢
                    refine lv_iload_n hx hb dX10_test_113 rfl (lv_at hl 1 rfl) ?_
                    refine lv_if_eq (tgt := 121) hx hb dX10_test_114 (by decide) (fun c336 => ?_) (fun c336 => ?_)
                    · have hc336 := c336
                      have q336 := q_eq hc336
                      have sc337 := sx38.n (by omega)
                      refine lv_iconst (v := (2)) hx hb dX10_test_121 (by decide) ?_
                      refine lv_iadd hx hb dX10_test_122 ?_
                      refine lv_topi (fun v338 ev338 => ?_)
                      have tv338 := a_add ev338 (by omega) (by omega)
                      refine m_puti (1000) 25 hx hb hts hown hE oc10 hM hS hJ.1 rfl (by decide) rfl rfl rfl rfl tb_1202 dX10_test_123 (fun H locs I339 eI339 hM hS => ?_)
                      subst eI339
                      have hI := hI.put (n := 1000) (k := 25) (v := v338) (lo := 0) (hi := 100000) rfl (by first | omega | decide)
                      have hK := hK.put (n := 1000) (k := 25) (v := v338) (by first | rfl | simp [inR])
                      refine lv_iconst (v := (1)) hx hb dX10_test_126 (by decide) ?_
                      refine lv_istore_n (lv' := [(1, .int (1)), (4, .int (r39)), (3, .int (r35)), (2, .int (x2_9)), (0, .ref (ad (1000)))]) hx hb dX10_test_127 rfl hl (by decide) rfl (fun ls hl => ?_)
                      refine lv_goto (tgt := 199) hx hb dX10_test_128 (by decide) ?_
                      refine lv_goto (tgt := 9) hx hb dX10_test_199 (by decide) ?_
                      have pw340 : ((u2 I324 (1000) 25 (v338)) (1000) 24).toInt = (Ia9 (1000) 24 : Int32).toInt := (congrArg Int32.toInt ((show (u2 I324 (1000) 25 (v338)) (1000) 24 = I324 (1000) 24 from by simp [u2_v]))).trans pw327
                      have pw341 : ((u2 I324 (1000) 25 (v338)) (1000) 25).toInt = (v338 : Int32).toInt := congrArg Int32.toInt ((show (u2 I324 (1000) 25 (v338)) (1000) 25 = v338 from by simp [u2_v]))
                      have pw342 : ((u2 I324 (1000) 25 (v338)) (1000) 26).toInt = (I324 (1000) 26 : Int32).toInt := congrArg Int32.toInt ((show (u2 I324 (1000) 25 (v338)) (1000) 26 = I324 (1000) 26 from by simp [u2_v]))
                      have pw343 : ((u2 I324 (1000) 25 (v338)) (1000) 27).toInt = (Ia9 (1000) 27 : Int32).toInt := (congrArg Int32.toInt ((show (u2 I324 (1000) 25 (v338)) (1000) 27 = I324 (1000) 27 from by simp [u2_v]))).trans pw329
                      have pw344 : ((u2 I324 (1000) 25 (v338)) (1000) 29).toInt = (I44 (1000) 29 : Int32).toInt := (congrArg Int32.toInt ((show (u2 I324 (1000) 25 (v338)) (1000) 29 = I324 (1000) 29 from by simp [u2_v]))).trans pw330
                      have pw345 : ((u2 I324 (1000) 25 (v338)) (1000) 31).toInt = (Ia9 (1000) 31 : Int32).toInt := (congrArg Int32.toInt ((show (u2 I324 (1000) 25 (v338)) (1000) 31 = I324 (1000) 31 from by simp [u2_v]))).trans pw331
                      have pw346 : ((u2 I324 (1000) 25 (v338)) (1000) 32).toInt = (I324 (1000) 32 : Int32).toInt := congrArg Int32.toInt ((show (u2 I324 (1000) 25 (v338)) (1000) 32 = I324 (1000) 32 from by simp [u2_v]))
                      replace hC := CT.link (I2 := (u2 I324 (1000) 25 (v338))) hC (((show (u2 I324 (1000) 25 (v338)) 1035 = I324 1035 from by funext zz; simp [u2_v])).trans (hkI324.getA 1035 rfl)) (((show (u2 I324 (1000) 25 (v338)) 1036 = I324 1036 from by funext zz; simp [u2_v])).trans (hkI324.getA 1036 rfl)) (by omega) (fun hz => by have w0 := xI324.2.1 (by omega); omega)
                      have nn347 := NS_of (I2 := (u2 I324 (1000) 25 (v338))) (I := I324) ((show (u2 I324 (1000) 25 (v338)) 1042 = I324 1042 from by funext zz; simp [u2_v])) (by omega)
                      have pw348 : ((u2 I324 (1000) 25 (v338)) (1000) 30).toInt = (I324 (1000) 30 : Int32).toInt := congrArg Int32.toInt ((show (u2 I324 (1000) 25 (v338)) (1000) 30 = I324 (1000) 30 from by simp [u2_v]))
                      have gP9 := hI.get 1000 25 (lo := 0) (hi := 100000) rfl
                      have gO9 := hI.get 1000 32 (lo := 0) (hi := 402) rfl
                      have hT1 := hTS
                      rw [show (x1_9).toInt = 0 from by omega, show (x2_9).toInt = 1 from by omega] at hT1
                      have hq0 : (I25 1000 25).toNatClampNeg = skp (TM I) (Ia9 1000 25).toNatClampNeg := by rw [nw34, show (I14 1000 25).toNatClampNeg = (Ia9 1000 25).toNatClampNeg from cl_eq (by omega)]
                      have z1 := tn (i := I25 1000 25) (by omega)
                      have z2 := tn (i := (u2 I324 (1000) 25 (v338)) 1000 25) (by omega)
                      rw [(RK_of (J := I14) (J2 := I25) ((hkI25.getA 1042 rfl)) (by omega)), (RC_of (J := I14) (J2 := I25) ((hkI25.getA 1035 rfl)) ((hkI25.getA 1036 rfl)) (by omega) (by omega)), show I25 1000 30 = I14 1000 30 from Int32.toInt_inj.mp (by omega)] at an52
                      have hz2 := pz2_of an24 an52
                      have gR7 := RC_len (J := Ia9) gE99.1
                      exact ih9 (x2_9) (1) (u2 I324 (1000) 25 (v338)) L325 _ _ ls hI hK (by first | omega | decide) (by first | omega | decide) (by omega) (fun hz => by have w0 := xI324.2.1 (by omega); omega) (by rw [show NB (u2 I324 (1000) 25 (v338)) + (1 - (1 : Int32).toInt).toNat = dd from by omega]; exact hC) (by exfalso; omega) (by omega) hM hS (lv_sub hl [3, 0, 4] rfl)
                    · have hc336 := c336
                      have q336 := q_ne hc336
                      have sg349 := slr35 (by omega)
                      have sc350 := sx38.y (by omega)
                      refine lv_iconst (v := (3)) hx hb dX10_test_117 (by decide) ?_
                      refine lv_goto (tgt := 122) hx hb dX10_test_118 (by decide) ?_
                      refine lv_iadd hx hb dX10_test_122 ?_
                      refine lv_topi (fun v351 ev351 => ?_)
                      have tv351 := a_add ev351 (by omega) (by omega)
                      refine m_puti (1000) 25 hx hb hts hown hE oc10 hM hS hJ.1 rfl (by decide) rfl rfl rfl rfl tb_1202 dX10_test_123 (fun H locs I352 eI352 hM hS => ?_)
                      subst eI352
                      have hI := hI.put (n := 1000) (k := 25) (v := v351) (lo := 0) (hi := 100000) rfl (by first | omega | decide)
                      have hK := hK.put (n := 1000) (k := 25) (v := v351) (by first | rfl | simp [inR])
                      refine lv_iconst (v := (1)) hx hb dX10_test_126 (by decide) ?_
                      refine lv_istore_n (lv' := [(1, .int (1)), (4, .int (r39)), (3, .int (r35)), (2, .int (x2_9)), (0, .ref (ad (1000)))]) hx hb dX10_test_127 rfl hl (by decide) rfl (fun ls hl => ?_)
                      refine lv_goto (tgt := 199) hx hb dX10_test_128 (by decide) ?_
                      refine lv_goto (tgt := 9) hx hb dX10_test_199 (by decide) ?_
                      have pw353 : ((u2 I324 (1000) 25 (v351)) (1000) 24).toInt = (Ia9 (1000) 24 : Int32).toInt := (congrArg Int32.toInt ((show (u2 I324 (1000) 25 (v351)) (1000) 24 = I324 (1000) 24 from by simp [u2_v]))).trans pw327
                      have pw354 : ((u2 I324 (1000) 25 (v351)) (1000) 25).toInt = (v351 : Int32).toInt := congrArg Int32.toInt ((show (u2 I324 (1000) 25 (v351)) (1000) 25 = v351 from by simp [u2_v]))
                      have pw355 : ((u2 I324 (1000) 25 (v351)) (1000) 26).toInt = (I324 (1000) 26 : Int32).toInt := congrArg Int32.toInt ((show (u2 I324 (1000) 25 (v351)) (1000) 26 = I324 (1000) 26 from by simp [u2_v]))
                      have pw356 : ((u2 I324 (1000) 25 (v351)) (1000) 27).toInt = (Ia9 (1000) 27 : Int32).toInt := (congrArg Int32.toInt ((show (u2 I324 (1000) 25 (v351)) (1000) 27 = I324 (1000) 27 from by simp [u2_v]))).trans pw329
                      have pw357 : ((u2 I324 (1000) 25 (v351)) (1000) 29).toInt = (I44 (1000) 29 : Int32).toInt := (congrArg Int32.toInt ((show (u2 I324 (1000) 25 (v351)) (1000) 29 = I324 (1000) 29 from by simp [u2_v]))).trans pw330
                      have pw358 : ((u2 I324 (1000) 25 (v351)) (1000) 31).toInt = (Ia9 (1000) 31 : Int32).toInt := (congrArg Int32.toInt ((show (u2 I324 (1000) 25 (v351)) (1000) 31 = I324 (1000) 31 from by simp [u2_v]))).trans pw331
                      have pw359 : ((u2 I324 (1000) 25 (v351)) (1000) 32).toInt = (I324 (1000) 32 : Int32).toInt := congrArg Int32.toInt ((show (u2 I324 (1000) 25 (v351)) (1000) 32 = I324 (1000) 32 from by simp [u2_v]))
                      replace hC := CT.link (I2 := (u2 I324 (1000) 25 (v351))) hC (((show (u2 I324 (1000) 25 (v351)) 1035 = I324 1035 from by funext zz; simp [u2_v])).trans (hkI324.getA 1035 rfl)) (((show (u2 I324 (1000) 25 (v351)) 1036 = I324 1036 from by funext zz; simp [u2_v])).trans (hkI324.getA 1036 rfl)) (by omega) (fun hz => by have w0 := xI324.2.1 (by omega); omega)
                      have nn360 := NS_of (I2 := (u2 I324 (1000) 25 (v351))) (I := I324) ((show (u2 I324 (1000) 25 (v351)) 1042 = I324 1042 from by funext zz; simp [u2_v])) (by omega)
                      have pw361 : ((u2 I324 (1000) 25 (v351)) (1000) 30).toInt = (I324 (1000) 30 : Int32).toInt := congrArg Int32.toInt ((show (u2 I324 (1000) 25 (v351)) (1000) 30 = I324 (1000) 30 from by simp [u2_v]))
                      have gP9 := hI.get 1000 25 (lo := 0) (hi := 100000) rfl
                      have gO9 := hI.get 1000 32 (lo := 0) (hi := 402) rfl
                      have hT1 := hTS
                      rw [show (x1_9).toInt = 0 from by omega, show (x2_9).toInt = 1 from by omega] at hT1
                      have hq0 : (I25 1000 25).toNatClampNeg = skp (TM I) (Ia9 1000 25).toNatClampNeg := by rw [nw34, show (I14 1000 25).toNatClampNeg = (Ia9 1000 25).toNatClampNeg from cl_eq (by omega)]
                      have z1 := tn (i := I25 1000 25) (by omega)
                      have z2 := tn (i := (u2 I324 (1000) 25 (v351)) 1000 25) (by omega)
                      rw [(RK_of (J := I14) (J2 := I25) ((hkI25.getA 1042 rfl)) (by omega)), (RC_of (J := I14) (J2 := I25) ((hkI25.getA 1035 rfl)) ((hkI25.getA 1036 rfl)) (by omega) (by omega)), show I25 1000 30 = I14 1000 30 from Int32.toInt_inj.mp (by omega)] at an52
                      have hz2 := pz2_of an24 an52
                      have gR7 := RC_len (J := Ia9) gE99.1
                      exact ih9 (x2_9) (1) (u2 I324 (1000) 25 (v351)) L325 _ _ ls hI hK (by first | omega | decide) (by first | omega | decide) (by omega) (fun hz => by have w0 := xI324.2.1 (by omega); omega) (by rw [show NB (u2 I324 (1000) 25 (v351)) + (1 - (1 : Int32).toInt).toNat = dd from by omega]; exact hC) (by exfalso; omega) (by omega) hM hS (lv_sub hl [3, 0, 4] rfl)
                  · have hc322 := c322
                    have q322 := q_ne hc322
                    have sg362 := slr35 (by omega)
                    have sc363 := sx38.y (by omega)
                    refine lv_bipush (v := (10)) hx hb dX10_test_98 (by decide) ?_
                    refine lv_goto (tgt := 105) hx hb dX10_test_100 (by decide) ?_
                    refine m_callv (m_runV (1000) (As := [.int (10)]) (rest := []) hx hb hml hown hts hE hM hS hA ce_X10_opens tb_1586 (V_X10_opens_h l D A ad ns I44 L45 G (10) hJ hI (by first | omega | decide) (by omega)) rfl rfl ⟨Nat.le_of_ble_eq_true rfl, Nat.le_of_ble_eq_true rfl⟩ hJ.1 rfl rfl (by decide) rfl hl.1 rfl (Nat.le_of_ble_eq_true rfl) dX10_test_105 ⟨Nat.le_of_ble_eq_true rfl, Nat.le_of_ble_eq_true rfl⟩) hS (fun u H locs hw hM hS => ?_)
                    obtain ⟨I364, L365, rfl, hI, hkI364, xI364⟩ := hw
                    have hM : Mem D A ad ns I364 L365 G H := hM
                    have hK := hK.trans hkI364 rfl
                    have g366 := hI.get 1000 32 (lo := 0) (hi := 402) rfl
                    have pw367 : (I364 (1000) 24).toInt = (Ia9 (1000) 24 : Int32).toInt := (congrArg Int32.toInt ((hkI364.get (1000) 24 rfl))).trans pw47
                    have pw368 : (I364 (1000) 25).toInt = (I25 (1000) 25 : Int32).toInt := (congrArg Int32.toInt ((hkI364.get (1000) 25 rfl))).trans pw48
                    have pw369 : (I364 (1000) 27).toInt = (Ia9 (1000) 27 : Int32).toInt := (congrArg Int32.toInt ((hkI364.get (1000) 27 rfl))).trans pw50
                    have pw370 : (I364 (1000) 29).toInt = (I44 (1000) 29 : Int32).toInt := congrArg Int32.toInt ((hkI364.get (1000) 29 rfl))
                    have pw371 : (I364 (1000) 31).toInt = (Ia9 (1000) 31 : Int32).toInt := (congrArg Int32.toInt ((hkI364.get (1000) 31 rfl))).trans pw51
                    have pv372 : pN 10 = 1 ∧ pB 10 = 1 := by decide
                    have po373 := xI364.2.2
                    refine lv_aload_n hx hb dX10_test_108 rfl (lv_at hl 4 rfl) ?_
                    refine lv_dup hx hb dX10_test_109 rfl ?_
                    refine m_geti (1000) 25 hx hb hts hown hE oc10 hM hJ.1 rfl (by decide) rfl tb_1202 dX10_test_110 ?_
                    have g374 := hI.get (1000) 25 (lo := 0) (hi := 100000) rfl
                    have z375 : I364 (1000) 25 = I25 (1000) 25 := ((hkI364.get (1000) 25 rfl)).trans (hkI44.get (1000) 25 rfl)
                    rw [z375] at g374 ⊢
                    refine lv_iload_n hx hb dX10_test_113 rfl (lv_at hl 1 rfl) ?_
                    refine lv_if_eq (tgt := 121) hx hb dX10_test_114 (by decide) (fun c376 => ?_) (fun c376 => ?_)
                    · have hc376 := c376
                      have q376 := q_eq hc376
                      have sc377 := sx38.n (by omega)
                      refine lv_iconst (v := (2)) hx hb dX10_test_121 (by decide) ?_
                      refine lv_iadd hx hb dX10_test_122 ?_
                      refine lv_topi (fun v378 ev378 => ?_)
                      have tv378 := a_add ev378 (by omega) (by omega)
                      refine m_puti (1000) 25 hx hb hts hown hE oc10 hM hS hJ.1 rfl (by decide) rfl rfl rfl rfl tb_1202 dX10_test_123 (fun H locs I379 eI379 hM hS => ?_)
                      subst eI379
                      have hI := hI.put (n := 1000) (k := 25) (v := v378) (lo := 0) (hi := 100000) rfl (by first | omega | decide)
                      have hK := hK.put (n := 1000) (k := 25) (v := v378) (by first | rfl | simp [inR])
                      refine lv_iconst (v := (1)) hx hb dX10_test_126 (by decide) ?_
                      refine lv_istore_n (lv' := [(1, .int (1)), (4, .int (r39)), (3, .int (r35)), (2, .int (x2_9)), (0, .ref (ad (1000)))]) hx hb dX10_test_127 rfl hl (by decide) rfl (fun ls hl => ?_)
                      refine lv_goto (tgt := 199) hx hb dX10_test_128 (by decide) ?_
                      refine lv_goto (tgt := 9) hx hb dX10_test_199 (by decide) ?_
                      have pw380 : ((u2 I364 (1000) 25 (v378)) (1000) 24).toInt = (Ia9 (1000) 24 : Int32).toInt := (congrArg Int32.toInt ((show (u2 I364 (1000) 25 (v378)) (1000) 24 = I364 (1000) 24 from by simp [u2_v]))).trans pw367
                      have pw381 : ((u2 I364 (1000) 25 (v378)) (1000) 25).toInt = (v378 : Int32).toInt := congrArg Int32.toInt ((show (u2 I364 (1000) 25 (v378)) (1000) 25 = v378 from by simp [u2_v]))
                      have pw382 : ((u2 I364 (1000) 25 (v378)) (1000) 26).toInt = (I364 (1000) 26 : Int32).toInt := congrArg Int32.toInt ((show (u2 I364 (1000) 25 (v378)) (1000) 26 = I364 (1000) 26 from by simp [u2_v]))
                      have pw383 : ((u2 I364 (1000) 25 (v378)) (1000) 27).toInt = (Ia9 (1000) 27 : Int32).toInt := (congrArg Int32.toInt ((show (u2 I364 (1000) 25 (v378)) (1000) 27 = I364 (1000) 27 from by simp [u2_v]))).trans pw369
                      have pw384 : ((u2 I364 (1000) 25 (v378)) (1000) 29).toInt = (I44 (1000) 29 : Int32).toInt := (congrArg Int32.toInt ((show (u2 I364 (1000) 25 (v378)) (1000) 29 = I364 (1000) 29 from by simp [u2_v]))).trans pw370
                      have pw385 : ((u2 I364 (1000) 25 (v378)) (1000) 31).toInt = (Ia9 (1000) 31 : Int32).toInt := (congrArg Int32.toInt ((show (u2 I364 (1000) 25 (v378)) (1000) 31 = I364 (1000) 31 from by simp [u2_v]))).trans pw371
                      have pw386 : ((u2 I364 (1000) 25 (v378)) (1000) 32).toInt = (I364 (1000) 32 : Int32).toInt := congrArg Int32.toInt ((show (u2 I364 (1000) 25 (v378)) (1000) 32 = I364 (1000) 32 from by simp [u2_v]))
                      replace hC := CT.link (I2 := (u2 I364 (1000) 25 (v378))) hC (((show (u2 I364 (1000) 25 (v378)) 1035 = I364 1035 from by funext zz; simp [u2_v])).trans (hkI364.getA 1035 rfl)) (((show (u2 I364 (1000) 25 (v378)) 1036 = I364 1036 from by funext zz; simp [u2_v])).trans (hkI364.getA 1036 rfl)) (by omega) (fun hz => by have w0 := xI364.2.1 (by omega); omega)
                      have nn387 := NS_of (I2 := (u2 I364 (1000) 25 (v378))) (I := I364) ((show (u2 I364 (1000) 25 (v378)) 1042 = I364 1042 from by funext zz; simp [u2_v])) (by omega)
                      have pw388 : ((u2 I364 (1000) 25 (v378)) (1000) 30).toInt = (I364 (1000) 30 : Int32).toInt := congrArg Int32.toInt ((show (u2 I364 (1000) 25 (v378)) (1000) 30 = I364 (1000) 30 from by simp [u2_v]))
                      have gP9 := hI.get 1000 25 (lo := 0) (hi := 100000) rfl
                      have gO9 := hI.get 1000 32 (lo := 0) (hi := 402) rfl
                      have hT1 := hTS
                      rw [show (x1_9).toInt = 0 from by omega, show (x2_9).toInt = 1 from by omega] at hT1
                      have hq0 : (I25 1000 25).toNatClampNeg = skp (TM I) (Ia9 1000 25).toNatClampNeg := by rw [nw34, show (I14 1000 25).toNatClampNeg = (Ia9 1000 25).toNatClampNeg from cl_eq (by omega)]
                      have z1 := tn (i := I25 1000 25) (by omega)
                      have z2 := tn (i := (u2 I364 (1000) 25 (v378)) 1000 25) (by omega)
                      rw [(RK_of (J := I14) (J2 := I25) ((hkI25.getA 1042 rfl)) (by omega)), (RC_of (J := I14) (J2 := I25) ((hkI25.getA 1035 rfl)) ((hkI25.getA 1036 rfl)) (by omega) (by omega)), show I25 1000 30 = I14 1000 30 from Int32.toInt_inj.mp (by omega)] at an52
                      have hz2 := pz2_of an24 an52
                      have gR7 := RC_len (J := Ia9) gE99.1
                      exact ih9 (x2_9) (1) (u2 I364 (1000) 25 (v378)) L365 _ _ ls hI hK (by first | omega | decide) (by first | omega | decide) (by omega) (fun hz => by have w0 := xI364.2.1 (by omega); omega) (by rw [show NB (u2 I364 (1000) 25 (v378)) + (1 - (1 : Int32).toInt).toNat = dd from by omega]; exact hC) (by exfalso; omega) (by omega) hM hS (lv_sub hl [3, 0, 4] rfl)
                    · have hc376 := c376
                      have q376 := q_ne hc376
                      have sg389 := slr35 (by omega)
                      have sc390 := sx38.y (by omega)
                      refine lv_iconst (v := (3)) hx hb dX10_test_117 (by decide) ?_
                      refine lv_goto (tgt := 122) hx hb dX10_test_118 (by decide) ?_
                      refine lv_iadd hx hb dX10_test_122 ?_
                      refine lv_topi (fun v391 ev391 => ?_)
                      have tv391 := a_add ev391 (by omega) (by omega)
                      refine m_puti (1000) 25 hx hb hts hown hE oc10 hM hS hJ.1 rfl (by decide) rfl rfl rfl rfl tb_1202 dX10_test_123 (fun H locs I392 eI392 hM hS => ?_)
                      subst eI392
                      have hI := hI.put (n := 1000) (k := 25) (v := v391) (lo := 0) (hi := 100000) rfl (by first | omega | decide)
                      have hK := hK.put (n := 1000) (k := 25) (v := v391) (by first | rfl | simp [inR])
                      refine lv_iconst (v := (1)) hx hb dX10_test_126 (by decide) ?_
                      refine lv_istore_n (lv' := [(1, .int (1)), (4, .int (r39)), (3, .int (r35)), (2, .int (x2_9)), (0, .ref (ad (1000)))]) hx hb dX10_test_127 rfl hl (by decide) rfl (fun ls hl => ?_)
                      refine lv_goto (tgt := 199) hx hb dX10_test_128 (by decide) ?_
                      refine lv_goto (tgt := 9) hx hb dX10_test_199 (by decide) ?_
                      have pw393 : ((u2 I364 (1000) 25 (v391)) (1000) 24).toInt = (Ia9 (1000) 24 : Int32).toInt := (congrArg Int32.toInt ((show (u2 I364 (1000) 25 (v391)) (1000) 24 = I364 (1000) 24 from by simp [u2_v]))).trans pw367
                      have pw394 : ((u2 I364 (1000) 25 (v391)) (1000) 25).toInt = (v391 : Int32).toInt := congrArg Int32.toInt ((show (u2 I364 (1000) 25 (v391)) (1000) 25 = v391 from by simp [u2_v]))
                      have pw395 : ((u2 I364 (1000) 25 (v391)) (1000) 26).toInt = (I364 (1000) 26 : Int32).toInt := congrArg Int32.toInt ((show (u2 I364 (1000) 25 (v391)) (1000) 26 = I364 (1000) 26 from by simp [u2_v]))
                      have pw396 : ((u2 I364 (1000) 25 (v391)) (1000) 27).toInt = (Ia9 (1000) 27 : Int32).toInt := (congrArg Int32.toInt ((show (u2 I364 (1000) 25 (v391)) (1000) 27 = I364 (1000) 27 from by simp [u2_v]))).trans pw369
                      have pw397 : ((u2 I364 (1000) 25 (v391)) (1000) 29).toInt = (I44 (1000) 29 : Int32).toInt := (congrArg Int32.toInt ((show (u2 I364 (1000) 25 (v391)) (1000) 29 = I364 (1000) 29 from by simp [u2_v]))).trans pw370
                      have pw398 : ((u2 I364 (1000) 25 (v391)) (1000) 31).toInt = (Ia9 (1000) 31 : Int32).toInt := (congrArg Int32.toInt ((show (u2 I364 (1000) 25 (v391)) (1000) 31 = I364 (1000) 31 from by simp [u2_v]))).trans pw371
                      have pw399 : ((u2 I364 (1000) 25 (v391)) (1000) 32).toInt = (I364 (1000) 32 : Int32).toInt := congrArg Int32.toInt ((show (u2 I364 (1000) 25 (v391)) (1000) 32 = I364 (1000) 32 from by simp [u2_v]))
                      replace hC := CT.link (I2 := (u2 I364 (1000) 25 (v391))) hC (((show (u2 I364 (1000) 25 (v391)) 1035 = I364 1035 from by funext zz; simp [u2_v])).trans (hkI364.getA 1035 rfl)) (((show (u2 I364 (1000) 25 (v391)) 1036 = I364 1036 from by funext zz; simp [u2_v])).trans (hkI364.getA 1036 rfl)) (by omega) (fun hz => by have w0 := xI364.2.1 (by omega); omega)
                      have nn400 := NS_of (I2 := (u2 I364 (1000) 25 (v391))) (I := I364) ((show (u2 I364 (1000) 25 (v391)) 1042 = I364 1042 from by funext zz; simp [u2_v])) (by omega)
                      have pw401 : ((u2 I364 (1000) 25 (v391)) (1000) 30).toInt = (I364 (1000) 30 : Int32).toInt := congrArg Int32.toInt ((show (u2 I364 (1000) 25 (v391)) (1000) 30 = I364 (1000) 30 from by simp [u2_v]))
                      have gP9 := hI.get 1000 25 (lo := 0) (hi := 100000) rfl
                      have gO9 := hI.get 1000 32 (lo := 0) (hi := 402) rfl
                      have hT1 := hTS
                      rw [show (x1_9).toInt = 0 from by omega, show (x2_9).toInt = 1 from by omega] at hT1
                      have hq0 : (I25 1000 25).toNatClampNeg = skp (TM I) (Ia9 1000 25).toNatClampNeg := by rw [nw34, show (I14 1000 25).toNatClampNeg = (Ia9 1000 25).toNatClampNeg from cl_eq (by omega)]
                      have z1 := tn (i := I25 1000 25) (by omega)
                      have z2 := tn (i := (u2 I364 (1000) 25 (v391)) 1000 25) (by omega)
                      rw [(RK_of (J := I14) (J2 := I25) ((hkI25.getA 1042 rfl)) (by omega)), (RC_of (J := I14) (J2 := I25) ((hkI25.getA 1035 rfl)) ((hkI25.getA 1036 rfl)) (by omega) (by omega)), show I25 1000 30 = I14 1000 30 from Int32.toInt_inj.mp (by omega)] at an52
                      have hz2 := pz2_of an24 an52
                      have gR7 := RC_len (J := Ia9) gE99.1
                      exact ih9 (x2_9) (1) (u2 I364 (1000) 25 (v391)) L365 _ _ ls hI hK (by first | omega | decide) (by first | omega | decide) (by omega) (fun hz => by have w0 := xI364.2.1 (by omega); omega) (by rw [show NB (u2 I364 (1000) 25 (v391)) + (1 - (1 : Int32).toInt).toNat = dd from by omega]; exact hC) (by exfalso; omega) (by omega) hM hS (lv_sub hl [3, 0, 4] rfl)
                · have hc320 := c320
                  have q320 := q_ne hc320
                  have sg402 := slr39 (by omega)
                  have sc403 := sx42.y (by omega)
                  refine lv_aload_n hx hb dX10_test_87 rfl (lv_at hl 4 rfl) ?_
                  refine lv_bipush (v := (11)) hx hb dX10_test_88 (by decide) ?_
                  refine m_callv (m_runV (1000) (As := [.int (11)]) (rest := []) hx hb hml hown hts hE hM hS hA ce_X10_answers tb_1594 (V_X10_answers_h l D A ad ns I44 L45 G (11) hJ hI (by decide) (fun hz => by omega)) rfl rfl ⟨Nat.le_of_ble_eq_true rfl, Nat.le_of_ble_eq_true rfl⟩ hJ.1 rfl rfl (by decide) rfl hl.1 rfl (Nat.le_of_ble_eq_true rfl) dX10_test_90 ⟨Nat.le_of_ble_eq_true rfl, Nat.le_of_ble_eq_true rfl⟩) hS (fun u H locs hw hM hS => ?_)
                  obtain ⟨I404, L405, rfl, hI, hkI404, xI404⟩ := hw
                  have hM : Mem D A ad ns I404 L405 G H := hM
                  have hK := hK.trans hkI404 rfl
                  have g406 := hI.get 1000 32 (lo := 0) (hi := 402) rfl
                  have pw407 : (I404 (1000) 24).toInt = (Ia9 (1000) 24 : Int32).toInt := (congrArg Int32.toInt ((hkI404.get (1000) 24 rfl))).trans pw47
                  have pw408 : (I404 (1000) 25).toInt = (I25 (1000) 25 : Int32).toInt := (congrArg Int32.toInt ((hkI404.get (1000) 25 rfl))).trans pw48
                  have pw409 : (I404 (1000) 26).toInt = (Ia9 (1000) 26 : Int32).toInt := (congrArg Int32.toInt ((hkI404.get (1000) 26 rfl))).trans pw49
                  have pw410 : (I404 (1000) 27).toInt = (Ia9 (1000) 27 : Int32).toInt := (congrArg Int32.toInt ((hkI404.get (1000) 27 rfl))).trans pw50
                  have pw411 : (I404 (1000) 31).toInt = (Ia9 (1000) 31 : Int32).toInt := (congrArg Int32.toInt ((hkI404.get (1000) 31 rfl))).trans pw51
                  replace hC := CT.comp (n1 := NB I44 + 1) (by rw [show NB I44 + 1 = dd from by omega]; exact hC) (xI404.2.2.2.2) (by omega) (by omega) (by omega) (by omega) (fun hz => by omega)
                  obtain ⟨dd, hdd⟩ : ∃ z : Nat, z = NB I404 + 1 := ⟨_, rfl⟩
                  rw [← hdd] at hC
                  have an412 := xI404.1 (by omega)
                  rw [show encs (11 : Int32).toInt = -25 from by decide] at an412
                  refine lv_aload_n hx hb dX10_test_93 rfl (lv_at hl 4 rfl) ?_
                  refine lv_iload_n hx hb dX10_test_94 rfl (lv_at hl 1 rfl) ?_
                  refine lv_if_eq (tgt := 103) hx hb dX10_test_95 (by decide) (fun c413 => ?_) (fun c413 => ?_)
                  · have hc413 := c413
                    have q413 := q_eq hc413
                    have sc414 := sx38.n (by omega)
                    refine lv_bipush (v := (11)) hx hb dX10_test_103 (by decide) ?_
                    refine m_callv (m_runV (1000) (As := [.int (11)]) (rest := []) hx hb hml hown hts hE hM hS hA ce_X10_opens tb_1586 (V_X10_opens_h l D A ad ns I404 L405 G (11) hJ hI (by first | omega | decide) (by omega)) rfl rfl ⟨Nat.le_of_ble_eq_true rfl, Nat.le_of_ble_eq_true rfl⟩ hJ.1 rfl rfl (by decide) rfl hl.1 rfl (Nat.le_of_ble_eq_true rfl) dX10_test_105 ⟨Nat.le_of_ble_eq_true rfl, Nat.le_of_ble_eq_true rfl⟩) hS (fun u H locs hw hM hS => ?_)
                    obtain ⟨I415, L416, rfl, hI, hkI415, xI415⟩ := hw
                    have hM : Mem D A ad ns I415 L416 G H := hM
                    have hK := hK.trans hkI415 rfl
                    have g417 := hI.get 1000 32 (lo := 0) (hi := 402) rfl
                    have pw418 : (I415 (1000) 24).toInt = (Ia9 (1000) 24 : Int32).toInt := (congrArg Int32.toInt ((hkI415.get (1000) 24 rfl))).trans pw407
                    have pw419 : (I415 (1000) 25).toInt = (I25 (1000) 25 : Int32).toInt := (congrArg Int32.toInt ((hkI415.get (1000) 25 rfl))).trans pw408
                    have pw420 : (I415 (1000) 27).toInt = (Ia9 (1000) 27 : Int32).toInt := (congrArg Int32.toInt ((hkI415.get (1000) 27 rfl))).trans pw410
                    have pw421 : (I415 (1000) 29).toInt = (I404 (1000) 29 : Int32).toInt := congrArg Int32.toInt ((hkI415.get (1000) 29 rfl))
                    have pw422 : (I415 (1000) 31).toInt = (Ia9 (1000) 31 : Int32).toInt := (congrArg Int32.toInt ((hkI415.get (1000) 31 rfl))).trans pw411
                    have pv423 : pN 11 = 1 ∧ pB 11 = 1 := by decide
                    have po424 := xI415.2.2
                    refine lv_aload_n hx hb dX10_test_108 rfl (lv_at hl 4 rfl) ?_
                    refine lv_dup hx hb dX10_test_109 rfl ?_
                    refine m_geti (1000) 25 hx hb hts hown hE oc10 hM hJ.1 rfl (by decide) rfl tb_1202 dX10_test_110 ?_
                    have g425 := hI.get (1000) 25 (lo := 0) (hi := 100000) rfl
                    have z426 : I415 (1000) 25 = I25 (1000) 25 := (((hkI415.get (1000) 25 rfl)).trans (hkI404.get (1000) 25 rfl)).trans (hkI44.get (1000) 25 rfl)
                    rw [z426] at g425 ⊢
                    refine lv_iload_n hx hb dX10_test_113 rfl (lv_at hl 1 rfl) ?_
                    refine lv_if_eq (tgt := 121) hx hb dX10_test_114 (by decide) (fun c427 => ?_) (fun c427 => ?_)
                    · have hc427 := c427
                      have q427 := q_eq hc427
                      have sc428 := sx38.n (by omega)
                      refine lv_iconst (v := (2)) hx hb dX10_test_121 (by decide) ?_
                      refine lv_iadd hx hb dX10_test_122 ?_
                      refine lv_topi (fun v429 ev429 => ?_)
                      have tv429 := a_add ev429 (by omega) (by omega)
                      refine m_puti (1000) 25 hx hb hts hown hE oc10 hM hS hJ.1 rfl (by decide) rfl rfl rfl rfl tb_1202 dX10_test_123 (fun H locs I430 eI430 hM hS => ?_)
                      subst eI430
                      have hI := hI.put (n := 1000) (k := 25) (v := v429) (lo := 0) (hi := 100000) rfl (by first | omega | decide)
                      have hK := hK.put (n := 1000) (k := 25) (v := v429) (by first | rfl | simp [inR])
                      refine lv_iconst (v := (1)) hx hb dX10_test_126 (by decide) ?_
                      refine lv_istore_n (lv' := [(1, .int (1)), (4, .int (r39)), (3, .int (r35)), (2, .int (x2_9)), (0, .ref (ad (1000)))]) hx hb dX10_test_127 rfl hl (by decide) rfl (fun ls hl => ?_)
                      refine lv_goto (tgt := 199) hx hb dX10_test_128 (by decide) ?_
                      refine lv_goto (tgt := 9) hx hb dX10_test_199 (by decide) ?_
                      have pw431 : ((u2 I415 (1000) 25 (v429)) (1000) 24).toInt = (Ia9 (1000) 24 : Int32).toInt := (congrArg Int32.toInt ((show (u2 I415 (1000) 25 (v429)) (1000) 24 = I415 (1000) 24 from by simp [u2_v]))).trans pw418
                      have pw432 : ((u2 I415 (1000) 25 (v429)) (1000) 25).toInt = (v429 : Int32).toInt := congrArg Int32.toInt ((show (u2 I415 (1000) 25 (v429)) (1000) 25 = v429 from by simp [u2_v]))
                      have pw433 : ((u2 I415 (1000) 25 (v429)) (1000) 26).toInt = (I415 (1000) 26 : Int32).toInt := congrArg Int32.toInt ((show (u2 I415 (1000) 25 (v429)) (1000) 26 = I415 (1000) 26 from by simp [u2_v]))
                      have pw434 : ((u2 I415 (1000) 25 (v429)) (1000) 27).toInt = (Ia9 (1000) 27 : Int32).toInt := (congrArg Int32.toInt ((show (u2 I415 (1000) 25 (v429)) (1000) 27 = I415 (1000) 27 from by simp [u2_v]))).trans pw420
                      have pw435 : ((u2 I415 (1000) 25 (v429)) (1000) 29).toInt = (I404 (1000) 29 : Int32).toInt := (congrArg Int32.toInt ((show (u2 I415 (1000) 25 (v429)) (1000) 29 = I415 (1000) 29 from by simp [u2_v]))).trans pw421
                      have pw436 : ((u2 I415 (1000) 25 (v429)) (1000) 31).toInt = (Ia9 (1000) 31 : Int32).toInt := (congrArg Int32.toInt ((show (u2 I415 (1000) 25 (v429)) (1000) 31 = I415 (1000) 31 from by simp [u2_v]))).trans pw422
                      have pw437 : ((u2 I415 (1000) 25 (v429)) (1000) 32).toInt = (I415 (1000) 32 : Int32).toInt := congrArg Int32.toInt ((show (u2 I415 (1000) 25 (v429)) (1000) 32 = I415 (1000) 32 from by simp [u2_v]))
                      replace hC := CT.link (I2 := (u2 I415 (1000) 25 (v429))) hC (((show (u2 I415 (1000) 25 (v429)) 1035 = I415 1035 from by funext zz; simp [u2_v])).trans (hkI415.getA 1035 rfl)) (((show (u2 I415 (1000) 25 (v429)) 1036 = I415 1036 from by funext zz; simp [u2_v])).trans (hkI415.getA 1036 rfl)) (by omega) (fun hz => by have w0 := xI415.2.1 (by omega); omega)
                      have nn438 := NS_of (I2 := (u2 I415 (1000) 25 (v429))) (I := I415) ((show (u2 I415 (1000) 25 (v429)) 1042 = I415 1042 from by funext zz; simp [u2_v])) (by omega)
                      have pw439 : ((u2 I415 (1000) 25 (v429)) (1000) 30).toInt = (I415 (1000) 30 : Int32).toInt := congrArg Int32.toInt ((show (u2 I415 (1000) 25 (v429)) (1000) 30 = I415 (1000) 30 from by simp [u2_v]))
                      have gP9 := hI.get 1000 25 (lo := 0) (hi := 100000) rfl
                      have gO9 := hI.get 1000 32 (lo := 0) (hi := 402) rfl
                      have hT1 := hTS
                      rw [show (x1_9).toInt = 0 from by omega, show (x2_9).toInt = 1 from by omega] at hT1
                      have hq0 : (I25 1000 25).toNatClampNeg = skp (TM I) (Ia9 1000 25).toNatClampNeg := by rw [nw34, show (I14 1000 25).toNatClampNeg = (Ia9 1000 25).toNatClampNeg from cl_eq (by omega)]
                      have z1 := tn (i := I25 1000 25) (by omega)
                      have z2 := tn (i := (u2 I415 (1000) 25 (v429)) 1000 25) (by omega)
                      rw [(RK_of (J := I14) (J2 := I25) ((hkI25.getA 1042 rfl)) (by omega)), (RC_of (J := I14) (J2 := I25) ((hkI25.getA 1035 rfl)) ((hkI25.getA 1036 rfl)) (by omega) (by omega)), show I25 1000 30 = I14 1000 30 from Int32.toInt_inj.mp (by omega)] at an52
                      have hz2 := pz2_of an24 an52
                      have gR7 := RC_len (J := Ia9) gE99.1
                      rw [(RK_of (J := I44) (J2 := I44) (rfl) (by omega)), (RC_of (J := I44) (J2 := I44) (rfl) (rfl) (by omega) (by omega)), show I44 1000 30 = I44 1000 30 from Int32.toInt_inj.mp (by omega)] at an412
                      have hz3 := pz3_of hz2 an412
                      have hdo := xI415.1.2.2 (by decide)
                      exact ih9 (x2_9) (1) (u2 I415 (1000) 25 (v429)) L416 _ _ ls hI hK (by first | omega | decide) (by first | omega | decide) (by omega) (fun hz => by have w0 := xI415.2.1 (by omega); omega) (by rw [show NB (u2 I415 (1000) 25 (v429)) + (1 - (1 : Int32).toInt).toNat = dd from by omega]; exact hC) (by rw [show (1 : Int32).toInt = 1 from by omega, show (x2_9 : Int32).toInt = 1 from by omega]; exact tsi_sign (q := (I25 1000 25).toNatClampNeg) (o := -25) (z := (RK I404, I404 1000 30, RC I404)) hT1 (by omega) hq0 (tk_or sc403).1 (Or.inr ⟨rfl, hz3.symm⟩) (by omega) (by omega) (by rw [(tk_or sc403).2.1]; omega) (by omega) (RC_of (J := I404) (J2 := (u2 I415 (1000) 25 (v429))) (((show (u2 I415 (1000) 25 (v429)) 1035 = I415 1035 from by funext zz; simp [u2_v])).trans (hkI415.getA 1035 rfl)) (((show (u2 I415 (1000) 25 (v429)) 1036 = I415 1036 from by funext zz; simp [u2_v])).trans (hkI415.getA 1036 rfl)) (by omega) (by omega)) (((RK_of (J := I415) (J2 := (u2 I415 (1000) 25 (v429))) ((show (u2 I415 (1000) 25 (v429)) 1042 = I415 1042 from by funext zz; simp [u2_v])) (by omega))).trans (xI415.1.1.trans (by rw [(RK_of (J := I404) (J2 := I404) (rfl) (by omega)), show encs (11 : Int32).toInt = -25 from by decide]))) (show (u2 I415 (1000) 25 (v429)) 1000 30 = I404 1000 30 from (Int32.toInt_inj.mp (by omega)).trans (hdo.1.trans (Int32.toInt_inj.mp (by omega))))) (by omega) hM hS (lv_sub hl [3, 0, 4] rfl)
                    · have hc427 := c427
                      have q427 := q_ne hc427
                      have sg440 := slr35 (by omega)
                      have sc441 := sx38.y (by omega)
                      refine lv_iconst (v := (3)) hx hb dX10_test_117 (by decide) ?_
                      refine lv_goto (tgt := 122) hx hb dX10_test_118 (by decide) ?_
                      refine lv_iadd hx hb dX10_test_122 ?_
                      refine lv_topi (fun v442 ev442 => ?_)
                      have tv442 := a_add ev442 (by omega) (by omega)
                      refine m_puti (1000) 25 hx hb hts hown hE oc10 hM hS hJ.1 rfl (by decide) rfl rfl rfl rfl tb_1202 dX10_test_123 (fun H locs I443 eI443 hM hS => ?_)
                      subst eI443
                      have hI := hI.put (n := 1000) (k := 25) (v := v442) (lo := 0) (hi := 100000) rfl (by first | omega | decide)
                      have hK := hK.put (n := 1000) (k := 25) (v := v442) (by first | rfl | simp [inR])
                      refine lv_iconst (v := (1)) hx hb dX10_test_126 (by decide) ?_
                      refine lv_istore_n (lv' := [(1, .int (1)), (4, .int (r39)), (3, .int (r35)), (2, .int (x2_9)), (0, .ref (ad (1000)))]) hx hb dX10_test_127 rfl hl (by decide) rfl (fun ls hl => ?_)
                      refine lv_goto (tgt := 199) hx hb dX10_test_128 (by decide) ?_
                      refine lv_goto (tgt := 9) hx hb dX10_test_199 (by decide) ?_
                      have pw444 : ((u2 I415 (1000) 25 (v442)) (1000) 24).toInt = (Ia9 (1000) 24 : Int32).toInt := (congrArg Int32.toInt ((show (u2 I415 (1000) 25 (v442)) (1000) 24 = I415 (1000) 24 from by simp [u2_v]))).trans pw418
                      have pw445 : ((u2 I415 (1000) 25 (v442)) (1000) 25).toInt = (v442 : Int32).toInt := congrArg Int32.toInt ((show (u2 I415 (1000) 25 (v442)) (1000) 25 = v442 from by simp [u2_v]))
                      have pw446 : ((u2 I415 (1000) 25 (v442)) (1000) 26).toInt = (I415 (1000) 26 : Int32).toInt := congrArg Int32.toInt ((show (u2 I415 (1000) 25 (v442)) (1000) 26 = I415 (1000) 26 from by simp [u2_v]))
                      have pw447 : ((u2 I415 (1000) 25 (v442)) (1000) 27).toInt = (Ia9 (1000) 27 : Int32).toInt := (congrArg Int32.toInt ((show (u2 I415 (1000) 25 (v442)) (1000) 27 = I415 (1000) 27 from by simp [u2_v]))).trans pw420
                      have pw448 : ((u2 I415 (1000) 25 (v442)) (1000) 29).toInt = (I404 (1000) 29 : Int32).toInt := (congrArg Int32.toInt ((show (u2 I415 (1000) 25 (v442)) (1000) 29 = I415 (1000) 29 from by simp [u2_v]))).trans pw421
                      have pw449 : ((u2 I415 (1000) 25 (v442)) (1000) 31).toInt = (Ia9 (1000) 31 : Int32).toInt := (congrArg Int32.toInt ((show (u2 I415 (1000) 25 (v442)) (1000) 31 = I415 (1000) 31 from by simp [u2_v]))).trans pw422
                      have pw450 : ((u2 I415 (1000) 25 (v442)) (1000) 32).toInt = (I415 (1000) 32 : Int32).toInt := congrArg Int32.toInt ((show (u2 I415 (1000) 25 (v442)) (1000) 32 = I415 (1000) 32 from by simp [u2_v]))
                      replace hC := CT.link (I2 := (u2 I415 (1000) 25 (v442))) hC (((show (u2 I415 (1000) 25 (v442)) 1035 = I415 1035 from by funext zz; simp [u2_v])).trans (hkI415.getA 1035 rfl)) (((show (u2 I415 (1000) 25 (v442)) 1036 = I415 1036 from by funext zz; simp [u2_v])).trans (hkI415.getA 1036 rfl)) (by omega) (fun hz => by have w0 := xI415.2.1 (by omega); omega)
                      have nn451 := NS_of (I2 := (u2 I415 (1000) 25 (v442))) (I := I415) ((show (u2 I415 (1000) 25 (v442)) 1042 = I415 1042 from by funext zz; simp [u2_v])) (by omega)
                      have pw452 : ((u2 I415 (1000) 25 (v442)) (1000) 30).toInt = (I415 (1000) 30 : Int32).toInt := congrArg Int32.toInt ((show (u2 I415 (1000) 25 (v442)) (1000) 30 = I415 (1000) 30 from by simp [u2_v]))
                      have gP9 := hI.get 1000 25 (lo := 0) (hi := 100000) rfl
                      have gO9 := hI.get 1000 32 (lo := 0) (hi := 402) rfl
                      have hT1 := hTS
                      rw [show (x1_9).toInt = 0 from by omega, show (x2_9).toInt = 1 from by omega] at hT1
                      have hq0 : (I25 1000 25).toNatClampNeg = skp (TM I) (Ia9 1000 25).toNatClampNeg := by rw [nw34, show (I14 1000 25).toNatClampNeg = (Ia9 1000 25).toNatClampNeg from cl_eq (by omega)]
                      have z1 := tn (i := I25 1000 25) (by omega)
                      have z2 := tn (i := (u2 I415 (1000) 25 (v442)) 1000 25) (by omega)
                      rw [(RK_of (J := I14) (J2 := I25) ((hkI25.getA 1042 rfl)) (by omega)), (RC_of (J := I14) (J2 := I25) ((hkI25.getA 1035 rfl)) ((hkI25.getA 1036 rfl)) (by omega) (by omega)), show I25 1000 30 = I14 1000 30 from Int32.toInt_inj.mp (by omega)] at an52
                      have hz2 := pz2_of an24 an52
                      have gR7 := RC_len (J := Ia9) gE99.1
                      rw [(RK_of (J := I44) (J2 := I44) (rfl) (by omega)), (RC_of (J := I44) (J2 := I44) (rfl) (rfl) (by omega) (by omega)), show I44 1000 30 = I44 1000 30 from Int32.toInt_inj.mp (by omega)] at an412
                      have hz3 := pz3_of hz2 an412
                      exact ih9 (x2_9) (1) (u2 I415 (1000) 25 (v442)) L416 _ _ ls hI hK (by first | omega | decide) (by first | omega | decide) (by omega) (fun hz => by have w0 := xI415.2.1 (by omega); omega) (by rw [show NB (u2 I415 (1000) 25 (v442)) + (1 - (1 : Int32).toInt).toNat = dd from by omega]; exact hC) (by exfalso; omega) (by omega) hM hS (lv_sub hl [3, 0, 4] rfl)
                  · have hc413 := c413
                    have q413 := q_ne hc413
                    have sg453 := slr35 (by omega)
                    have sc454 := sx38.y (by omega)
                    refine lv_bipush (v := (10)) hx hb dX10_test_98 (by decide) ?_
                    refine lv_goto (tgt := 105) hx hb dX10_test_100 (by decide) ?_
                    refine m_callv (m_runV (1000) (As := [.int (10)]) (rest := []) hx hb hml hown hts hE hM hS hA ce_X10_opens tb_1586 (V_X10_opens_h l D A ad ns I404 L405 G (10) hJ hI (by first | omega | decide) (by omega)) rfl rfl ⟨Nat.le_of_ble_eq_true rfl, Nat.le_of_ble_eq_true rfl⟩ hJ.1 rfl rfl (by decide) rfl hl.1 rfl (Nat.le_of_ble_eq_true rfl) dX10_test_105 ⟨Nat.le_of_ble_eq_true rfl, Nat.le_of_ble_eq_true rfl⟩) hS (fun u H locs hw hM hS => ?_)
                    obtain ⟨I455, L456, rfl, hI, hkI455, xI455⟩ := hw
                    have hM : Mem D A ad ns I455 L456 G H := hM
                    have hK := hK.trans hkI455 rfl
                    have g457 := hI.get 1000 32 (lo := 0) (hi := 402) rfl
                    have pw458 : (I455 (1000) 24).toInt = (Ia9 (1000) 24 : Int32).toInt := (congrArg Int32.toInt ((hkI455.get (1000) 24 rfl))).trans pw407
                    have pw459 : (I455 (1000) 25).toInt = (I25 (1000) 25 : Int32).toInt := (congrArg Int32.toInt ((hkI455.get (1000) 25 rfl))).trans pw408
                    have pw460 : (I455 (1000) 27).toInt = (Ia9 (1000) 27 : Int32).toInt := (congrArg Int32.toInt ((hkI455.get (1000) 27 rfl))).trans pw410
                    have pw461 : (I455 (1000) 29).toInt = (I404 (1000) 29 : Int32).toInt := congrArg Int32.toInt ((hkI455.get (1000) 29 rfl))
                    have pw462 : (I455 (1000) 31).toInt = (Ia9 (1000) 31 : Int32).toInt := (congrArg Int32.toInt ((hkI455.get (1000) 31 rfl))).trans pw411
                    have pv463 : pN 10 = 1 ∧ pB 10 = 1 := by decide
                    have po464 := xI455.2.2
                    refine lv_aload_n hx hb dX10_test_108 rfl (lv_at hl 4 rfl) ?_
                    refine lv_dup hx hb dX10_test_109 rfl ?_
                    refine m_geti (1000) 25 hx hb hts hown hE oc10 hM hJ.1 rfl (by decide) rfl tb_1202 dX10_test_110 ?_
                    have g465 := hI.get (1000) 25 (lo := 0) (hi := 100000) rfl
                    have z466 : I455 (1000) 25 = I25 (1000) 25 := (((hkI455.get (1000) 25 rfl)).trans (hkI404.get (1000) 25 rfl)).trans (hkI44.get (1000) 25 rfl)
                    rw [z466] at g465 ⊢
                    refine lv_iload_n hx hb dX10_test_113 rfl (lv_at hl 1 rfl) ?_
                    refine lv_if_eq (tgt := 121) hx hb dX10_test_114 (by decide) (fun c467 => ?_) (fun c467 => ?_)
                    · have hc467 := c467
                      have q467 := q_eq hc467
                      have sc468 := sx38.n (by omega)
                      refine lv_iconst (v := (2)) hx hb dX10_test_121 (by decide) ?_
                      refine lv_iadd hx hb dX10_test_122 ?_
                      refine lv_topi (fun v469 ev469 => ?_)
                      have tv469 := a_add ev469 (by omega) (by omega)
                      refine m_puti (1000) 25 hx hb hts hown hE oc10 hM hS hJ.1 rfl (by decide) rfl rfl rfl rfl tb_1202 dX10_test_123 (fun H locs I470 eI470 hM hS => ?_)
                      subst eI470
                      have hI := hI.put (n := 1000) (k := 25) (v := v469) (lo := 0) (hi := 100000) rfl (by first | omega | decide)
                      have hK := hK.put (n := 1000) (k := 25) (v := v469) (by first | rfl | simp [inR])
                      refine lv_iconst (v := (1)) hx hb dX10_test_126 (by decide) ?_
                      refine lv_istore_n (lv' := [(1, .int (1)), (4, .int (r39)), (3, .int (r35)), (2, .int (x2_9)), (0, .ref (ad (1000)))]) hx hb dX10_test_127 rfl hl (by decide) rfl (fun ls hl => ?_)
                      refine lv_goto (tgt := 199) hx hb dX10_test_128 (by decide) ?_
                      refine lv_goto (tgt := 9) hx hb dX10_test_199 (by decide) ?_
                      have pw471 : ((u2 I455 (1000) 25 (v469)) (1000) 24).toInt = (Ia9 (1000) 24 : Int32).toInt := (congrArg Int32.toInt ((show (u2 I455 (1000) 25 (v469)) (1000) 24 = I455 (1000) 24 from by simp [u2_v]))).trans pw458
                      have pw472 : ((u2 I455 (1000) 25 (v469)) (1000) 25).toInt = (v469 : Int32).toInt := congrArg Int32.toInt ((show (u2 I455 (1000) 25 (v469)) (1000) 25 = v469 from by simp [u2_v]))
                      have pw473 : ((u2 I455 (1000) 25 (v469)) (1000) 26).toInt = (I455 (1000) 26 : Int32).toInt := congrArg Int32.toInt ((show (u2 I455 (1000) 25 (v469)) (1000) 26 = I455 (1000) 26 from by simp [u2_v]))
                      have pw474 : ((u2 I455 (1000) 25 (v469)) (1000) 27).toInt = (Ia9 (1000) 27 : Int32).toInt := (congrArg Int32.toInt ((show (u2 I455 (1000) 25 (v469)) (1000) 27 = I455 (1000) 27 from by simp [u2_v]))).trans pw460
                      have pw475 : ((u2 I455 (1000) 25 (v469)) (1000) 29).toInt = (I404 (1000) 29 : Int32).toInt := (congrArg Int32.toInt ((show (u2 I455 (1000) 25 (v469)) (1000) 29 = I455 (1000) 29 from by simp [u2_v]))).trans pw461
                      have pw476 : ((u2 I455 (1000) 25 (v469)) (1000) 31).toInt = (Ia9 (1000) 31 : Int32).toInt := (congrArg Int32.toInt ((show (u2 I455 (1000) 25 (v469)) (1000) 31 = I455 (1000) 31 from by simp [u2_v]))).trans pw462
                      have pw477 : ((u2 I455 (1000) 25 (v469)) (1000) 32).toInt = (I455 (1000) 32 : Int32).toInt := congrArg Int32.toInt ((show (u2 I455 (1000) 25 (v469)) (1000) 32 = I455 (1000) 32 from by simp [u2_v]))
                      replace hC := CT.link (I2 := (u2 I455 (1000) 25 (v469))) hC (((show (u2 I455 (1000) 25 (v469)) 1035 = I455 1035 from by funext zz; simp [u2_v])).trans (hkI455.getA 1035 rfl)) (((show (u2 I455 (1000) 25 (v469)) 1036 = I455 1036 from by funext zz; simp [u2_v])).trans (hkI455.getA 1036 rfl)) (by omega) (fun hz => by have w0 := xI455.2.1 (by omega); omega)
                      have nn478 := NS_of (I2 := (u2 I455 (1000) 25 (v469))) (I := I455) ((show (u2 I455 (1000) 25 (v469)) 1042 = I455 1042 from by funext zz; simp [u2_v])) (by omega)
                      have pw479 : ((u2 I455 (1000) 25 (v469)) (1000) 30).toInt = (I455 (1000) 30 : Int32).toInt := congrArg Int32.toInt ((show (u2 I455 (1000) 25 (v469)) (1000) 30 = I455 (1000) 30 from by simp [u2_v]))
                      have gP9 := hI.get 1000 25 (lo := 0) (hi := 100000) rfl
                      have gO9 := hI.get 1000 32 (lo := 0) (hi := 402) rfl
                      have hT1 := hTS
                      rw [show (x1_9).toInt = 0 from by omega, show (x2_9).toInt = 1 from by omega] at hT1
                      have hq0 : (I25 1000 25).toNatClampNeg = skp (TM I) (Ia9 1000 25).toNatClampNeg := by rw [nw34, show (I14 1000 25).toNatClampNeg = (Ia9 1000 25).toNatClampNeg from cl_eq (by omega)]
                      have z1 := tn (i := I25 1000 25) (by omega)
                      have z2 := tn (i := (u2 I455 (1000) 25 (v469)) 1000 25) (by omega)
                      rw [(RK_of (J := I14) (J2 := I25) ((hkI25.getA 1042 rfl)) (by omega)), (RC_of (J := I14) (J2 := I25) ((hkI25.getA 1035 rfl)) ((hkI25.getA 1036 rfl)) (by omega) (by omega)), show I25 1000 30 = I14 1000 30 from Int32.toInt_inj.mp (by omega)] at an52
                      have hz2 := pz2_of an24 an52
                      have gR7 := RC_len (J := Ia9) gE99.1
                      rw [(RK_of (J := I44) (J2 := I44) (rfl) (by omega)), (RC_of (J := I44) (J2 := I44) (rfl) (rfl) (by omega) (by omega)), show I44 1000 30 = I44 1000 30 from Int32.toInt_inj.mp (by omega)] at an412
                      have hz3 := pz3_of hz2 an412
                      exact ih9 (x2_9) (1) (u2 I455 (1000) 25 (v469)) L456 _ _ ls hI hK (by first | omega | decide) (by first | omega | decide) (by omega) (fun hz => by have w0 := xI455.2.1 (by omega); omega) (by rw [show NB (u2 I455 (1000) 25 (v469)) + (1 - (1 : Int32).toInt).toNat = dd from by omega]; exact hC) (by exfalso; omega) (by omega) hM hS (lv_sub hl [3, 0, 4] rfl)
                    · have hc467 := c467
                      have q467 := q_ne hc467
                      have sg480 := slr35 (by omega)
                      have sc481 := sx38.y (by omega)
                      refine lv_iconst (v := (3)) hx hb dX10_test_117 (by decide) ?_
                      refine lv_goto (tgt := 122) hx hb dX10_test_118 (by decide) ?_
                      refine lv_iadd hx hb dX10_test_122 ?_
                      refine lv_topi (fun v482 ev482 => ?_)
                      have tv482 := a_add ev482 (by omega) (by omega)
                      refine m_puti (1000) 25 hx hb hts hown hE oc10 hM hS hJ.1 rfl (by decide) rfl rfl rfl rfl tb_1202 dX10_test_123 (fun H locs I483 eI483 hM hS => ?_)
                      subst eI483
                      have hI := hI.put (n := 1000) (k := 25) (v := v482) (lo := 0) (hi := 100000) rfl (by first | omega | decide)
                      have hK := hK.put (n := 1000) (k := 25) (v := v482) (by first | rfl | simp [inR])
                      refine lv_iconst (v := (1)) hx hb dX10_test_126 (by decide) ?_
                      refine lv_istore_n (lv' := [(1, .int (1)), (4, .int (r39)), (3, .int (r35)), (2, .int (x2_9)), (0, .ref (ad (1000)))]) hx hb dX10_test_127 rfl hl (by decide) rfl (fun ls hl => ?_)
                      refine lv_goto (tgt := 199) hx hb dX10_test_128 (by decide) ?_
                      refine lv_goto (tgt := 9) hx hb dX10_test_199 (by decide) ?_
                      have pw484 : ((u2 I455 (1000) 25 (v482)) (1000) 24).toInt = (Ia9 (1000) 24 : Int32).toInt := (congrArg Int32.toInt ((show (u2 I455 (1000) 25 (v482)) (1000) 24 = I455 (1000) 24 from by simp [u2_v]))).trans pw458
                      have pw485 : ((u2 I455 (1000) 25 (v482)) (1000) 25).toInt = (v482 : Int32).toInt := congrArg Int32.toInt ((show (u2 I455 (1000) 25 (v482)) (1000) 25 = v482 from by simp [u2_v]))
                      have pw486 : ((u2 I455 (1000) 25 (v482)) (1000) 26).toInt = (I455 (1000) 26 : Int32).toInt := congrArg Int32.toInt ((show (u2 I455 (1000) 25 (v482)) (1000) 26 = I455 (1000) 26 from by simp [u2_v]))
                      have pw487 : ((u2 I455 (1000) 25 (v482)) (1000) 27).toInt = (Ia9 (1000) 27 : Int32).toInt := (congrArg Int32.toInt ((show (u2 I455 (1000) 25 (v482)) (1000) 27 = I455 (1000) 27 from by simp [u2_v]))).trans pw460
                      have pw488 : ((u2 I455 (1000) 25 (v482)) (1000) 29).toInt = (I404 (1000) 29 : Int32).toInt := (congrArg Int32.toInt ((show (u2 I455 (1000) 25 (v482)) (1000) 29 = I455 (1000) 29 from by simp [u2_v]))).trans pw461
                      have pw489 : ((u2 I455 (1000) 25 (v482)) (1000) 31).toInt = (Ia9 (1000) 31 : Int32).toInt := (congrArg Int32.toInt ((show (u2 I455 (1000) 25 (v482)) (1000) 31 = I455 (1000) 31 from by simp [u2_v]))).trans pw462
                      have pw490 : ((u2 I455 (1000) 25 (v482)) (1000) 32).toInt = (I455 (1000) 32 : Int32).toInt := congrArg Int32.toInt ((show (u2 I455 (1000) 25 (v482)) (1000) 32 = I455 (1000) 32 from by simp [u2_v]))
                      replace hC := CT.link (I2 := (u2 I455 (1000) 25 (v482))) hC (((show (u2 I455 (1000) 25 (v482)) 1035 = I455 1035 from by funext zz; simp [u2_v])).trans (hkI455.getA 1035 rfl)) (((show (u2 I455 (1000) 25 (v482)) 1036 = I455 1036 from by funext zz; simp [u2_v])).trans (hkI455.getA 1036 rfl)) (by omega) (fun hz => by have w0 := xI455.2.1 (by omega); omega)
                      have nn491 := NS_of (I2 := (u2 I455 (1000) 25 (v482))) (I := I455) ((show (u2 I455 (1000) 25 (v482)) 1042 = I455 1042 from by funext zz; simp [u2_v])) (by omega)
                      have pw492 : ((u2 I455 (1000) 25 (v482)) (1000) 30).toInt = (I455 (1000) 30 : Int32).toInt := congrArg Int32.toInt ((show (u2 I455 (1000) 25 (v482)) (1000) 30 = I455 (1000) 30 from by simp [u2_v]))
                      have gP9 := hI.get 1000 25 (lo := 0) (hi := 100000) rfl
                      have gO9 := hI.get 1000 32 (lo := 0) (hi := 402) rfl
                      have hT1 := hTS
                      rw [show (x1_9).toInt = 0 from by omega, show (x2_9).toInt = 1 from by omega] at hT1
                      have hq0 : (I25 1000 25).toNatClampNeg = skp (TM I) (Ia9 1000 25).toNatClampNeg := by rw [nw34, show (I14 1000 25).toNatClampNeg = (Ia9 1000 25).toNatClampNeg from cl_eq (by omega)]
                      have z1 := tn (i := I25 1000 25) (by omega)
                      have z2 := tn (i := (u2 I455 (1000) 25 (v482)) 1000 25) (by omega)
                      rw [(RK_of (J := I14) (J2 := I25) ((hkI25.getA 1042 rfl)) (by omega)), (RC_of (J := I14) (J2 := I25) ((hkI25.getA 1035 rfl)) ((hkI25.getA 1036 rfl)) (by omega) (by omega)), show I25 1000 30 = I14 1000 30 from Int32.toInt_inj.mp (by omega)] at an52
                      have hz2 := pz2_of an24 an52
                      have gR7 := RC_len (J := Ia9) gE99.1
                      rw [(RK_of (J := I44) (J2 := I44) (rfl) (by omega)), (RC_of (J := I44) (J2 := I44) (rfl) (rfl) (by omega) (by omega)), show I44 1000 30 = I44 1000 30 from Int32.toInt_inj.mp (by omega)] at an412
                      have hz3 := pz3_of hz2 an412
                      exact ih9 (x2_9) (1) (u2 I455 (1000) 25 (v482)) L456 _ _ ls hI hK (by first | omega | decide) (by first | omega | decide) (by omega) (fun hz => by have w0 := xI455.2.1 (by omega); omega) (by rw [show NB (u2 I455 (1000) 25 (v482)) + (1 - (1 : Int32).toInt).toNat = dd from by omega]; exact hC) (by exfalso; omega) (by omega) hM hS (lv_sub hl [3, 0, 4] rfl)
          · have hc13 := c13
            have q13 := q_ne hc13
            refine lv_aload_n hx hb dX10_test_24 rfl (lv_at hl 2 rfl) ?_
            refine m_calli (m_runV (1000) (As := []) (rest := []) hx hb hml hown hts hE hM hS hA ce_X10_fact tb_1581 (V_X10_fact_h l D A ad ns Ia9 La9 G hJ hI (by omega) (fun hz => by omega) (by omega) (hbt.of (hK.getA 1034 rfl) (hK.get 1000 24 rfl))) rfl rfl ⟨Nat.le_of_ble_eq_true rfl, Nat.le_of_ble_eq_true rfl⟩ hJ.1 rfl rfl (by decide) rfl hl.1 rfl (Nat.le_of_ble_eq_true rfl) dX10_test_25 ⟨Nat.le_of_ble_eq_true rfl, Nat.le_of_ble_eq_true rfl⟩) hS (fun r493 u H locs hw hM hS => ?_)
            obtain ⟨I494, L495, rfl, hI, hkI494, xr493⟩ := hw
            have hM : Mem D A ad ns I494 L495 G H := hM
            have hK := hK.trans hkI494 rfl
            have pw496 : (I494 (1000) 24).toInt = (Ia9 (1000) 24 : Int32).toInt := congrArg Int32.toInt ((hkI494.get (1000) 24 rfl))
            have pw497 : (I494 (1000) 27).toInt = (Ia9 (1000) 27 : Int32).toInt := congrArg Int32.toInt ((hkI494.get (1000) 27 rfl))
            have g498 := hI0.get 1000 27 (lo := 0) (hi := 5) rfl
            have g499 := hI0.get 1000 29 (lo := 0) (hi := 300) rfl
            have hrn := tn (i := r493) (by omega)
            replace hC : CT I I494 0 (NB I494 + r493.toNatClampNeg) := by
              rcases (show r493.toInt = 0 ∨ r493.toInt = 1 by omega) with hz | hz
              · exact CT.comp (n1 := NB Ia9) (by rw [show NB Ia9 = dd from by omega]; exact hC) (by rw [show NB I494 + r493.toNatClampNeg = NB I494 from by omega]; exact xr493.2.2.2.2.2.2.2.2.2.1 hz) (by omega) (by omega) (by omega) (by omega) (fun hy => (xr493.2.2.2.2.2.2.2.2.1 hy).1)
              · exact CT.comp (n1 := NB Ia9) (by rw [show NB Ia9 = dd from by omega]; exact hC) (by rw [show NB I494 + r493.toNatClampNeg = NB I494 + 1 from by omega]; exact xr493.2.2.2.2.2.2.2.2.2.2 hz) (by omega) (by omega) (by omega) (by omega) (fun hy => (xr493.2.2.2.2.2.2.2.2.1 hy).1)
            obtain ⟨dd, hdd⟩ : ∃ z : Nat, z = NB I494 + r493.toNatClampNeg := ⟨_, rfl⟩
            rw [← hdd] at hC
            have nw500 := xr493.1
            rw [show TM Ia9 = TM I from (TM_of (hkI494.getA 1034 rfl) (hkI494.get 1000 24 rfl)).symm.trans (TM_of (hK.getA 1034 rfl) (hK.get 1000 24 rfl))] at nw500
            refine lv_if_ne (tgt := 35) hx hb dX10_test_28 (by decide) (fun c501 => ?_) (fun c501 => ?_)
            · have hc501 := c501
              have q501 := q_ne hc501
              refine lv_iconst (v := (0)) hx hb dX10_test_35 (by decide) ?_
              refine lv_istore_n (lv' := [(1, .int (0)), (2, .int (x2_9)), (0, .ref (ad (1000)))]) hx hb dX10_test_36 rfl hl (by decide) rfl (fun ls hl => ?_)
              refine lv_goto (tgt := 9) hx hb dX10_test_37 (by decide) ?_
              have gP9 := hI.get 1000 25 (lo := 0) (hi := 100000) rfl
              have gO9 := hI.get 1000 32 (lo := 0) (hi := 402) rfl
              have hT1 := hTS
              rw [show (x1_9).toInt = 1 from by omega, show (x2_9).toInt = 1 from by omega] at hT1
              exact ih9 (x2_9) (0) I494 L495 _ _ ls hI hK (by first | omega | decide) (by first | omega | decide) (by omega) (fun hz => by have w0 := xr493.2.2.2.2.2.2.2.2.1 (by omega); omega) (by rw [show NB I494 + (1 - (0 : Int32).toInt).toNat = dd from by omega]; exact hC) (by rw [show (x2_9 : Int32).toInt = 1 from by omega]; exact tsi_fact hT1 (by omega) nw500 (by omega)) (by omega) hM hS (lv_sub hl [1, 0, 2] rfl)
            · have hc501 := c501
              have q501 := q_eq hc501
              refine lv_iconst (v := (1)) hx hb dX10_test_31 (by decide) ?_
              refine lv_goto (tgt := 36) hx hb dX10_test_32 (by decide) ?_
              refine lv_istore_n (lv' := [(1, .int (1)), (2, .int (x2_9)), (0, .ref (ad (1000)))]) hx hb dX10_test_36 rfl hl (by decide) rfl (fun ls hl => ?_)
              refine lv_goto (tgt := 9) hx hb dX10_test_37 (by decide) ?_
              have gP9 := hI.get 1000 25 (lo := 0) (hi := 100000) rfl
              have gO9 := hI.get 1000 32 (lo := 0) (hi := 402) rfl
              have hT1 := hTS
              rw [show (x1_9).toInt = 1 from by omega, show (x2_9).toInt = 1 from by omega] at hT1
              exact ih9 (x2_9) (1) I494 L495 _ _ ls hI hK (by first | omega | decide) (by first | omega | decide) (by omega) (fun hz => by have w0 := xr493.2.2.2.2.2.2.2.2.1 (by omega); omega) (by rw [show NB I494 + (1 - (1 : Int32).toInt).toNat = dd from by omega]; exact hC) (by rw [show (x2_9 : Int32).toInt = 1 from by omega]; exact tsi_fact hT1 (by omega) nw500 (by omega)) (by omega) hM hS (lv_sub hl [1, 0, 2] rfl)
  exact loop9 (_ + 1) (1) (1) (u2 I (1000) 32 (0)) L _ _ ls hI hK (by first | omega | decide) (by first | omega | decide) (by omega) (fun hz => by have w0 := hPI (by omega); omega) (by rw [show NB (u2 I (1000) 32 (0)) + (1 - (1 : Int32).toInt).toNat = dd from by omega]; exact hC) (by rw [k1]; exact tsi_0 (by omega) (by rw [show ((u2 I (1000) 32 (0)) 1000 25).toNatClampNeg = (I 1000 25).toNatClampNeg from cl_eq (by omega)]) (by omega) (RC_of (J := I) (J2 := (u2 I (1000) 32 (0))) ((show (u2 I (1000) 32 (0)) 1035 = I 1035 from by funext zz; simp [u2_v])) ((show (u2 I (1000) 32 (0)) 1036 = I 1036 from by funext zz; simp [u2_v])) (by omega) (by omega)) (RK_nil (by omega)) (Int32.toInt_inj.mp (by omega))) (Nat.lt_succ_self _) hM hS (lv_sub hl [0, 1, 2] rfl)
