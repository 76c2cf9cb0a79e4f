theorem dJ7_fill_53178_0 : decode cJ7_fill_53178 0 = .ok (.iconst 0, 1) := by decide +kernel
theorem dJ7_fill_53178_1 : decode cJ7_fill_53178 1 = .ok (.istore_n 2, 1) := by decide +kernel
theorem dJ7_fill_53178_2 : decode cJ7_fill_53178 2 = .ok (.aload_n 0, 1) := by decide +kernel
theorem dJ7_fill_53178_3 : decode cJ7_fill_53178 3 = .ok (.arraylength, 1) := by decide +kernel
theorem dJ7_fill_53178_4 : decode cJ7_fill_53178 4 = .ok (.istore_n 3, 1) := by decide +kernel
theorem dJ7_fill_53178_5 : decode cJ7_fill_53178 5 = .ok (.iload_n 2, 1) := by decide +kernel
theorem dJ7_fill_53178_6 : decode cJ7_fill_53178 6 = .ok (.iload_n 3, 1) := by decide +kernel
theorem dJ7_fill_53178_7 : decode cJ7_fill_53178 7 = .ok (.if_icmp .ge 13, 3) := by decide +kernel
theorem dJ7_fill_53178_10 : decode cJ7_fill_53178 10 = .ok (.aload_n 0, 1) := by decide +kernel
theorem dJ7_fill_53178_11 : decode cJ7_fill_53178 11 = .ok (.iload_n 2, 1) := by decide +kernel
theorem dJ7_fill_53178_12 : decode cJ7_fill_53178 12 = .ok (.iload_n 1, 1) := by decide +kernel
theorem dJ7_fill_53178_13 : decode cJ7_fill_53178 13 = .ok (.iastore, 1) := by decide +kernel
theorem dJ7_fill_53178_14 : decode cJ7_fill_53178 14 = .ok (.iinc 2 1, 3) := by decide +kernel
theorem dJ7_fill_53178_17 : decode cJ7_fill_53178 17 = .ok (.goto (-12), 3) := by decide +kernel
theorem dJ7_fill_53178_20 : decode cJ7_fill_53178 20 = .ok (.return_, 1) := by decide +kernel
theorem ce_J7_fill_53178 : CeS yJ7_fill_53178 cJ7_fill_53178 4 none 2 := ⟨tb_459, tb_12, tb_460, by decide, by decide, by decide +kernel⟩
set_option maxHeartbeats 4000000 in
set_option maxRecDepth 20000 in
theorem C_J7_fill_53178 (l : Launch) (D : va_G) (A : Nat → Prop) (ad : Nat → Nat) (ns : List Nat) (I : MI) (L : ML) (G : MG) (x : Nat) (N : Nat) (v : Int32) (hn : x ∈ ns) (hk : kd x = (20, N)) (hN : N < 100000) : Met l yJ7_fill_53178 (wd yJ7_fill_53178 cJ7_fill_53178 4 none) ({ frames := 0, cells := 0, slots := 0, locals := 0 }) (va_Pc [.ref (ad x), .int v] (PM D A ad ns I L G)) (va_Qv (fun u => u = (ad, ns, fillI I x N v, L, G)) (BM D A) A) 0 0 A := by
  refine m_ofW (by decide) (Nat.le_of_ble_eq_true rfl) ?_
  intro p e s m below meth c ls args hC hE hM hA hS hl
  obtain ⟨hx, hb, hml, hown, hts, hr, hlocks, hin⟩ := hC
  have k0 : (0 : Int32).toInt = 0 := by decide
  have kN : (Int32.ofNat N).toInt = N := nI_toInt (by omega)
  have hl : lv_has ls 4 [(0, .ref (ad (x))), (1, .int (v))] := hl
  refine lv_iconst (v := (0)) hx hb dJ7_fill_53178_0 (by decide) ?_
  refine lv_istore_n (lv' := [(2, .int (0)), (0, .ref (ad (x))), (1, .int (v))]) hx hb dJ7_fill_53178_1 rfl hl (by decide) rfl (fun ls hl => ?_)
  refine lv_aload_n hx hb dJ7_fill_53178_2 rfl (lv_at hl 1 rfl) ?_
  refine m_alen x (t0 := 0) (v := Int32.ofNat N) hx hb hE hM hn hk (by decide) rfl rfl dJ7_fill_53178_3 ?_
  refine lv_istore_n (lv' := [(3, .int (Int32.ofNat N)), (2, .int (0)), (0, .ref (ad (x))), (1, .int (v))]) hx hb dJ7_fill_53178_4 rfl hl (by decide) rfl (fun ls hl => ?_)
  have loop5 : ∀ (n : Nat) (i : Int32) (Ia : MI) (H : Heap) (locs : List Loc) (ls : Array Slot), (0 ≤ i.toInt ∧ i.toInt ≤ N) → (Ia = fillI I x i.toNatClampNeg v) → (N - i.toInt).toNat < n → Mem D A ad ns Ia L G H → va_S A s.heap H locs → lv_has ls 4 [(0, .ref (ad (x))), (1, .int (v)), (2, .int (i)), (3, .int (Int32.ofNat N))] → W p l e ({ frames := 0, cells := 0, slots := 0, locals := 0 } : Room) s m args below meth c H locs 0 0 (MQ below (va_Qv (fun u => u = (ad, ns, fillI I x N v, L, G)) (BM D A) A) args s 0 0 A) (F0 m 5 ls []) := by
    intro n
    induction n with
    | zero =>
      intro i Ia H locs ls h1 h2 hmu
      exact absurd hmu (Nat.not_lt_zero _)
    | succ n ih5 =>
      intro i Ia H locs ls h1 h2 hmu5 hM hS hl
      refine lv_iload_n hx hb dJ7_fill_53178_5 rfl (lv_at hl 2 rfl) ?_
      refine lv_iload_n hx hb dJ7_fill_53178_6 rfl (lv_at hl 3 rfl) ?_
      refine lv_icmp_ge (tgt := 20) hx hb dJ7_fill_53178_7 (by decide) (fun c1 => ?_) (fun c1 => ?_)
      · have hc1 := c1
        have q1 := q_le hc1
        exact m_vret hx hb hr hlocks hM hS (Nat.le_of_ble_eq_true rfl) (Nat.le_of_ble_eq_true rfl) (by rw [h2, tn_n (i := i) (n := N) (by omega)]) dJ7_fill_53178_20
      · have hc1 := c1
        have q1 := q_nle hc1
        refine lv_aload_n hx hb dJ7_fill_53178_10 rfl (lv_at hl 0 rfl) ?_
        refine lv_iload_n hx hb dJ7_fill_53178_11 rfl (lv_at hl 2 rfl) ?_
        refine lv_iload_n hx hb dJ7_fill_53178_12 rfl (lv_at hl 1 rfl) ?_
        refine m_iast (x) hx hb hE hM hS hn hk (vp_in_iff.mpr (by omega)) dJ7_fill_53178_13 (fun H locs I2 eI2 hM hS => ?_)
        subst eI2
        obtain ⟨v3, ev3⟩ : ∃ z : Int32, z = i + Int32.ofInt (1) := ⟨_, rfl⟩
        have tv3 := a_inc ev3 (by decide) (by omega) (by omega)
        refine lv_iinc (v := v3) (lv' := [(2, .int (v3)), (0, .ref (ad (x))), (1, .int (v)), (3, .int (Int32.ofNat N))]) hx hb dJ7_fill_53178_14 hl (k := 2) rfl ev3.symm (by decide) rfl (fun ls hl => ?_)
        refine lv_goto (tgt := 5) hx hb dJ7_fill_53178_17 (by decide) ?_
        exact ih5 (v3) (u2 Ia (x) ((i).toNatClampNeg) (v)) H locs ls (by omega) (by rw [h2, fillI_s, tn_s h1.1 tv3]) (by omega) hM hS (lv_sub hl [1, 2, 0, 3] rfl)
  exact loop5 (_ + 1) (0) I _ _ ls ⟨by decide, by omega⟩ ((fillI_0 I x v).symm) (Nat.lt_succ_self _) hM hS (lv_sub hl [2, 3, 1, 0] rfl)
def beginI (I : MI) (b : Nat) (c r x y a : Int32) : MI := fillI (fillI (fillI (fillI (fillI (fillI (u2 (u2 (u2 (u2 (u2 (u2 (u2 (u2 (u2 (u2 I b 0 c) b 1 r) b 2 x) b 3 y) b 4 a) b 5 0) b 6 0) b 7 0) b 8 0) b 9 0) (b + 1) 576 0) (b + 2) 576 (-1)) (b + 3) 576 (-1)) (b + 4) 576 (-1)) (b + 5) 288 (-1)) (b + 6) 288 0
theorem dX8_begin_0 : decode cX8_begin 0 = .ok (.aload_n 0, 1) := by decide +kernel
theorem dX8_begin_1 : decode cX8_begin 1 = .ok (.iload_n 1, 1) := by decide +kernel
theorem dX8_begin_2 : decode cX8_begin 2 = .ok (.putfield 36, 3) := by decide +kernel
theorem dX8_begin_5 : decode cX8_begin 5 = .ok (.aload_n 0, 1) := by decide +kernel
theorem dX8_begin_6 : decode cX8_begin 6 = .ok (.iload_n 2, 1) := by decide +kernel
theorem dX8_begin_7 : decode cX8_begin 7 = .ok (.putfield 40, 3) := by decide +kernel
theorem dX8_begin_10 : decode cX8_begin 10 = .ok (.aload_n 0, 1) := by decide +kernel
theorem dX8_begin_11 : decode cX8_begin 11 = .ok (.iload_n 3, 1) := by decide +kernel
theorem dX8_begin_12 : decode cX8_begin 12 = .ok (.putfield 43, 3) := by decide +kernel
theorem dX8_begin_15 : decode cX8_begin 15 = .ok (.aload_n 0, 1) := by decide +kernel
theorem dX8_begin_16 : decode cX8_begin 16 = .ok (.iload 4, 2) := by decide +kernel
theorem dX8_begin_18 : decode cX8_begin 18 = .ok (.putfield 46, 3) := by decide +kernel
theorem dX8_begin_21 : decode cX8_begin 21 = .ok (.aload_n 0, 1) := by decide +kernel
theorem dX8_begin_22 : decode cX8_begin 22 = .ok (.iload 5, 2) := by decide +kernel
theorem dX8_begin_24 : decode cX8_begin 24 = .ok (.putfield 49, 3) := by decide +kernel
theorem dX8_begin_27 : decode cX8_begin 27 = .ok (.aload_n 0, 1) := by decide +kernel
theorem dX8_begin_28 : decode cX8_begin 28 = .ok (.iconst 0, 1) := by decide +kernel
theorem dX8_begin_29 : decode cX8_begin 29 = .ok (.putfield 52, 3) := by decide +kernel
theorem dX8_begin_32 : decode cX8_begin 32 = .ok (.aload_n 0, 1) := by decide +kernel
theorem dX8_begin_33 : decode cX8_begin 33 = .ok (.iconst 0, 1) := by decide +kernel
theorem dX8_begin_34 : decode cX8_begin 34 = .ok (.putfield 55, 3) := by decide +kernel
theorem dX8_begin_37 : decode cX8_begin 37 = .ok (.aload_n 0, 1) := by decide +kernel
theorem dX8_begin_38 : decode cX8_begin 38 = .ok (.iconst 0, 1) := by decide +kernel
theorem dX8_begin_39 : decode cX8_begin 39 = .ok (.putfield 58, 3) := by decide +kernel
theorem dX8_begin_42 : decode cX8_begin 42 = .ok (.aload_n 0, 1) := by decide +kernel
theorem dX8_begin_43 : decode cX8_begin 43 = .ok (.iconst 0, 1) := by decide +kernel
theorem dX8_begin_44 : decode cX8_begin 44 = .ok (.putfield 61, 3) := by decide +kernel
theorem dX8_begin_47 : decode cX8_begin 47 = .ok (.aload_n 0, 1) := by decide +kernel
theorem dX8_begin_48 : decode cX8_begin 48 = .ok (.iconst 0, 1) := by decide +kernel
theorem dX8_begin_49 : decode cX8_begin 49 = .ok (.putfield 64, 3) := by decide +kernel
theorem dX8_begin_52 : decode cX8_begin 52 = .ok (.aload_n 0, 1) := by decide +kernel
theorem dX8_begin_53 : decode cX8_begin 53 = .ok (.getfield 9, 3) := by decide +kernel
theorem dX8_begin_56 : decode cX8_begin 56 = .ok (.iconst 0, 1) := by decide +kernel
theorem dX8_begin_57 : decode cX8_begin 57 = .ok (.invokestatic 67, 3) := by decide +kernel
theorem dX8_begin_60 : decode cX8_begin 60 = .ok (.aload_n 0, 1) := by decide +kernel
theorem dX8_begin_61 : decode cX8_begin 61 = .ok (.getfield 15, 3) := by decide +kernel
theorem dX8_begin_64 : decode cX8_begin 64 = .ok (.iconst (-1), 1) := by decide +kernel
theorem dX8_begin_65 : decode cX8_begin 65 = .ok (.invokestatic 67, 3) := by decide +kernel
theorem dX8_begin_68 : decode cX8_begin 68 = .ok (.aload_n 0, 1) := by decide +kernel
theorem dX8_begin_69 : decode cX8_begin 69 = .ok (.getfield 18, 3) := by decide +kernel
theorem dX8_begin_72 : decode cX8_begin 72 = .ok (.iconst (-1), 1) := by decide +kernel
theorem dX8_begin_73 : decode cX8_begin 73 = .ok (.invokestatic 67, 3) := by decide +kernel
theorem dX8_begin_76 : decode cX8_begin 76 = .ok (.aload_n 0, 1) := by decide +kernel
theorem dX8_begin_77 : decode cX8_begin 77 = .ok (.getfield 21, 3) := by decide +kernel
theorem dX8_begin_80 : decode cX8_begin 80 = .ok (.iconst (-1), 1) := by decide +kernel
theorem dX8_begin_81 : decode cX8_begin 81 = .ok (.invokestatic 67, 3) := by decide +kernel
theorem dX8_begin_84 : decode cX8_begin 84 = .ok (.aload_n 0, 1) := by decide +kernel
theorem dX8_begin_85 : decode cX8_begin 85 = .ok (.getfield 24, 3) := by decide +kernel
theorem dX8_begin_88 : decode cX8_begin 88 = .ok (.iconst (-1), 1) := by decide +kernel
theorem dX8_begin_89 : decode cX8_begin 89 = .ok (.invokestatic 67, 3) := by decide +kernel
theorem dX8_begin_92 : decode cX8_begin 92 = .ok (.aload_n 0, 1) := by decide +kernel
theorem dX8_begin_93 : decode cX8_begin 93 = .ok (.getfield 27, 3) := by decide +kernel
theorem dX8_begin_96 : decode cX8_begin 96 = .ok (.iconst 0, 1) := by decide +kernel
theorem dX8_begin_97 : decode cX8_begin 97 = .ok (.invokestatic 67, 3) := by decide +kernel
theorem dX8_begin_100 : decode cX8_begin 100 = .ok (.return_, 1) := by decide +kernel
theorem ce_X8_begin : CeV RX8 yX8_begin cX8_begin 6 none 5 := ⟨tb_455, tb_456, tb_2, tb_457, rfl, by decide, by decide, by decide +kernel⟩
set_option maxHeartbeats 4000000 in
set_option maxRecDepth 20000 in
theorem C_X8_begin (l : Launch) (D : va_G) (A : Nat → Prop) (ad : Nat → Nat) (ns : List Nat) (I : MI) (L : ML) (G : MG) (b : Nat) (w : Int32) (h : Int32) (x : Int32) (y : Int32) (a : Int32) (hT : TOK ns G b) : Met l yX8_begin (wd yX8_begin cX8_begin 6 none) ({ frames := 1, cells := 0, slots := 0, locals := 23 }) (va_Pc [.ref (ad b), .int w, .int h, .int x, .int y, .int a] (PM D A ad ns I L G)) (va_Qv (fun u => u = (ad, ns, beginI I b w h x y a, L, G)) (BM D A) A) 0 0 A := by
  refine m_ofW (by decide) (Nat.le_of_ble_eq_true rfl) ?_
  intro p e s m below meth c ls args hC hE hM hA hS hl
  obtain ⟨hx, hb, hml, hown, hts, hr, hlocks, hin⟩ := hC
  have km1 : (-1 : Int32).toInt = -1 := by decide
  have k0 : (0 : Int32).toInt = 0 := by decide
  have hl : lv_has ls 6 [(0, .ref (ad (b))), (1, .int (w)), (2, .int (h)), (3, .int (x)), (4, .int (y)), (5, .int (a))] := hl
  refine lv_aload_n hx hb dX8_begin_0 rfl (lv_at hl 0 rfl) ?_
  refine lv_iload_n hx hb dX8_begin_1 rfl (lv_at hl 1 rfl) ?_
  refine m_puti (b) 0 hx hb hts hown hE oc8 hM hS hT.l (kT _ hT.1).1 (by decide) rfl rfl rfl rfl tb_34 dX8_begin_2 (fun H locs I1 eI1 hM hS => ?_)
  subst eI1
  refine lv_aload_n hx hb dX8_begin_5 rfl (lv_at hl 0 rfl) ?_
  refine lv_iload_n hx hb dX8_begin_6 rfl (lv_at hl 2 rfl) ?_
  refine m_puti (b) 1 hx hb hts hown hE oc8 hM hS hT.l (kT _ hT.1).1 (by decide) rfl rfl rfl rfl tb_37 dX8_begin_7 (fun H locs I2 eI2 hM hS => ?_)
  subst eI2
  refine lv_aload_n hx hb dX8_begin_10 rfl (lv_at hl 0 rfl) ?_
  refine lv_iload_n hx hb dX8_begin_11 rfl (lv_at hl 3 rfl) ?_
  refine m_puti (b) 2 hx hb hts hown hE oc8 hM hS hT.l (kT _ hT.1).1 (by decide) rfl rfl rfl rfl tb_41 dX8_begin_12 (fun H locs I3 eI3 hM hS => ?_)
  subst eI3
  refine lv_aload_n hx hb dX8_begin_15 rfl (lv_at hl 0 rfl) ?_
  refine lv_iload hx hb dX8_begin_16 (lv_at hl 4 rfl) ?_
  refine m_puti (b) 3 hx hb hts hown hE oc8 hM hS hT.l (kT _ hT.1).1 (by decide) rfl rfl rfl rfl tb_45 dX8_begin_18 (fun H locs I4 eI4 hM hS => ?_)
  subst eI4
  refine lv_aload_n hx hb dX8_begin_21 rfl (lv_at hl 0 rfl) ?_
  refine lv_iload hx hb dX8_begin_22 (lv_at hl 5 rfl) ?_
  refine m_puti (b) 4 hx hb hts hown hE oc8 hM hS hT.l (kT _ hT.1).1 (by decide) rfl rfl rfl rfl tb_48 dX8_begin_24 (fun H locs I5 eI5 hM hS => ?_)
  subst eI5
  refine lv_aload_n hx hb dX8_begin_27 rfl (lv_at hl 0 rfl) ?_
  refine lv_iconst (v := (0)) hx hb dX8_begin_28 (by decide) ?_
  refine m_puti (b) 5 hx hb hts hown hE oc8 hM hS hT.l (kT _ hT.1).1 (by decide) rfl rfl rfl rfl tb_51 dX8_begin_29 (fun H locs I6 eI6 hM hS => ?_)
  subst eI6
  refine lv_aload_n hx hb dX8_begin_32 rfl (lv_at hl 0 rfl) ?_
  refine lv_iconst (v := (0)) hx hb dX8_begin_33 (by decide) ?_
  refine m_puti (b) 6 hx hb hts hown hE oc8 hM hS hT.l (kT _ hT.1).1 (by decide) rfl rfl rfl rfl tb_54 dX8_begin_34 (fun H locs I7 eI7 hM hS => ?_)
  subst eI7
  refine lv_aload_n hx hb dX8_begin_37 rfl (lv_at hl 0 rfl) ?_
  refine lv_iconst (v := (0)) hx hb dX8_begin_38 (by decide) ?_
  refine m_puti (b) 7 hx hb hts hown hE oc8 hM hS hT.l (kT _ hT.1).1 (by decide) rfl rfl rfl rfl tb_57 dX8_begin_39 (fun H locs I8 eI8 hM hS => ?_)
  subst eI8
  refine lv_aload_n hx hb dX8_begin_42 rfl (lv_at hl 0 rfl) ?_
  refine lv_iconst (v := (0)) hx hb dX8_begin_43 (by decide) ?_
  refine m_puti (b) 8 hx hb hts hown hE oc8 hM hS hT.l (kT _ hT.1).1 (by decide) rfl rfl rfl rfl tb_59 dX8_begin_44 (fun H locs I9 eI9 hM hS => ?_)
  subst eI9
  refine lv_aload_n hx hb dX8_begin_47 rfl (lv_at hl 0 rfl) ?_
  refine lv_iconst (v := (0)) hx hb dX8_begin_48 (by decide) ?_
  refine m_puti (b) 9 hx hb hts hown hE oc8 hM hS hT.l (kT _ hT.1).1 (by decide) rfl rfl rfl rfl tb_63 dX8_begin_49 (fun H locs I10 eI10 hM hS => ?_)
  subst eI10
  refine lv_aload_n hx hb dX8_begin_52 rfl (lv_at hl 0 rfl) ?_
  refine m_getr (b) 10 (b + 1) hx hb hts hown hE oc8 hM hT.l (kT _ hT.1).1 (by decide) rfl (hT.2.2 0 (by decide)) (by omega) tb_66 dX8_begin_53 ?_
  refine lv_iconst (v := (0)) hx hb dX8_begin_56 (by decide) ?_
  refine m_callv (m_runS (As := [.ref (ad (b + 1)), .int (0)]) (rest := []) hx hb hml hown hts hE hM hS hA ce_J7_fill_53178 tb_458 (C_J7_fill_53178 l D A ad ns (u2 (u2 (u2 (u2 (u2 (u2 (u2 (u2 (u2 (u2 I (b) 0 (w)) (b) 1 (h)) (b) 2 (x)) (b) 3 (y)) (b) 4 (a)) (b) 5 (0)) (b) 6 (0)) (b) 7 (0)) (b) 8 (0)) (b) 9 (0)) L G (b + 1) 576 (0) (hT.2.1 1 (by decide)) (kT _ hT.1).2.1 (by decide)) rfl rfl ⟨Nat.le_of_ble_eq_true rfl, Nat.le_of_ble_eq_true rfl⟩  rfl hl.1 rfl (Nat.le_of_ble_eq_true rfl) dX8_begin_57 ⟨Nat.le_of_ble_eq_true rfl, Nat.le_of_ble_eq_true rfl⟩) hS (fun u H locs hw hM hS => ?_)
  subst hw
  have hM : Mem D A ad ns (fillI (u2 (u2 (u2 (u2 (u2 (u2 (u2 (u2 (u2 (u2 I (b) 0 (w)) (b) 1 (h)) (b) 2 (x)) (b) 3 (y)) (b) 4 (a)) (b) 5 (0)) (b) 6 (0)) (b) 7 (0)) (b) 8 (0)) (b) 9 (0)) (b + 1) 576 (0)) L G H := hM
  refine lv_aload_n hx hb dX8_begin_60 rfl (lv_at hl 0 rfl) ?_
  refine m_getr (b) 11 (b + 2) hx hb hts hown hE oc8 hM hT.l (kT _ hT.1).1 (by decide) rfl (hT.2.2 1 (by decide)) (by omega) tb_68 dX8_begin_61 ?_
  refine lv_iconst (v := (-1)) hx hb dX8_begin_64 (by decide) ?_
  refine m_callv (m_runS (As := [.ref (ad (b + 2)), .int ((-1 : Int32))]) (rest := []) hx hb hml hown hts hE hM hS hA ce_J7_fill_53178 tb_458 (C_J7_fill_53178 l D A ad ns (fillI (u2 (u2 (u2 (u2 (u2 (u2 (u2 (u2 (u2 (u2 I (b) 0 (w)) (b) 1 (h)) (b) 2 (x)) (b) 3 (y)) (b) 4 (a)) (b) 5 (0)) (b) 6 (0)) (b) 7 (0)) (b) 8 (0)) (b) 9 (0)) (b + 1) 576 (0)) L G (b + 2) 576 ((-1 : Int32)) (hT.2.1 2 (by decide)) (kT _ hT.1).2.2.1 (by decide)) rfl rfl ⟨Nat.le_of_ble_eq_true rfl, Nat.le_of_ble_eq_true rfl⟩  rfl hl.1 rfl (Nat.le_of_ble_eq_true rfl) dX8_begin_65 ⟨Nat.le_of_ble_eq_true rfl, Nat.le_of_ble_eq_true rfl⟩) hS (fun u H locs hw hM hS => ?_)
  subst hw
  have hM : Mem D A ad ns (fillI (fillI (u2 (u2 (u2 (u2 (u2 (u2 (u2 (u2 (u2 (u2 I (b) 0 (w)) (b) 1 (h)) (b) 2 (x)) (b) 3 (y)) (b) 4 (a)) (b) 5 (0)) (b) 6 (0)) (b) 7 (0)) (b) 8 (0)) (b) 9 (0)) (b + 1) 576 (0)) (b + 2) 576 ((-1 : Int32))) L G H := hM
  refine lv_aload_n hx hb dX8_begin_68 rfl (lv_at hl 0 rfl) ?_
  refine m_getr (b) 12 (b + 3) hx hb hts hown hE oc8 hM hT.l (kT _ hT.1).1 (by decide) rfl (hT.2.2 2 (by decide)) (by omega) tb_71 dX8_begin_69 ?_
  refine lv_iconst (v := (-1)) hx hb dX8_begin_72 (by decide) ?_
  refine m_callv (m_runS (As := [.ref (ad (b + 3)), .int ((-1 : Int32))]) (rest := []) hx hb hml hown hts hE hM hS hA ce_J7_fill_53178 tb_458 (C_J7_fill_53178 l D A ad ns (fillI (fillI (u2 (u2 (u2 (u2 (u2 (u2 (u2 (u2 (u2 (u2 I (b) 0 (w)) (b) 1 (h)) (b) 2 (x)) (b) 3 (y)) (b) 4 (a)) (b) 5 (0)) (b) 6 (0)) (b) 7 (0)) (b) 8 (0)) (b) 9 (0)) (b + 1) 576 (0)) (b + 2) 576 ((-1 : Int32))) L G (b + 3) 576 ((-1 : Int32)) (hT.2.1 3 (by decide)) (kT _ hT.1).2.2.2.1 (by decide)) rfl rfl ⟨Nat.le_of_ble_eq_true rfl, Nat.le_of_ble_eq_true rfl⟩  rfl hl.1 rfl (Nat.le_of_ble_eq_true rfl) dX8_begin_73 ⟨Nat.le_of_ble_eq_true rfl, Nat.le_of_ble_eq_true rfl⟩) hS (fun u H locs hw hM hS => ?_)
  subst hw
  have hM : Mem D A ad ns (fillI (fillI (fillI (u2 (u2 (u2 (u2 (u2 (u2 (u2 (u2 (u2 (u2 I (b) 0 (w)) (b) 1 (h)) (b) 2 (x)) (b) 3 (y)) (b) 4 (a)) (b) 5 (0)) (b) 6 (0)) (b) 7 (0)) (b) 8 (0)) (b) 9 (0)) (b + 1) 576 (0)) (b + 2) 576 ((-1 : Int32))) (b + 3) 576 ((-1 : Int32))) L G H := hM
  refine lv_aload_n hx hb dX8_begin_76 rfl (lv_at hl 0 rfl) ?_
  refine m_getr (b) 13 (b + 4) hx hb hts hown hE oc8 hM hT.l (kT _ hT.1).1 (by decide) rfl (hT.2.2 3 (by decide)) (by omega) tb_75 dX8_begin_77 ?_
  refine lv_iconst (v := (-1)) hx hb dX8_begin_80 (by decide) ?_
  refine m_callv (m_runS (As := [.ref (ad (b + 4)), .int ((-1 : Int32))]) (rest := []) hx hb hml hown hts hE hM hS hA ce_J7_fill_53178 tb_458 (C_J7_fill_53178 l D A ad ns (fillI (fillI (fillI (u2 (u2 (u2 (u2 (u2 (u2 (u2 (u2 (u2 (u2 I (b) 0 (w)) (b) 1 (h)) (b) 2 (x)) (b) 3 (y)) (b) 4 (a)) (b) 5 (0)) (b) 6 (0)) (b) 7 (0)) (b) 8 (0)) (b) 9 (0)) (b + 1) 576 (0)) (b + 2) 576 ((-1 : Int32))) (b + 3) 576 ((-1 : Int32))) L G (b + 4) 576 ((-1 : Int32)) (hT.2.1 4 (by decide)) (kT _ hT.1).2.2.2.2.1 (by decide)) rfl rfl ⟨Nat.le_of_ble_eq_true rfl, Nat.le_of_ble_eq_true rfl⟩  rfl hl.1 rfl (Nat.le_of_ble_eq_true rfl) dX8_begin_81 ⟨Nat.le_of_ble_eq_true rfl, Nat.le_of_ble_eq_true rfl⟩) hS (fun u H locs hw hM hS => ?_)
  subst hw
  have hM : Mem D A ad ns (fillI (fillI (fillI (fillI (u2 (u2 (u2 (u2 (u2 (u2 (u2 (u2 (u2 (u2 I (b) 0 (w)) (b) 1 (h)) (b) 2 (x)) (b) 3 (y)) (b) 4 (a)) (b) 5 (0)) (b) 6 (0)) (b) 7 (0)) (b) 8 (0)) (b) 9 (0)) (b + 1) 576 (0)) (b + 2) 576 ((-1 : Int32))) (b + 3) 576 ((-1 : Int32))) (b + 4) 576 ((-1 : Int32))) L G H := hM
  refine lv_aload_n hx hb dX8_begin_84 rfl (lv_at hl 0 rfl) ?_
  refine m_getr (b) 14 (b + 5) hx hb hts hown hE oc8 hM hT.l (kT _ hT.1).1 (by decide) rfl (hT.2.2 4 (by decide)) (by omega) tb_78 dX8_begin_85 ?_
  refine lv_iconst (v := (-1)) hx hb dX8_begin_88 (by decide) ?_
  refine m_callv (m_runS (As := [.ref (ad (b + 5)), .int ((-1 : Int32))]) (rest := []) hx hb hml hown hts hE hM hS hA ce_J7_fill_53178 tb_458 (C_J7_fill_53178 l D A ad ns (fillI (fillI (fillI (fillI (u2 (u2 (u2 (u2 (u2 (u2 (u2 (u2 (u2 (u2 I (b) 0 (w)) (b) 1 (h)) (b) 2 (x)) (b) 3 (y)) (b) 4 (a)) (b) 5 (0)) (b) 6 (0)) (b) 7 (0)) (b) 8 (0)) (b) 9 (0)) (b + 1) 576 (0)) (b + 2) 576 ((-1 : Int32))) (b + 3) 576 ((-1 : Int32))) (b + 4) 576 ((-1 : Int32))) L G (b + 5) 288 ((-1 : Int32)) (hT.2.1 5 (by decide)) (kT _ hT.1).2.2.2.2.2.1 (by decide)) rfl rfl ⟨Nat.le_of_ble_eq_true rfl, Nat.le_of_ble_eq_true rfl⟩  rfl hl.1 rfl (Nat.le_of_ble_eq_true rfl) dX8_begin_89 ⟨Nat.le_of_ble_eq_true rfl, Nat.le_of_ble_eq_true rfl⟩) hS (fun u H locs hw hM hS => ?_)
  subst hw
  have hM : Mem D A ad ns (fillI (fillI (fillI (fillI (fillI (u2 (u2 (u2 (u2 (u2 (u2 (u2 (u2 (u2 (u2 I (b) 0 (w)) (b) 1 (h)) (b) 2 (x)) (b) 3 (y)) (b) 4 (a)) (b) 5 (0)) (b) 6 (0)) (b) 7 (0)) (b) 8 (0)) (b) 9 (0)) (b + 1) 576 (0)) (b + 2) 576 ((-1 : Int32))) (b + 3) 576 ((-1 : Int32))) (b + 4) 576 ((-1 : Int32))) (b + 5) 288 ((-1 : Int32))) L G H := hM
  refine lv_aload_n hx hb dX8_begin_92 rfl (lv_at hl 0 rfl) ?_
  refine m_getr (b) 15 (b + 6) hx hb hts hown hE oc8 hM hT.l (kT _ hT.1).1 (by decide) rfl (hT.2.2 5 (by decide)) (by omega) tb_80 dX8_begin_93 ?_
  refine lv_iconst (v := (0)) hx hb dX8_begin_96 (by decide) ?_
  refine m_callv (m_runS (As := [.ref (ad (b + 6)), .int (0)]) (rest := []) hx hb hml hown hts hE hM hS hA ce_J7_fill_53178 tb_458 (C_J7_fill_53178 l D A ad ns (fillI (fillI (fillI (fillI (fillI (u2 (u2 (u2 (u2 (u2 (u2 (u2 (u2 (u2 (u2 I (b) 0 (w)) (b) 1 (h)) (b) 2 (x)) (b) 3 (y)) (b) 4 (a)) (b) 5 (0)) (b) 6 (0)) (b) 7 (0)) (b) 8 (0)) (b) 9 (0)) (b + 1) 576 (0)) (b + 2) 576 ((-1 : Int32))) (b + 3) 576 ((-1 : Int32))) (b + 4) 576 ((-1 : Int32))) (b + 5) 288 ((-1 : Int32))) L G (b + 6) 288 (0) (hT.2.1 6 (by decide)) (kT _ hT.1).2.2.2.2.2.2.1 (by decide)) rfl rfl ⟨Nat.le_of_ble_eq_true rfl, Nat.le_of_ble_eq_true rfl⟩  rfl hl.1 rfl (Nat.le_of_ble_eq_true rfl) dX8_begin_97 ⟨Nat.le_of_ble_eq_true rfl, Nat.le_of_ble_eq_true rfl⟩) hS (fun u H locs hw hM hS => ?_)
  subst hw
  have hM : Mem D A ad ns (fillI (fillI (fillI (fillI (fillI (fillI (u2 (u2 (u2 (u2 (u2 (u2 (u2 (u2 (u2 (u2 I (b) 0 (w)) (b) 1 (h)) (b) 2 (x)) (b) 3 (y)) (b) 4 (a)) (b) 5 (0)) (b) 6 (0)) (b) 7 (0)) (b) 8 (0)) (b) 9 (0)) (b + 1) 576 (0)) (b + 2) 576 ((-1 : Int32))) (b + 3) 576 ((-1 : Int32))) (b + 4) 576 ((-1 : Int32))) (b + 5) 288 ((-1 : Int32))) (b + 6) 288 (0)) L G H := hM
  exact m_vret hx hb hr hlocks hM hS (Nat.le_of_ble_eq_true rfl) (Nat.le_of_ble_eq_true rfl) rfl dX8_begin_100
theorem dX9_town_0 : decode cX9_town 0 = .ok (.iload_n 1, 1) := by decide +kernel
theorem dX9_town_1 : decode cX9_town 1 = .ok (.iconst 4, 1) := by decide +kernel
theorem dX9_town_2 : decode cX9_town 2 = .ok (.bipush 24, 2) := by decide +kernel
theorem dX9_town_4 : decode cX9_town 4 = .ok (.invokestatic 95, 3) := by decide +kernel
theorem dX9_town_7 : decode cX9_town 7 = .ok (.ifCond .eq 13, 3) := by decide +kernel
theorem dX9_town_10 : decode cX9_town 10 = .ok (.iload_n 2, 1) := by decide +kernel
theorem dX9_town_11 : decode cX9_town 11 = .ok (.iconst 4, 1) := by decide +kernel
theorem dX9_town_12 : decode cX9_town 12 = .ok (.bipush 24, 2) := by decide +kernel
theorem dX9_town_14 : decode cX9_town 14 = .ok (.invokestatic 95, 3) := by decide +kernel
theorem dX9_town_17 : decode cX9_town 17 = .ok (.ifCond .ne 5, 3) := by decide +kernel
theorem dX9_town_20 : decode cX9_town 20 = .ok (.iconst 0, 1) := by decide +kernel
theorem dX9_town_21 : decode cX9_town 21 = .ok (.ireturn, 1) := by decide +kernel
theorem dX9_town_22 : decode cX9_town 22 = .ok (.iload_n 3, 1) := by decide +kernel
theorem dX9_town_23 : decode cX9_town 23 = .ok (.iconst 0, 1) := by decide +kernel
theorem dX9_town_24 : decode cX9_town 24 = .ok (.iload_n 1, 1) := by decide +kernel
theorem dX9_town_25 : decode cX9_town 25 = .ok (.iconst 1, 1) := by decide +kernel
theorem dX9_town_26 : decode cX9_town 26 = .ok (.isub, 1) := by decide +kernel
theorem dX9_town_27 : decode cX9_town 27 = .ok (.invokestatic 95, 3) := by decide +kernel
theorem dX9_town_30 : decode cX9_town 30 = .ok (.ifCond .eq 27, 3) := by decide +kernel
theorem dX9_town_33 : decode cX9_town 33 = .ok (.iload 4, 2) := by decide +kernel
theorem dX9_town_35 : decode cX9_town 35 = .ok (.iconst 0, 1) := by decide +kernel
theorem dX9_town_36 : decode cX9_town 36 = .ok (.iload_n 2, 1) := by decide +kernel
theorem dX9_town_37 : decode cX9_town 37 = .ok (.iconst 1, 1) := by decide +kernel
theorem dX9_town_38 : decode cX9_town 38 = .ok (.isub, 1) := by decide +kernel
theorem dX9_town_39 : decode cX9_town 39 = .ok (.invokestatic 95, 3) := by decide +kernel
theorem dX9_town_42 : decode cX9_town 42 = .ok (.ifCond .eq 15, 3) := by decide +kernel
theorem dX9_town_45 : decode cX9_town 45 = .ok (.iload 5, 2) := by decide +kernel
theorem dX9_town_47 : decode cX9_town 47 = .ok (.iconst 0, 1) := by decide +kernel
theorem dX9_town_48 : decode cX9_town 48 = .ok (.sipush 1000, 3) := by decide +kernel
theorem dX9_town_51 : decode cX9_town 51 = .ok (.invokestatic 95, 3) := by decide +kernel
theorem dX9_town_54 : decode cX9_town 54 = .ok (.ifCond .ne 5, 3) := by decide +kernel
theorem dX9_town_57 : decode cX9_town 57 = .ok (.iconst 0, 1) := by decide +kernel
theorem dX9_town_58 : decode cX9_town 58 = .ok (.ireturn, 1) := by decide +kernel
theorem dX9_town_59 : decode cX9_town 59 = .ok (.aload_n 0, 1) := by decide +kernel
theorem dX9_town_60 : decode cX9_town 60 = .ok (.getfield 10, 3) := by decide +kernel
theorem dX9_town_63 : decode cX9_town 63 = .ok (.iload_n 1, 1) := by decide +kernel
theorem dX9_town_64 : decode cX9_town 64 = .ok (.iload_n 2, 1) := by decide +kernel
theorem dX9_town_65 : decode cX9_town 65 = .ok (.iload_n 3, 1) := by decide +kernel
theorem dX9_town_66 : decode cX9_town 66 = .ok (.iload 4, 2) := by decide +kernel
theorem dX9_town_68 : decode cX9_town 68 = .ok (.iload 5, 2) := by decide +kernel
theorem dX9_town_70 : decode cX9_town 70 = .ok (.invokevirtual 99, 3) := by decide +kernel
theorem dX9_town_73 : decode cX9_town 73 = .ok (.iconst 1, 1) := by decide +kernel
theorem dX9_town_74 : decode cX9_town 74 = .ok (.ireturn, 1) := by decide +kernel
theorem ce_X9_town : CeV RX9 yX9_town cX9_town 6 (some .boolean) 5 := ⟨tb_448, tb_449, tb_1, tb_450, rfl, by decide, by decide, by decide +kernel⟩
set_option maxHeartbeats 4000000 in
set_option maxRecDepth 20000 in
theorem C_X9_town (l : Launch) (D : va_G) (A : Nat → Prop) (ad : Nat → Nat) (ns : List Nat) (I : MI) (L : ML) (G : MG) (w : Int32) (h : Int32) (x : Int32) (y : Int32) (a : Int32) (hG : SGC ns G) : Met l yX9_town (wd yX9_town cX9_town 6 (some .boolean)) ({ frames := 2, cells := 0, slots := 0, locals := 48 }) (va_Pc [.ref (ad 0), .int w, .int h, .int x, .int y, .int a] (PM D A ad ns I L G)) (va_Qi (fun z u => (okT w h x y a ∧ z = 1 ∧ u = (ad, ns, beginI I 100 w h x y a, L, G)) ∨ (¬ okT w h x y a ∧ z = 0 ∧ u = (ad, ns, I, L, G))) (BM D A) A) 0 0 A := by
  refine m_ofW (by decide) (Nat.le_of_ble_eq_true rfl) ?_
  intro p e s m below meth c ls args hC hE hM hA hS hl
  obtain ⟨hx, hb, hml, hown, hts, hr, hlocks, hin⟩ := hC
  have k0 : (0 : Int32).toInt = 0 := by decide
  have k1 : (1 : Int32).toInt = 1 := by decide
  have k4 : (4 : Int32).toInt = 4 := by decide
  have k24 : (24 : Int32).toInt = 24 := by decide
  have k1000 : (1000 : Int32).toInt = 1000 := by decide
  have hl : lv_has ls 6 [(0, .ref (ad (0))), (1, .int (w)), (2, .int (h)), (3, .int (x)), (4, .int (y)), (5, .int (a))] := hl
  refine lv_iload_n hx hb dX9_town_0 rfl (lv_at hl 1 rfl) ?_
  refine lv_iconst (v := (4)) hx hb dX9_town_1 (by decide) ?_
  refine lv_bipush (v := (24)) hx hb dX9_town_2 (by decide) ?_
  refine m_calli (m_runS (As := [.int (w), .int (4), .int (24)]) (rest := []) hx hb hml hown hts hE hM hS hA ce_X9_isWithin tb_451 (C_X9_isWithin l D A ad ns I L G (w) (4) (24)) rfl rfl ⟨Nat.le_of_ble_eq_true rfl, Nat.le_of_ble_eq_true rfl⟩  rfl hl.1 rfl (Nat.le_of_ble_eq_true rfl) dX9_town_4 ⟨Nat.le_of_ble_eq_true rfl, Nat.le_of_ble_eq_true rfl⟩) hS (fun r1 u H locs hw hM hS => ?_)
  obtain ⟨rfl, b_r1⟩ := hw
  have hM : Mem D A ad ns I L G H := hM
  refine lv_if_eq (tgt := 20) hx hb dX9_town_7 (by decide) (fun c2 => ?_) (fun c2 => ?_)
  · have hc2 := c2
    have q2 := b_r1.f hc2
    refine lv_iconst (v := (0)) hx hb dX9_town_20 (by decide) ?_
    exact m_zret hx hb hr rfl hlocks hM hS (Nat.le_of_ble_eq_true rfl) (Nat.le_of_ble_eq_true rfl) (Or.inr ⟨by unfold okT; omega, rfl, rfl⟩) dX9_town_21
  · have hc2 := c2
    have q2 := b_r1.t hc2
    refine lv_iload_n hx hb dX9_town_10 rfl (lv_at hl 2 rfl) ?_
    refine lv_iconst (v := (4)) hx hb dX9_town_11 (by decide) ?_
    refine lv_bipush (v := (24)) hx hb dX9_town_12 (by decide) ?_
    refine m_calli (m_runS (As := [.int (h), .int (4), .int (24)]) (rest := []) hx hb hml hown hts hE hM hS hA ce_X9_isWithin tb_451 (C_X9_isWithin l D A ad ns I L G (h) (4) (24)) rfl rfl ⟨Nat.le_of_ble_eq_true rfl, Nat.le_of_ble_eq_true rfl⟩  rfl hl.1 rfl (Nat.le_of_ble_eq_true rfl) dX9_town_14 ⟨Nat.le_of_ble_eq_true rfl, Nat.le_of_ble_eq_true rfl⟩) hS (fun r3 u H locs hw hM hS => ?_)
    obtain ⟨rfl, b_r3⟩ := hw
    have hM : Mem D A ad ns I L G H := hM
    refine lv_if_ne (tgt := 22) hx hb dX9_town_17 (by decide) (fun c4 => ?_) (fun c4 => ?_)
    · have hc4 := c4
      have q4 := b_r3.t hc4
      refine lv_iload_n hx hb dX9_town_22 rfl (lv_at hl 3 rfl) ?_
      refine lv_iconst (v := (0)) hx hb dX9_town_23 (by decide) ?_
      refine lv_iload_n hx hb dX9_town_24 rfl (lv_at hl 1 rfl) ?_
      refine lv_iconst (v := (1)) hx hb dX9_town_25 (by decide) ?_
      refine lv_isub hx hb dX9_town_26 ?_
      refine lv_topi (fun v5 ev5 => ?_)
      have tv5 := a_sub ev5 (by omega) (by omega)
      refine m_calli (m_runS (As := [.int (x), .int (0), .int (v5)]) (rest := []) hx hb hml hown hts hE hM hS hA ce_X9_isWithin tb_451 (C_X9_isWithin l D A ad ns I L G (x) (0) (v5)) rfl rfl ⟨Nat.le_of_ble_eq_true rfl, Nat.le_of_ble_eq_true rfl⟩  rfl hl.1 rfl (Nat.le_of_ble_eq_true rfl) dX9_town_27 ⟨Nat.le_of_ble_eq_true rfl, Nat.le_of_ble_eq_true rfl⟩) hS (fun r6 u H locs hw hM hS => ?_)
      obtain ⟨rfl, b_r6⟩ := hw
      have hM : Mem D A ad ns I L G H := hM
      refine lv_if_eq (tgt := 57) hx hb dX9_town_30 (by decide) (fun c7 => ?_) (fun c7 => ?_)
      · have hc7 := c7
        have q7 := b_r6.f hc7
        refine lv_iconst (v := (0)) hx hb dX9_town_57 (by decide) ?_
        exact m_zret hx hb hr rfl hlocks hM hS (Nat.le_of_ble_eq_true rfl) (Nat.le_of_ble_eq_true rfl) (Or.inr ⟨by unfold okT; omega, rfl, rfl⟩) dX9_town_58
      · have hc7 := c7
        have q7 := b_r6.t hc7
        refine lv_iload hx hb dX9_town_33 (lv_at hl 4 rfl) ?_
        refine lv_iconst (v := (0)) hx hb dX9_town_35 (by decide) ?_
        refine lv_iload_n hx hb dX9_town_36 rfl (lv_at hl 2 rfl) ?_
        refine lv_iconst (v := (1)) hx hb dX9_town_37 (by decide) ?_
        refine lv_isub hx hb dX9_town_38 ?_
        refine lv_topi (fun v8 ev8 => ?_)
        have tv8 := a_sub ev8 (by omega) (by omega)
        refine m_calli (m_runS (As := [.int (y), .int (0), .int (v8)]) (rest := []) hx hb hml hown hts hE hM hS hA ce_X9_isWithin tb_451 (C_X9_isWithin l D A ad ns I L G (y) (0) (v8)) rfl rfl ⟨Nat.le_of_ble_eq_true rfl, Nat.le_of_ble_eq_true rfl⟩  rfl hl.1 rfl (Nat.le_of_ble_eq_true rfl) dX9_town_39 ⟨Nat.le_of_ble_eq_true rfl, Nat.le_of_ble_eq_true rfl⟩) hS (fun r9 u H locs hw hM hS => ?_)
        obtain ⟨rfl, b_r9⟩ := hw
        have hM : Mem D A ad ns I L G H := hM
        refine lv_if_eq (tgt := 57) hx hb dX9_town_42 (by decide) (fun c10 => ?_) (fun c10 => ?_)
        · have hc10 := c10
          have q10 := b_r9.f hc10
          refine lv_iconst (v := (0)) hx hb dX9_town_57 (by decide) ?_
          exact m_zret hx hb hr rfl hlocks hM hS (Nat.le_of_ble_eq_true rfl) (Nat.le_of_ble_eq_true rfl) (Or.inr ⟨by unfold okT; omega, rfl, rfl⟩) dX9_town_58
        · have hc10 := c10
          have q10 := b_r9.t hc10
          refine lv_iload hx hb dX9_town_45 (lv_at hl 5 rfl) ?_
          refine lv_iconst (v := (0)) hx hb dX9_town_47 (by decide) ?_
          refine lv_sipush (v := (1000)) hx hb dX9_town_48 (by decide) ?_
          refine m_calli (m_runS (As := [.int (a), .int (0), .int (1000)]) (rest := []) hx hb hml hown hts hE hM hS hA ce_X9_isWithin tb_451 (C_X9_isWithin l D A ad ns I L G (a) (0) (1000)) rfl rfl ⟨Nat.le_of_ble_eq_true rfl, Nat.le_of_ble_eq_true rfl⟩  rfl hl.1 rfl (Nat.le_of_ble_eq_true rfl) dX9_town_51 ⟨Nat.le_of_ble_eq_true rfl, Nat.le_of_ble_eq_true rfl⟩) hS (fun r11 u H locs hw hM hS => ?_)
          obtain ⟨rfl, b_r11⟩ := hw
          have hM : Mem D A ad ns I L G H := hM
          refine lv_if_ne (tgt := 59) hx hb dX9_town_54 (by decide) (fun c12 => ?_) (fun c12 => ?_)
          · have hc12 := c12
            have q12 := b_r11.t hc12
            refine lv_aload_n hx hb dX9_town_59 rfl (lv_at hl 0 rfl) ?_
            refine m_getr (0) 0 (100) hx hb hts hown hE oc9 hM (hG.1 0 (by decide)) rfl (by decide) rfl (hG.2 (0, 0, 100) (by decide)) (by decide) tb_398 dX9_town_60 ?_
            refine lv_iload_n hx hb dX9_town_63 rfl (lv_at hl 1 rfl) ?_
            refine lv_iload_n hx hb dX9_town_64 rfl (lv_at hl 2 rfl) ?_
            refine lv_iload_n hx hb dX9_town_65 rfl (lv_at hl 3 rfl) ?_
            refine lv_iload hx hb dX9_town_66 (lv_at hl 4 rfl) ?_
            refine lv_iload hx hb dX9_town_68 (lv_at hl 5 rfl) ?_
            refine m_callv (m_runV (100) (As := [.int (w), .int (h), .int (x), .int (y), .int (a)]) (rest := []) hx hb hml hown hts hE hM hS hA ce_X8_begin tb_454 (C_X8_begin l D A ad ns I L G (100) (w) (h) (x) (y) (a) hG.t0) rfl rfl ⟨Nat.le_of_ble_eq_true rfl, Nat.le_of_ble_eq_true rfl⟩ (hG.1 100 (by decide)) rfl rfl (by decide) rfl hl.1 rfl (Nat.le_of_ble_eq_true rfl) dX9_town_70 ⟨Nat.le_of_ble_eq_true rfl, Nat.le_of_ble_eq_true rfl⟩) hS (fun u H locs hw hM hS => ?_)
            subst hw
            have hM : Mem D A ad ns (beginI I (100) (w) (h) (x) (y) (a)) L G H := hM
            refine lv_iconst (v := (1)) hx hb dX9_town_73 (by decide) ?_
            exact m_zret hx hb hr rfl hlocks hM hS (Nat.le_of_ble_eq_true rfl) (Nat.le_of_ble_eq_true rfl) (Or.inl ⟨by unfold okT; omega, rfl, rfl⟩) dX9_town_74
          · have hc12 := c12
            have q12 := b_r11.f hc12
            refine lv_iconst (v := (0)) hx hb dX9_town_57 (by decide) ?_
            exact m_zret hx hb hr rfl hlocks hM hS (Nat.le_of_ble_eq_true rfl) (Nat.le_of_ble_eq_true rfl) (Or.inr ⟨by unfold okT; omega, rfl, rfl⟩) dX9_town_58
    · have hc4 := c4
      have q4 := b_r3.f hc4
      refine lv_iconst (v := (0)) hx hb dX9_town_20 (by decide) ?_
      exact m_zret hx hb hr rfl hlocks hM hS (Nat.le_of_ble_eq_true rfl) (Nat.le_of_ble_eq_true rfl) (Or.inr ⟨by unfold okT; omega, rfl, rfl⟩) dX9_town_21
theorem dX9_putOnTape_0 : decode cX9_putOnTape 0 = .ok (.bipush 24, 2) := by decide +kernel
theorem dX9_putOnTape_2 : decode cX9_putOnTape 2 = .ok (.istore_n 2, 1) := by decide +kernel
theorem dX9_putOnTape_3 : decode cX9_putOnTape 3 = .ok (.iload_n 2, 1) := by decide +kernel
theorem dX9_putOnTape_4 : decode cX9_putOnTape 4 = .ok (.ifCond .lt 42, 3) := by decide +kernel
theorem dX9_putOnTape_7 : decode cX9_putOnTape 7 = .ok (.aload_n 0, 1) := by decide +kernel
theorem dX9_putOnTape_8 : decode cX9_putOnTape 8 = .ok (.getfield 172, 3) := by decide +kernel
theorem dX9_putOnTape_11 : decode cX9_putOnTape 11 = .ok (.sipush 400, 3) := by decide +kernel
theorem dX9_putOnTape_14 : decode cX9_putOnTape 14 = .ok (.if_icmp .ge 32, 3) := by decide +kernel
theorem dX9_putOnTape_17 : decode cX9_putOnTape 17 = .ok (.aload_n 0, 1) := by decide +kernel
theorem dX9_putOnTape_18 : decode cX9_putOnTape 18 = .ok (.getfield 82, 3) := by decide +kernel
theorem dX9_putOnTape_21 : decode cX9_putOnTape 21 = .ok (.aload_n 0, 1) := by decide +kernel
theorem dX9_putOnTape_22 : decode cX9_putOnTape 22 = .ok (.getfield 172, 3) := by decide +kernel
theorem dX9_putOnTape_25 : decode cX9_putOnTape 25 = .ok (.iload_n 1, 1) := by decide +kernel
theorem dX9_putOnTape_26 : decode cX9_putOnTape 26 = .ok (.iload_n 2, 1) := by decide +kernel
theorem dX9_putOnTape_27 : decode cX9_putOnTape 27 = .ok (.iushr, 1) := by decide +kernel
theorem dX9_putOnTape_28 : decode cX9_putOnTape 28 = .ok (.i2b, 1) := by decide +kernel
theorem dX9_putOnTape_29 : decode cX9_putOnTape 29 = .ok (.bastore, 1) := by decide +kernel
theorem dX9_putOnTape_30 : decode cX9_putOnTape 30 = .ok (.aload_n 0, 1) := by decide +kernel
theorem dX9_putOnTape_31 : decode cX9_putOnTape 31 = .ok (.dup, 1) := by decide +kernel
theorem dX9_putOnTape_32 : decode cX9_putOnTape 32 = .ok (.getfield 172, 3) := by decide +kernel
theorem dX9_putOnTape_35 : decode cX9_putOnTape 35 = .ok (.iconst 1, 1) := by decide +kernel
theorem dX9_putOnTape_36 : decode cX9_putOnTape 36 = .ok (.iadd, 1) := by decide +kernel
theorem dX9_putOnTape_37 : decode cX9_putOnTape 37 = .ok (.putfield 172, 3) := by decide +kernel
theorem dX9_putOnTape_40 : decode cX9_putOnTape 40 = .ok (.iinc 2 (-8), 3) := by decide +kernel
theorem dX9_putOnTape_43 : decode cX9_putOnTape 43 = .ok (.goto (-40), 3) := by decide +kernel
theorem dX9_putOnTape_46 : decode cX9_putOnTape 46 = .ok (.return_, 1) := by decide +kernel
theorem ce_X9_putOnTape : CeV RX9 yX9_putOnTape cX9_putOnTape 3 none 1 := ⟨tb_552, tp_1, tb_1, tb_553, rfl, by decide, by decide, by decide +kernel⟩
set_option maxHeartbeats 4000000 in
set_option maxRecDepth 20000 in
theorem C_X9_putOnTape (l : Launch) (D : va_G) (A : Nat → Prop) (ad : Nat → Nat) (ns : List Nat) (I : MI) (L : ML) (G : MG) (x : Int32) (hG : SGC ns G) (ht : 0 ≤ (I 0 15).toInt ∧ (I 0 15).toInt ≤ 396) : Met l yX9_putOnTape (wd yX9_putOnTape cX9_putOnTape 3 none) ({ frames := 0, cells := 0, slots := 0, locals := 0 }) (va_Pc [.ref (ad 0), .int x] (PM D A ad ns I L G)) (va_Qv (fun u => ∃ I2, u = (ad, ns, I2, L, G) ∧ (I2 0 15).toInt = (I 0 15).toInt + 4 ∧ ∀ n, n ≠ 0 → n ≠ 3 → I2 n = I n) (BM D A) A) 0 0 A := by
  refine m_ofW (by decide) (Nat.le_of_ble_eq_true rfl) ?_
  intro p e s m below meth c ls args hC hE hM hA hS hl
  obtain ⟨hx, hb, hml, hown, hts, hr, hlocks, hin⟩ := hC
  have k0 : (0 : Int32).toInt = 0 := by decide
  have k1 : (1 : Int32).toInt = 1 := by decide
  have k24 : (24 : Int32).toInt = 24 := by decide
  have k400 : (400 : Int32).toInt = 400 := by decide
  have hl : lv_has ls 3 [(0, .ref (ad (0))), (1, .int (x))] := hl
  refine lv_bipush (v := (24)) hx hb dX9_putOnTape_0 (by decide) ?_
  refine lv_istore_n (lv' := [(2, .int (24)), (0, .ref (ad (0))), (1, .int (x))]) hx hb dX9_putOnTape_2 rfl hl (by decide) rfl (fun ls hl => ?_)
  refine lv_iload_n hx hb dX9_putOnTape_3 rfl (lv_at hl 0 rfl) ?_
  refine lv_if_lt (tgt := 46) hx hb dX9_putOnTape_4 (by decide) (fun c1 => ?_) (fun c1 => ?_)
  · exact absurd c1 (by decide)
  · have hc1 := c1
    have q1 := q_nlt hc1
    refine lv_aload_n hx hb dX9_putOnTape_7 rfl (lv_at hl 1 rfl) ?_
    refine m_geti (0) 15 hx hb hts hown hE oc9 hM (hG.1 0 (by decide)) rfl (by decide) rfl tb_413 dX9_putOnTape_8 ?_
    refine lv_sipush (v := (400)) hx hb dX9_putOnTape_11 (by decide) ?_
    refine lv_icmp_ge (tgt := 46) hx hb dX9_putOnTape_14 (by decide) (fun c2 => ?_) (fun c2 => ?_)
    · exact absurd (q_le c2) (by omega)
    · have hc2 := c2
      have q2 := q_nle hc2
      refine lv_aload_n hx hb dX9_putOnTape_17 rfl (lv_at hl 1 rfl) ?_
      refine m_getr (0) 11 (3) hx hb hts hown hE oc9 hM (hG.1 0 (by decide)) rfl (by decide) rfl (hG.2 (0, 11, 3) (by decide)) (by decide) tb_409 dX9_putOnTape_18 ?_
      refine lv_aload_n hx hb dX9_putOnTape_21 rfl (lv_at hl 1 rfl) ?_
      refine m_geti (0) 15 hx hb hts hown hE oc9 hM (hG.1 0 (by decide)) rfl (by decide) rfl tb_413 dX9_putOnTape_22 ?_
      refine lv_iload_n hx hb dX9_putOnTape_25 rfl (lv_at hl 2 rfl) ?_
      refine lv_iload_n hx hb dX9_putOnTape_26 rfl (lv_at hl 0 rfl) ?_
      refine lv_iushr hx hb dX9_putOnTape_27 rfl ?_
      refine lv_topi (fun v3 ev3 => ?_)
      refine lv_i2b hx hb dX9_putOnTape_28 rfl ?_
      refine lv_topi (fun v4 ev4 => ?_)
      refine m_bast (3) hx hb hE hM hS (hG.1 3 (by decide)) rfl (vp_in_iff.mpr (by omega)) dX9_putOnTape_29 (fun H locs I5 eI5 hM hS => ?_)
      subst eI5
      refine lv_aload_n hx hb dX9_putOnTape_30 rfl (lv_at hl 1 rfl) ?_
      refine lv_dup hx hb dX9_putOnTape_31 rfl ?_
      refine m_geti (0) 15 hx hb hts hown hE oc9 hM (hG.1 0 (by decide)) rfl (by decide) rfl tb_413 dX9_putOnTape_32 ?_
      rw [show (u2 I (3) ((I (0) 15).toNatClampNeg) (vp_nar .byte (v4))) (0) 15 = I (0) 15 from by simp [u2_v, fillI, cpyI]]
      refine lv_iconst (v := (1)) hx hb dX9_putOnTape_35 (by decide) ?_
      refine lv_iadd hx hb dX9_putOnTape_36 ?_
      refine lv_topi (fun v6 ev6 => ?_)
      have tv6 := a_add ev6 (by omega) (by omega)
      refine m_puti (0) 15 hx hb hts hown hE oc9 hM hS (hG.1 0 (by decide)) rfl (by decide) rfl rfl rfl rfl tb_413 dX9_putOnTape_37 (fun H locs I7 eI7 hM hS => ?_)
      subst eI7
      refine lv_iinc (v := 16) (lv' := [(2, .int (16)), (0, .ref (ad (0))), (1, .int (x))]) hx hb dX9_putOnTape_40 hl (k := 0) rfl (by decide) (by decide) rfl (fun ls hl => ?_)
      refine lv_goto (tgt := 3) hx hb dX9_putOnTape_43 (by decide) ?_
      refine lv_iload_n hx hb dX9_putOnTape_3 rfl (lv_at hl 0 rfl) ?_
      refine lv_if_lt (tgt := 46) hx hb dX9_putOnTape_4 (by decide) (fun c9 => ?_) (fun c9 => ?_)
      · exact absurd c9 (by decide)
      · have hc9 := c9
        have q9 := q_nlt hc9
        refine lv_aload_n hx hb dX9_putOnTape_7 rfl (lv_at hl 1 rfl) ?_
        refine m_geti (0) 15 hx hb hts hown hE oc9 hM (hG.1 0 (by decide)) rfl (by decide) rfl tb_413 dX9_putOnTape_8 ?_
        rw [show (u2 (u2 I (3) ((I (0) 15).toNatClampNeg) (vp_nar .byte (v4))) (0) 15 (v6)) (0) 15 = v6 from by simp [u2_v, fillI, cpyI]]
        refine lv_sipush (v := (400)) hx hb dX9_putOnTape_11 (by decide) ?_
        refine lv_icmp_ge (tgt := 46) hx hb dX9_putOnTape_14 (by decide) (fun c10 => ?_) (fun c10 => ?_)
        · exact absurd (q_le c10) (by omega)
        · have hc10 := c10
          have q10 := q_nle hc10
          refine lv_aload_n hx hb dX9_putOnTape_17 rfl (lv_at hl 1 rfl) ?_
          refine m_getr (0) 11 (3) hx hb hts hown hE oc9 hM (hG.1 0 (by decide)) rfl (by decide) rfl (hG.2 (0, 11, 3) (by decide)) (by decide) tb_409 dX9_putOnTape_18 ?_
          refine lv_aload_n hx hb dX9_putOnTape_21 rfl (lv_at hl 1 rfl) ?_
          refine m_geti (0) 15 hx hb hts hown hE oc9 hM (hG.1 0 (by decide)) rfl (by decide) rfl tb_413 dX9_putOnTape_22 ?_
          rw [show (u2 (u2 I (3) ((I (0) 15).toNatClampNeg) (vp_nar .byte (v4))) (0) 15 (v6)) (0) 15 = v6 from by simp [u2_v, fillI, cpyI]]
          refine lv_iload_n hx hb dX9_putOnTape_25 rfl (lv_at hl 2 rfl) ?_
          refine lv_iload_n hx hb dX9_putOnTape_26 rfl (lv_at hl 0 rfl) ?_
          refine lv_iushr hx hb dX9_putOnTape_27 rfl ?_
          refine lv_topi (fun v11 ev11 => ?_)
          refine lv_i2b hx hb dX9_putOnTape_28 rfl ?_
          refine lv_topi (fun v12 ev12 => ?_)
          refine m_bast (3) hx hb hE hM hS (hG.1 3 (by decide)) rfl (vp_in_iff.mpr (by omega)) dX9_putOnTape_29 (fun H locs I13 eI13 hM hS => ?_)
          subst eI13
          refine lv_aload_n hx hb dX9_putOnTape_30 rfl (lv_at hl 1 rfl) ?_
          refine lv_dup hx hb dX9_putOnTape_31 rfl ?_
          refine m_geti (0) 15 hx hb hts hown hE oc9 hM (hG.1 0 (by decide)) rfl (by decide) rfl tb_413 dX9_putOnTape_32 ?_
          rw [show (u2 (u2 (u2 I (3) ((I (0) 15).toNatClampNeg) (vp_nar .byte (v4))) (0) 15 (v6)) (3) ((v6).toNatClampNeg) (vp_nar .byte (v12))) (0) 15 = v6 from by simp [u2_v, fillI, cpyI]]
          refine lv_iconst (v := (1)) hx hb dX9_putOnTape_35 (by decide) ?_
          refine lv_iadd hx hb dX9_putOnTape_36 ?_
          refine lv_topi (fun v14 ev14 => ?_)
          have tv14 := a_add ev14 (by omega) (by omega)
          refine m_puti (0) 15 hx hb hts hown hE oc9 hM hS (hG.1 0 (by decide)) rfl (by decide) rfl rfl rfl rfl tb_413 dX9_putOnTape_37 (fun H locs I15 eI15 hM hS => ?_)
          subst eI15
          refine lv_iinc (v := 8) (lv' := [(2, .int (8)), (0, .ref (ad (0))), (1, .int (x))]) hx hb dX9_putOnTape_40 hl (k := 0) rfl (by decide) (by decide) rfl (fun ls hl => ?_)
          refine lv_goto (tgt := 3) hx hb dX9_putOnTape_43 (by decide) ?_
          refine lv_iload_n hx hb dX9_putOnTape_3 rfl (lv_at hl 0 rfl) ?_
          refine lv_if_lt (tgt := 46) hx hb dX9_putOnTape_4 (by decide) (fun c17 => ?_) (fun c17 => ?_)
          · exact absurd c17 (by decide)
          · have hc17 := c17
            have q17 := q_nlt hc17
            refine lv_aload_n hx hb dX9_putOnTape_7 rfl (lv_at hl 1 rfl) ?_
            refine m_geti (0) 15 hx hb hts hown hE oc9 hM (hG.1 0 (by decide)) rfl (by decide) rfl tb_413 dX9_putOnTape_8 ?_
            rw [show (u2 (u2 (u2 (u2 I (3) ((I (0) 15).toNatClampNeg) (vp_nar .byte (v4))) (0) 15 (v6)) (3) ((v6).toNatClampNeg) (vp_nar .byte (v12))) (0) 15 (v14)) (0) 15 = v14 from by simp [u2_v, fillI, cpyI]]
            refine lv_sipush (v := (400)) hx hb dX9_putOnTape_11 (by decide) ?_
            refine lv_icmp_ge (tgt := 46) hx hb dX9_putOnTape_14 (by decide) (fun c18 => ?_) (fun c18 => ?_)
            · exact absurd (q_le c18) (by omega)
            · have hc18 := c18
              have q18 := q_nle hc18
              refine lv_aload_n hx hb dX9_putOnTape_17 rfl (lv_at hl 1 rfl) ?_
              refine m_getr (0) 11 (3) hx hb hts hown hE oc9 hM (hG.1 0 (by decide)) rfl (by decide) rfl (hG.2 (0, 11, 3) (by decide)) (by decide) tb_409 dX9_putOnTape_18 ?_
              refine lv_aload_n hx hb dX9_putOnTape_21 rfl (lv_at hl 1 rfl) ?_
              refine m_geti (0) 15 hx hb hts hown hE oc9 hM (hG.1 0 (by decide)) rfl (by decide) rfl tb_413 dX9_putOnTape_22 ?_
              rw [show (u2 (u2 (u2 (u2 I (3) ((I (0) 15).toNatClampNeg) (vp_nar .byte (v4))) (0) 15 (v6)) (3) ((v6).toNatClampNeg) (vp_nar .byte (v12))) (0) 15 (v14)) (0) 15 = v14 from by simp [u2_v, fillI, cpyI]]
              refine lv_iload_n hx hb dX9_putOnTape_25 rfl (lv_at hl 2 rfl) ?_
              refine lv_iload_n hx hb dX9_putOnTape_26 rfl (lv_at hl 0 rfl) ?_
              refine lv_iushr hx hb dX9_putOnTape_27 rfl ?_
              refine lv_topi (fun v19 ev19 => ?_)
              refine lv_i2b hx hb dX9_putOnTape_28 rfl ?_
              refine lv_topi (fun v20 ev20 => ?_)
              refine m_bast (3) hx hb hE hM hS (hG.1 3 (by decide)) rfl (vp_in_iff.mpr (by omega)) dX9_putOnTape_29 (fun H locs I21 eI21 hM hS => ?_)
              subst eI21
              refine lv_aload_n hx hb dX9_putOnTape_30 rfl (lv_at hl 1 rfl) ?_
              refine lv_dup hx hb dX9_putOnTape_31 rfl ?_
              refine m_geti (0) 15 hx hb hts hown hE oc9 hM (hG.1 0 (by decide)) rfl (by decide) rfl tb_413 dX9_putOnTape_32 ?_
              rw [show (u2 (u2 (u2 (u2 (u2 I (3) ((I (0) 15).toNatClampNeg) (vp_nar .byte (v4))) (0) 15 (v6)) (3) ((v6).toNatClampNeg) (vp_nar .byte (v12))) (0) 15 (v14)) (3) ((v14).toNatClampNeg) (vp_nar .byte (v20))) (0) 15 = v14 from by simp [u2_v, fillI, cpyI]]
              refine lv_iconst (v := (1)) hx hb dX9_putOnTape_35 (by decide) ?_
              refine lv_iadd hx hb dX9_putOnTape_36 ?_
              refine lv_topi (fun v22 ev22 => ?_)
              have tv22 := a_add ev22 (by omega) (by omega)
              refine m_puti (0) 15 hx hb hts hown hE oc9 hM hS (hG.1 0 (by decide)) rfl (by decide) rfl rfl rfl rfl tb_413 dX9_putOnTape_37 (fun H locs I23 eI23 hM hS => ?_)
              subst eI23
              refine lv_iinc (v := 0) (lv' := [(2, .int (0)), (0, .ref (ad (0))), (1, .int (x))]) hx hb dX9_putOnTape_40 hl (k := 0) rfl (by decide) (by decide) rfl (fun ls hl => ?_)
              refine lv_goto (tgt := 3) hx hb dX9_putOnTape_43 (by decide) ?_
              refine lv_iload_n hx hb dX9_putOnTape_3 rfl (lv_at hl 0 rfl) ?_
              refine lv_if_lt (tgt := 46) hx hb dX9_putOnTape_4 (by decide) (fun c25 => ?_) (fun c25 => ?_)
              · exact absurd c25 (by decide)
              · have hc25 := c25
                have q25 := q_nlt hc25
                refine lv_aload_n hx hb dX9_putOnTape_7 rfl (lv_at hl 1 rfl) ?_
                refine m_geti (0) 15 hx hb hts hown hE oc9 hM (hG.1 0 (by decide)) rfl (by decide) rfl tb_413 dX9_putOnTape_8 ?_
                rw [show (u2 (u2 (u2 (u2 (u2 (u2 I (3) ((I (0) 15).toNatClampNeg) (vp_nar .byte (v4))) (0) 15 (v6)) (3) ((v6).toNatClampNeg) (vp_nar .byte (v12))) (0) 15 (v14)) (3) ((v14).toNatClampNeg) (vp_nar .byte (v20))) (0) 15 (v22)) (0) 15 = v22 from by simp [u2_v, fillI, cpyI]]
                refine lv_sipush (v := (400)) hx hb dX9_putOnTape_11 (by decide) ?_
                refine lv_icmp_ge (tgt := 46) hx hb dX9_putOnTape_14 (by decide) (fun c26 => ?_) (fun c26 => ?_)
                · exact absurd (q_le c26) (by omega)
                · have hc26 := c26
                  have q26 := q_nle hc26
                  refine lv_aload_n hx hb dX9_putOnTape_17 rfl (lv_at hl 1 rfl) ?_
                  refine m_getr (0) 11 (3) hx hb hts hown hE oc9 hM (hG.1 0 (by decide)) rfl (by decide) rfl (hG.2 (0, 11, 3) (by decide)) (by decide) tb_409 dX9_putOnTape_18 ?_
                  refine lv_aload_n hx hb dX9_putOnTape_21 rfl (lv_at hl 1 rfl) ?_
                  refine m_geti (0) 15 hx hb hts hown hE oc9 hM (hG.1 0 (by decide)) rfl (by decide) rfl tb_413 dX9_putOnTape_22 ?_
                  rw [show (u2 (u2 (u2 (u2 (u2 (u2 I (3) ((I (0) 15).toNatClampNeg) (vp_nar .byte (v4))) (0) 15 (v6)) (3) ((v6).toNatClampNeg) (vp_nar .byte (v12))) (0) 15 (v14)) (3) ((v14).toNatClampNeg) (vp_nar .byte (v20))) (0) 15 (v22)) (0) 15 = v22 from by simp [u2_v, fillI, cpyI]]
                  refine lv_iload_n hx hb dX9_putOnTape_25 rfl (lv_at hl 2 rfl) ?_
                  refine lv_iload_n hx hb dX9_putOnTape_26 rfl (lv_at hl 0 rfl) ?_
                  refine lv_iushr hx hb dX9_putOnTape_27 rfl ?_
                  refine lv_topi (fun v27 ev27 => ?_)
                  refine lv_i2b hx hb dX9_putOnTape_28 rfl ?_
                  refine lv_topi (fun v28 ev28 => ?_)
                  refine m_bast (3) hx hb hE hM hS (hG.1 3 (by decide)) rfl (vp_in_iff.mpr (by omega)) dX9_putOnTape_29 (fun H locs I29 eI29 hM hS => ?_)
                  subst eI29
                  refine lv_aload_n hx hb dX9_putOnTape_30 rfl (lv_at hl 1 rfl) ?_
                  refine lv_dup hx hb dX9_putOnTape_31 rfl ?_
                  refine m_geti (0) 15 hx hb hts hown hE oc9 hM (hG.1 0 (by decide)) rfl (by decide) rfl tb_413 dX9_putOnTape_32 ?_
                  rw [show (u2 (u2 (u2 (u2 (u2 (u2 (u2 I (3) ((I (0) 15).toNatClampNeg) (vp_nar .byte (v4))) (0) 15 (v6)) (3) ((v6).toNatClampNeg) (vp_nar .byte (v12))) (0) 15 (v14)) (3) ((v14).toNatClampNeg) (vp_nar .byte (v20))) (0) 15 (v22)) (3) ((v22).toNatClampNeg) (vp_nar .byte (v28))) (0) 15 = v22 from by simp [u2_v, fillI, cpyI]]
                  refine lv_iconst (v := (1)) hx hb dX9_putOnTape_35 (by decide) ?_
                  refine lv_iadd hx hb dX9_putOnTape_36 ?_
                  refine lv_topi (fun v30 ev30 => ?_)
                  have tv30 := a_add ev30 (by omega) (by omega)
                  refine m_puti (0) 15 hx hb hts hown hE oc9 hM hS (hG.1 0 (by decide)) rfl (by decide) rfl rfl rfl rfl tb_413 dX9_putOnTape_37 (fun H locs I31 eI31 hM hS => ?_)
                  subst eI31
                  refine lv_iinc (v := (-8 : Int32)) (lv' := [(2, .int ((-8 : Int32))), (0, .ref (ad (0))), (1, .int (x))]) hx hb dX9_putOnTape_40 hl (k := 0) rfl (by decide) (by decide) rfl (fun ls hl => ?_)
                  refine lv_goto (tgt := 3) hx hb dX9_putOnTape_43 (by decide) ?_
                  refine lv_iload_n hx hb dX9_putOnTape_3 rfl (lv_at hl 0 rfl) ?_
                  refine lv_if_lt (tgt := 46) hx hb dX9_putOnTape_4 (by decide) (fun c33 => ?_) (fun c33 => ?_)
                  · have hc33 := c33
                    have q33 := q_lt hc33
                    exact m_vret hx hb hr hlocks hM hS (Nat.le_of_ble_eq_true rfl) (Nat.le_of_ble_eq_true rfl) ⟨_, rfl, by rw [u2_self]; omega, fun n h0 h3 => by funext k; simp [u2_v, h0, h3]⟩ dX9_putOnTape_46
                  · exact absurd c33 (by decide)
theorem dX9_feed_0 : decode cX9_feed 0 = .ok (.aload_n 0, 1) := by decide +kernel
theorem dX9_feed_1 : decode cX9_feed 1 = .ok (.getfield 172, 3) := by decide +kernel
theorem dX9_feed_4 : decode cX9_feed 4 = .ok (.sipush 380, 3) := by decide +kernel
theorem dX9_feed_7 : decode cX9_feed 7 = .ok (.if_icmp .le 5, 3) := by decide +kernel
theorem dX9_feed_10 : decode cX9_feed 10 = .ok (.iconst (-1), 1) := by decide +kernel
theorem dX9_feed_11 : decode cX9_feed 11 = .ok (.ireturn, 1) := by decide +kernel
theorem dX9_feed_12 : decode cX9_feed 12 = .ok (.aload_n 0, 1) := by decide +kernel
theorem dX9_feed_13 : decode cX9_feed 13 = .ok (.iload_n 1, 1) := by decide +kernel
theorem dX9_feed_14 : decode cX9_feed 14 = .ok (.invokevirtual 175, 3) := by decide +kernel
theorem dX9_feed_17 : decode cX9_feed 17 = .ok (.aload_n 0, 1) := by decide +kernel
theorem dX9_feed_18 : decode cX9_feed 18 = .ok (.iload_n 2, 1) := by decide +kernel
theorem dX9_feed_19 : decode cX9_feed 19 = .ok (.invokevirtual 175, 3) := by decide +kernel
theorem dX9_feed_22 : decode cX9_feed 22 = .ok (.aload_n 0, 1) := by decide +kernel
theorem dX9_feed_23 : decode cX9_feed 23 = .ok (.iload_n 3, 1) := by decide +kernel
theorem dX9_feed_24 : decode cX9_feed 24 = .ok (.invokevirtual 175, 3) := by decide +kernel
theorem dX9_feed_27 : decode cX9_feed 27 = .ok (.aload_n 0, 1) := by decide +kernel
theorem dX9_feed_28 : decode cX9_feed 28 = .ok (.iload 4, 2) := by decide +kernel
theorem dX9_feed_30 : decode cX9_feed 30 = .ok (.invokevirtual 175, 3) := by decide +kernel
theorem dX9_feed_33 : decode cX9_feed 33 = .ok (.aload_n 0, 1) := by decide +kernel
theorem dX9_feed_34 : decode cX9_feed 34 = .ok (.iload 5, 2) := by decide +kernel
theorem dX9_feed_36 : decode cX9_feed 36 = .ok (.invokevirtual 175, 3) := by decide +kernel
theorem dX9_feed_39 : decode cX9_feed 39 = .ok (.aload_n 0, 1) := by decide +kernel
theorem dX9_feed_40 : decode cX9_feed 40 = .ok (.getfield 172, 3) := by decide +kernel
theorem dX9_feed_43 : decode cX9_feed 43 = .ok (.ireturn, 1) := by decide +kernel
theorem ce_X9_feed : CeV RX9 yX9_feed cX9_feed 6 (some .int) 5 := ⟨tb_547, tb_548, tb_1, tb_549, rfl, by decide, by decide, by decide +kernel⟩
set_option maxHeartbeats 4000000 in
set_option maxRecDepth 20000 in
theorem C_X9_feed (l : Launch) (D : va_G) (A : Nat → Prop) (ad : Nat → Nat) (ns : List Nat) (I : MI) (L : ML) (G : MG) (a0 : Int32) (a1 : Int32) (a2 : Int32) (a3 : Int32) (a4 : Int32) (hG : SGC ns G) (ht : 0 ≤ (I 0 15).toInt) : Met l yX9_feed (wd yX9_feed cX9_feed 6 (some .int)) ({ frames := 1, cells := 0, slots := 0, locals := 22 }) (va_Pc [.ref (ad 0), .int a0, .int a1, .int a2, .int a3, .int a4] (PM D A ad ns I L G)) (va_Qi (fun z u => ∃ I2, u = (ad, ns, I2, L, G) ∧ (∀ n, n ≠ 0 → n ≠ 3 → I2 n = I n) ∧ (((I 0 15).toInt ≤ 380 ∧ z.toInt = (I 0 15).toInt + 20) ∨ (¬ (I 0 15).toInt ≤ 380 ∧ z = -1))) (BM D A) A) 0 0 A := by
  refine m_ofW (by decide) (Nat.le_of_ble_eq_true rfl) ?_
  intro p e s m below meth c ls args hC hE hM hA hS hl
  obtain ⟨hx, hb, hml, hown, hts, hr, hlocks, hin⟩ := hC
  have km1 : (-1 : Int32).toInt = -1 := by decide
  have k0 : (0 : Int32).toInt = 0 := by decide
  have k380 : (380 : Int32).toInt = 380 := by decide
  have hl : lv_has ls 6 [(0, .ref (ad (0))), (1, .int (a0)), (2, .int (a1)), (3, .int (a2)), (4, .int (a3)), (5, .int (a4))] := hl
  refine lv_aload_n hx hb dX9_feed_0 rfl (lv_at hl 0 rfl) ?_
  refine m_geti (0) 15 hx hb hts hown hE oc9 hM (hG.1 0 (by decide)) rfl (by decide) rfl tb_413 dX9_feed_1 ?_
  refine lv_sipush (v := (380)) hx hb dX9_feed_4 (by decide) ?_
  refine lv_icmp_le (tgt := 12) hx hb dX9_feed_7 (by decide) (fun c1 => ?_) (fun c1 => ?_)
  · have hc1 := c1
    have q1 := q_le hc1
    refine lv_aload_n hx hb dX9_feed_12 rfl (lv_at hl 0 rfl) ?_
    refine lv_iload_n hx hb dX9_feed_13 rfl (lv_at hl 1 rfl) ?_
    refine m_callv (m_runV (0) (As := [.int (a0)]) (rest := []) hx hb hml hown hts hE hM hS hA ce_X9_putOnTape tb_550 (C_X9_putOnTape l D A ad ns I L G (a0) hG (by omega)) rfl rfl ⟨Nat.le_of_ble_eq_true rfl, Nat.le_of_ble_eq_true rfl⟩ (hG.1 0 (by decide)) rfl rfl (by decide) rfl hl.1 rfl (Nat.le_of_ble_eq_true rfl) dX9_feed_14 ⟨Nat.le_of_ble_eq_true rfl, Nat.le_of_ble_eq_true rfl⟩) hS (fun u H locs hw hM hS => ?_)
    obtain ⟨I2, rfl, hI2, fI2⟩ := hw
    have hM : Mem D A ad ns I2 L G H := hM
    refine lv_aload_n hx hb dX9_feed_17 rfl (lv_at hl 0 rfl) ?_
    refine lv_iload_n hx hb dX9_feed_18 rfl (lv_at hl 2 rfl) ?_
    refine m_callv (m_runV (0) (As := [.int (a1)]) (rest := []) hx hb hml hown hts hE hM hS hA ce_X9_putOnTape tb_550 (C_X9_putOnTape l D A ad ns I2 L G (a1) hG (by omega)) rfl rfl ⟨Nat.le_of_ble_eq_true rfl, Nat.le_of_ble_eq_true rfl⟩ (hG.1 0 (by decide)) rfl rfl (by decide) rfl hl.1 rfl (Nat.le_of_ble_eq_true rfl) dX9_feed_19 ⟨Nat.le_of_ble_eq_true rfl, Nat.le_of_ble_eq_true rfl⟩) hS (fun u H locs hw hM hS => ?_)
    obtain ⟨I3, rfl, hI3, fI3⟩ := hw
    have hM : Mem D A ad ns I3 L G H := hM
    refine lv_aload_n hx hb dX9_feed_22 rfl (lv_at hl 0 rfl) ?_
    refine lv_iload_n hx hb dX9_feed_23 rfl (lv_at hl 3 rfl) ?_
    refine m_callv (m_runV (0) (As := [.int (a2)]) (rest := []) hx hb hml hown hts hE hM hS hA ce_X9_putOnTape tb_550 (C_X9_putOnTape l D A ad ns I3 L G (a2) hG (by omega)) rfl rfl ⟨Nat.le_of_ble_eq_true rfl, Nat.le_of_ble_eq_true rfl⟩ (hG.1 0 (by decide)) rfl rfl (by decide) rfl hl.1 rfl (Nat.le_of_ble_eq_true rfl) dX9_feed_24 ⟨Nat.le_of_ble_eq_true rfl, Nat.le_of_ble_eq_true rfl⟩) hS (fun u H locs hw hM hS => ?_)
    obtain ⟨I4, rfl, hI4, fI4⟩ := hw
    have hM : Mem D A ad ns I4 L G H := hM
    refine lv_aload_n hx hb dX9_feed_27 rfl (lv_at hl 0 rfl) ?_
    refine lv_iload hx hb dX9_feed_28 (lv_at hl 4 rfl) ?_
    refine m_callv (m_runV (0) (As := [.int (a3)]) (rest := []) hx hb hml hown hts hE hM hS hA ce_X9_putOnTape tb_550 (C_X9_putOnTape l D A ad ns I4 L G (a3) hG (by omega)) rfl rfl ⟨Nat.le_of_ble_eq_true rfl, Nat.le_of_ble_eq_true rfl⟩ (hG.1 0 (by decide)) rfl rfl (by decide) rfl hl.1 rfl (Nat.le_of_ble_eq_true rfl) dX9_feed_30 ⟨Nat.le_of_ble_eq_true rfl, Nat.le_of_ble_eq_true rfl⟩) hS (fun u H locs hw hM hS => ?_)
    obtain ⟨I5, rfl, hI5, fI5⟩ := hw
    have hM : Mem D A ad ns I5 L G H := hM
    refine lv_aload_n hx hb dX9_feed_33 rfl (lv_at hl 0 rfl) ?_
    refine lv_iload hx hb dX9_feed_34 (lv_at hl 5 rfl) ?_
    refine m_callv (m_runV (0) (As := [.int (a4)]) (rest := []) hx hb hml hown hts hE hM hS hA ce_X9_putOnTape tb_550 (C_X9_putOnTape l D A ad ns I5 L G (a4) hG (by omega)) rfl rfl ⟨Nat.le_of_ble_eq_true rfl, Nat.le_of_ble_eq_true rfl⟩ (hG.1 0 (by decide)) rfl rfl (by decide) rfl hl.1 rfl (Nat.le_of_ble_eq_true rfl) dX9_feed_36 ⟨Nat.le_of_ble_eq_true rfl, Nat.le_of_ble_eq_true rfl⟩) hS (fun u H locs hw hM hS => ?_)
    obtain ⟨I6, rfl, hI6, fI6⟩ := hw
    have hM : Mem D A ad ns I6 L G H := hM
    refine lv_aload_n hx hb dX9_feed_39 rfl (lv_at hl 0 rfl) ?_
    refine m_geti (0) 15 hx hb hts hown hE oc9 hM (hG.1 0 (by decide)) rfl (by decide) rfl tb_413 dX9_feed_40 ?_
    exact m_iret hx hb hr hlocks hM hS (Nat.le_of_ble_eq_true rfl) (Nat.le_of_ble_eq_true rfl) ⟨_, rfl, fun n h0 h3 => by rw [fI6 n h0 h3, fI5 n h0 h3, fI4 n h0 h3, fI3 n h0 h3, fI2 n h0 h3], Or.inl ⟨by omega, by omega⟩⟩ dX9_feed_43
  · have hc1 := c1
    have q1 := q_nle hc1
    refine lv_iconst (v := (-1)) hx hb dX9_feed_10 (by decide) ?_
    exact m_iret hx hb hr hlocks hM hS (Nat.le_of_ble_eq_true rfl) (Nat.le_of_ble_eq_true rfl) ⟨_, rfl, fun _ _ _ => rfl, Or.inr ⟨by omega, rfl⟩⟩ dX9_feed_11
theorem dX9_end_0 : decode cX9_end 0 = .ok (.iload_n 1, 1) := by decide +kernel
theorem dX9_end_1 : decode cX9_end 1 = .ok (.iconst 0, 1) := by decide +kernel
theorem dX9_end_2 : decode cX9_end 2 = .ok (.aload_n 0, 1) := by decide +kernel
theorem dX9_end_3 : decode cX9_end 3 = .ok (.getfield 172, 3) := by decide +kernel
theorem dX9_end_6 : decode cX9_end 6 = .ok (.invokestatic 95, 3) := by decide +kernel
theorem dX9_end_9 : decode cX9_end 9 = .ok (.ifCond .ne 5, 3) := by decide +kernel
theorem dX9_end_12 : decode cX9_end 12 = .ok (.iconst (-1), 1) := by decide +kernel
theorem dX9_end_13 : decode cX9_end 13 = .ok (.ireturn, 1) := by decide +kernel
theorem dX9_end_14 : decode cX9_end 14 = .ok (.aload_n 0, 1) := by decide +kernel
theorem dX9_end_15 : decode cX9_end 15 = .ok (.iload_n 1, 1) := by decide +kernel
theorem dX9_end_16 : decode cX9_end 16 = .ok (.putfield 172, 3) := by decide +kernel
theorem dX9_end_19 : decode cX9_end 19 = .ok (.iload_n 1, 1) := by decide +kernel
theorem dX9_end_20 : decode cX9_end 20 = .ok (.ireturn, 1) := by decide +kernel
theorem ce_X9_end : CeV RX9 yX9_end cX9_end 2 (some .int) 1 := ⟨tb_555, tb_556, tb_1, tb_557, rfl, by decide, by decide, by decide +kernel⟩
set_option maxHeartbeats 4000000 in
set_option maxRecDepth 20000 in
theorem C_X9_end (l : Launch) (D : va_G) (A : Nat → Prop) (ad : Nat → Nat) (ns : List Nat) (I : MI) (L : ML) (G : MG) (n : Int32) (hG : SGC ns G) : Met l yX9_end (wd yX9_end cX9_end 2 (some .int)) ({ frames := 1, cells := 0, slots := 0, locals := 22 }) (va_Pc [.ref (ad 0), .int n] (PM D A ad ns I L G)) (va_Qi (fun z u => ((0 ≤ n.toInt ∧ n.toInt ≤ (I 0 15).toInt) ∧ z = n ∧ u = (ad, ns, u2 I 0 15 n, L, G)) ∨ (¬ (0 ≤ n.toInt ∧ n.toInt ≤ (I 0 15).toInt) ∧ z = -1 ∧ u = (ad, ns, I, L, G))) (BM D A) A) 0 0 A := by
  refine m_ofW (by decide) (Nat.le_of_ble_eq_true rfl) ?_
  intro p e s m below meth c ls args hC hE hM hA hS hl
  obtain ⟨hx, hb, hml, hown, hts, hr, hlocks, hin⟩ := hC
  have km1 : (-1 : Int32).toInt = -1 := by decide
  have k0 : (0 : Int32).toInt = 0 := by decide
  have hl : lv_has ls 2 [(0, .ref (ad (0))), (1, .int (n))] := hl
  refine lv_iload_n hx hb dX9_end_0 rfl (lv_at hl 1 rfl) ?_
  refine lv_iconst (v := (0)) hx hb dX9_end_1 (by decide) ?_
  refine lv_aload_n hx hb dX9_end_2 rfl (lv_at hl 0 rfl) ?_
  refine m_geti (0) 15 hx hb hts hown hE oc9 hM (hG.1 0 (by decide)) rfl (by decide) rfl tb_413 dX9_end_3 ?_
  refine m_calli (m_runS (As := [.int (n), .int (0), .int (I (0) 15)]) (rest := []) hx hb hml hown hts hE hM hS hA ce_X9_isWithin tb_451 (C_X9_isWithin l D A ad ns I L G (n) (0) (I (0) 15)) rfl rfl ⟨Nat.le_of_ble_eq_true rfl, Nat.le_of_ble_eq_true rfl⟩  rfl hl.1 rfl (Nat.le_of_ble_eq_true rfl) dX9_end_6 ⟨Nat.le_of_ble_eq_true rfl, Nat.le_of_ble_eq_true rfl⟩) hS (fun r1 u H locs hw hM hS => ?_)
  obtain ⟨rfl, b_r1⟩ := hw
  have hM : Mem D A ad ns I L G H := hM
  refine lv_if_ne (tgt := 14) hx hb dX9_end_9 (by decide) (fun c2 => ?_) (fun c2 => ?_)
  · have hc2 := c2
    have q2 := b_r1.t hc2
    refine lv_aload_n hx hb dX9_end_14 rfl (lv_at hl 0 rfl) ?_
    refine lv_iload_n hx hb dX9_end_15 rfl (lv_at hl 1 rfl) ?_
    refine m_puti (0) 15 hx hb hts hown hE oc9 hM hS (hG.1 0 (by decide)) rfl (by decide) rfl rfl rfl rfl tb_413 dX9_end_16 (fun H locs I3 eI3 hM hS => ?_)
    subst eI3
    refine lv_iload_n hx hb dX9_end_19 rfl (lv_at hl 1 rfl) ?_
    exact m_iret hx hb hr hlocks hM hS (Nat.le_of_ble_eq_true rfl) (Nat.le_of_ble_eq_true rfl) (Or.inl ⟨by omega, rfl, rfl⟩) dX9_end_20
  · have hc2 := c2
    have q2 := b_r1.f hc2
    refine lv_iconst (v := (-1)) hx hb dX9_end_12 (by decide) ?_
    exact m_iret hx hb hr hlocks hM hS (Nat.le_of_ble_eq_true rfl) (Nat.le_of_ble_eq_true rfl) (Or.inr ⟨by omega, rfl, rfl⟩) dX9_end_13
theorem dX9_count_0 : decode cX9_count 0 = .ok (.iload_n 1, 1) := by decide +kernel
theorem dX9_count_1 : decode cX9_count 1 = .ok (.bipush 8, 2) := by decide +kernel
theorem dX9_count_3 : decode cX9_count 3 = .ok (.if_icmp .ne 8, 3) := by decide +kernel
theorem dX9_count_6 : decode cX9_count 6 = .ok (.aload_n 0, 1) := by decide +kernel
theorem dX9_count_7 : decode cX9_count 7 = .ok (.getfield 179, 3) := by decide +kernel
theorem dX9_count_10 : decode cX9_count 10 = .ok (.ireturn, 1) := by decide +kernel
theorem dX9_count_11 : decode cX9_count 11 = .ok (.iload_n 1, 1) := by decide +kernel
theorem dX9_count_12 : decode cX9_count 12 = .ok (.bipush 9, 2) := by decide +kernel
theorem dX9_count_14 : decode cX9_count 14 = .ok (.if_icmp .ne 8, 3) := by decide +kernel
theorem dX9_count_17 : decode cX9_count 17 = .ok (.aload_n 0, 1) := by decide +kernel
theorem dX9_count_18 : decode cX9_count 18 = .ok (.getfield 172, 3) := by decide +kernel
theorem dX9_count_21 : decode cX9_count 21 = .ok (.ireturn, 1) := by decide +kernel
theorem dX9_count_22 : decode cX9_count 22 = .ok (.aload_n 0, 1) := by decide +kernel
theorem dX9_count_23 : decode cX9_count 23 = .ok (.getfield 10, 3) := by decide +kernel
theorem dX9_count_26 : decode cX9_count 26 = .ok (.invokevirtual 111, 3) := by decide +kernel
theorem dX9_count_29 : decode cX9_count 29 = .ok (.ifCond .eq 11, 3) := by decide +kernel
theorem dX9_count_40 : decode cX9_count 40 = .ok (.iconst (-1), 1) := by decide +kernel
theorem dX9_count_41 : decode cX9_count 41 = .ok (.ireturn, 1) := by decide +kernel
theorem ce_X9_count : CeV RX9 yX9_count cX9_count 2 (some .int) 1 := ⟨tb_1157, tb_1158, tb_1, tb_1159, rfl, by decide, by decide, by decide +kernel⟩
set_option maxHeartbeats 4000000 in
set_option maxRecDepth 20000 in
theorem F_X9_count (l : Launch) (D : va_G) (A : Nat → Prop) (ad : Nat → Nat) (ns : List Nat) (I : MI) (L : ML) (G : MG) (a : Int32) (hG : SGC ns G) (hI : ∀ n k, n < 1000 → I n k = 0) : Met l yX9_count (wd yX9_count cX9_count 2 (some .int)) ({ frames := 1, cells := 0, slots := 0, locals := 20 }) (va_Pc [.ref (ad 0), .int a] (PM D A ad ns I L G)) (va_Qi (fun z u => u = (ad, ns, I, L, G) ∧ (((a.toInt = 8 ∨ a.toInt = 9) ∧ z = 0) ∨ (¬ (a.toInt = 8 ∨ a.toInt = 9) ∧ z = -1))) (BM D A) A) 0 0 A := by
  refine m_ofW (by decide) (Nat.le_of_ble_eq_true rfl) ?_
  intro p e s m below meth c ls args hC hE hM hA hS hl
  obtain ⟨hx, hb, hml, hown, hts, hr, hlocks, hin⟩ := hC
  have km1 : (-1 : Int32).toInt = -1 := by decide
  have k0 : (0 : Int32).toInt = 0 := by decide
  have k8 : (8 : Int32).toInt = 8 := by decide
  have k9 : (9 : Int32).toInt = 9 := by decide
  have hl : lv_has ls 2 [(0, .ref (ad (0))), (1, .int (a))] := hl
  refine lv_iload_n hx hb dX9_count_0 rfl (lv_at hl 1 rfl) ?_
  refine lv_bipush (v := (8)) hx hb dX9_count_1 (by decide) ?_
  refine lv_icmp_ne (tgt := 11) hx hb dX9_count_3 (by decide) (fun c1 => ?_) (fun c1 => ?_)
  · have hc1 := c1
    have q1 := q_ne hc1
    refine lv_iload_n hx hb dX9_count_11 rfl (lv_at hl 1 rfl) ?_
    refine lv_bipush (v := (9)) hx hb dX9_count_12 (by decide) ?_
    refine lv_icmp_ne (tgt := 22) hx hb dX9_count_14 (by decide) (fun c2 => ?_) (fun c2 => ?_)
    · have hc2 := c2
      have q2 := q_ne hc2
      refine lv_aload_n hx hb dX9_count_22 rfl (lv_at hl 0 rfl) ?_
      refine m_getr (0) 0 (100) hx hb hts hown hE oc9 hM (hG.1 0 (by decide)) rfl (by decide) rfl (hG.2 (0, 0, 100) (by decide)) (by decide) tb_398 dX9_count_23 ?_
      refine m_calli (m_runV (100) (As := []) (rest := []) hx hb hml hown hts hE hM hS hA ce_X8_isBegun tb_484 (C_X8_isBegun l D A ad ns I L G (100) hG.t0) rfl rfl ⟨Nat.le_of_ble_eq_true rfl, Nat.le_of_ble_eq_true rfl⟩ (hG.1 100 (by decide)) rfl rfl (by decide) rfl hl.1 rfl (Nat.le_of_ble_eq_true rfl) dX9_count_26 ⟨Nat.le_of_ble_eq_true rfl, Nat.le_of_ble_eq_true rfl⟩) hS (fun r3 u H locs hw hM hS => ?_)
      obtain ⟨rfl, b_r3⟩ := hw
      have hM : Mem D A ad ns I L G H := hM
      obtain rfl : r3 = 0 := b_r3.z (by rw [hI 100 0 (by decide)]; omega)
      refine lv_if_eq (tgt := 40) hx hb dX9_count_29 (by decide) (fun c4 => ?_) (fun c4 => ?_)
      · have hc4 := c4
        have q4 := q_eq hc4
        refine lv_iconst (v := (-1)) hx hb dX9_count_40 (by decide) ?_
        exact m_iret hx hb hr hlocks hM hS (Nat.le_of_ble_eq_true rfl) (Nat.le_of_ble_eq_true rfl) ⟨rfl, Or.inr ⟨by omega, rfl⟩⟩ dX9_count_41
      · exact absurd c4 (by decide)
    · have hc2 := c2
      have q2 := q_eq hc2
      refine lv_aload_n hx hb dX9_count_17 rfl (lv_at hl 0 rfl) ?_
      refine m_geti (0) 15 hx hb hts hown hE oc9 hM (hG.1 0 (by decide)) rfl (by decide) rfl tb_413 dX9_count_18 ?_
      rw [show I (0) 15 = 0 from by simp [u2_v, fillI, cpyI, hI]]
      exact m_iret hx hb hr hlocks hM hS (Nat.le_of_ble_eq_true rfl) (Nat.le_of_ble_eq_true rfl) ⟨rfl, Or.inl ⟨by omega, rfl⟩⟩ dX9_count_21
  · have hc1 := c1
    have q1 := q_eq hc1
    refine lv_aload_n hx hb dX9_count_6 rfl (lv_at hl 0 rfl) ?_
    refine m_geti (0) 14 hx hb hts hown hE oc9 hM (hG.1 0 (by decide)) rfl (by decide) rfl tb_412 dX9_count_7 ?_
    rw [show I (0) 14 = 0 from by simp [u2_v, fillI, cpyI, hI]]
    exact m_iret hx hb hr hlocks hM hS (Nat.le_of_ble_eq_true rfl) (Nat.le_of_ble_eq_true rfl) ⟨rfl, Or.inl ⟨by omega, rfl⟩⟩ dX9_count_10
