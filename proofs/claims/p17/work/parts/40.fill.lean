theorem dJ7_fill_53178_0 : decode cJ7_fill_53178 0 = .ok (.iconst 0, 1) := by decide +kernel
theorem dJ7_fill_53178_1 : decode cJ7_fill_53178 1 = .ok (.istore_n 2, 1) := by decide +kernel
theorem dJ7_fill_53178_2 : decode cJ7_fill_53178 2 = .ok (.aload_n 0, 1) := by decide +kernel
theorem dJ7_fill_53178_3 : decode cJ7_fill_53178 3 = .ok (.arraylength, 1) := by decide +kernel
theorem dJ7_fill_53178_4 : decode cJ7_fill_53178 4 = .ok (.istore_n 3, 1) := by decide +kernel
theorem dJ7_fill_53178_5 : decode cJ7_fill_53178 5 = .ok (.iload_n 2, 1) := by decide +kernel
theorem dJ7_fill_53178_6 : decode cJ7_fill_53178 6 = .ok (.iload_n 3, 1) := by decide +kernel
theorem dJ7_fill_53178_7 : decode cJ7_fill_53178 7 = .ok (.if_icmp .ge 13, 3) := by decide +kernel
theorem dJ7_fill_53178_10 : decode cJ7_fill_53178 10 = .ok (.aload_n 0, 1) := by decide +kernel
theorem dJ7_fill_53178_11 : decode cJ7_fill_53178 11 = .ok (.iload_n 2, 1) := by decide +kernel
theorem dJ7_fill_53178_12 : decode cJ7_fill_53178 12 = .ok (.iload_n 1, 1) := by decide +kernel
theorem dJ7_fill_53178_13 : decode cJ7_fill_53178 13 = .ok (.iastore, 1) := by decide +kernel
theorem dJ7_fill_53178_14 : decode cJ7_fill_53178 14 = .ok (.iinc 2 1, 3) := by decide +kernel
theorem dJ7_fill_53178_17 : decode cJ7_fill_53178 17 = .ok (.goto (-12), 3) := by decide +kernel
theorem dJ7_fill_53178_20 : decode cJ7_fill_53178 20 = .ok (.return_, 1) := by decide +kernel
theorem ce_J7_fill_53178 : CeS yJ7_fill_53178 cJ7_fill_53178 4 none 2 := ⟨tb_459, tb_12, tb_460, by decide, by decide, by decide +kernel⟩
set_option maxHeartbeats 4000000 in
set_option maxRecDepth 20000 in
theorem C_J7_fill_53178 (l : Launch) (D : va_G) (A : Nat → Prop) (ad : Nat → Nat) (ns : List Nat) (I : MI) (L : ML) (G : MG) (x : Nat) (N : Nat) (v : Int32) (hn : x ∈ ns) (hk : kd x = (20, N)) (hN : N < 100000) : Met l yJ7_fill_53178 (wd yJ7_fill_53178 cJ7_fill_53178 4 none) ({ frames := 0, cells := 0, slots := 0, locals := 0 }) (va_Pc [.ref (ad x), .int v] (PM D A ad ns I L G)) (va_Qv (fun u => u = (ad, ns, fillI I x N v, L, G)) (BM D A) A) 0 0 A := by
  refine m_ofW (by decide) (Nat.le_of_ble_eq_true rfl) ?_
  intro p e s m below meth c ls args hC hE hM hA hS hl
  obtain ⟨hx, hb, hml, hown, hts, hr, hlocks, hin⟩ := hC
  have k0 : (0 : Int32).toInt = 0 := by decide
  have kN : (Int32.ofNat N).toInt = N := nI_toInt (by omega)
  have hl : lv_has ls 4 [(0, .ref (ad (x))), (1, .int (v))] := hl
  refine lv_iconst (v := (0)) hx hb dJ7_fill_53178_0 (by decide) ?_
  refine lv_istore_n (lv' := [(2, .int (0)), (0, .ref (ad (x))), (1, .int (v))]) hx hb dJ7_fill_53178_1 rfl hl (by decide) rfl (fun ls hl => ?_)
  refine lv_aload_n hx hb dJ7_fill_53178_2 rfl (lv_at hl 1 rfl) ?_
  refine m_alen x (t0 := 0) (v := Int32.ofNat N) hx hb hE hM hn hk (by decide) rfl rfl dJ7_fill_53178_3 ?_
  refine lv_istore_n (lv' := [(3, .int (Int32.ofNat N)), (2, .int (0)), (0, .ref (ad (x))), (1, .int (v))]) hx hb dJ7_fill_53178_4 rfl hl (by decide) rfl (fun ls hl => ?_)
  have loop5 : ∀ (n : Nat) (i : Int32) (Ia : MI) (H : Heap) (locs : List Loc) (ls : Array Slot), (0 ≤ i.toInt ∧ i.toInt ≤ N) → (Ia = fillI I x i.toNatClampNeg v) → (N - i.toInt).toNat < n → Mem D A ad ns Ia L G H → va_S A s.heap H locs → lv_has ls 4 [(0, .ref (ad (x))), (1, .int (v)), (2, .int (i)), (3, .int (Int32.ofNat N))] → W p l e ({ frames := 0, cells := 0, slots := 0, locals := 0 } : Room) s m args below meth c H locs 0 0 (MQ below (va_Qv (fun u => u = (ad, ns, fillI I x N v, L, G)) (BM D A) A) args s 0 0 A) (F0 m 5 ls []) := by
    intro n
    induction n with
    | zero =>
      intro i Ia H locs ls h1 h2 hmu
      exact absurd hmu (Nat.not_lt_zero _)
    | succ n ih5 =>
      intro i Ia H locs ls h1 h2 hmu5 hM hS hl
      refine lv_iload_n hx hb dJ7_fill_53178_5 rfl (lv_at hl 2 rfl) ?_
      refine lv_iload_n hx hb dJ7_fill_53178_6 rfl (lv_at hl 3 rfl) ?_
      refine lv_icmp_ge (tgt := 20) hx hb dJ7_fill_53178_7 (by decide) (fun c1 => ?_) (fun c1 => ?_)
      · have hc1 := c1
        have q1 := q_le hc1
        exact m_vret hx hb hr hlocks hM hS (Nat.le_of_ble_eq_true rfl) (Nat.le_of_ble_eq_true rfl) (by rw [h2, tn_n (i := i) (n := N) (by omega)]) dJ7_fill_53178_20
      · have hc1 := c1
        have q1 := q_nle hc1
        refine lv_aload_n hx hb dJ7_fill_53178_10 rfl (lv_at hl 0 rfl) ?_
        refine lv_iload_n hx hb dJ7_fill_53178_11 rfl (lv_at hl 2 rfl) ?_
        refine lv_iload_n hx hb dJ7_fill_53178_12 rfl (lv_at hl 1 rfl) ?_
        refine m_iast (x) hx hb hE hM hS hn hk (vp_in_iff.mpr (by omega)) dJ7_fill_53178_13 (fun H locs I2 eI2 hM hS => ?_)
        subst eI2
        obtain ⟨v3, ev3⟩ : ∃ z : Int32, z = i + Int32.ofInt (1) := ⟨_, rfl⟩
        have tv3 := a_inc ev3 (by decide) (by omega) (by omega)
        refine lv_iinc (v := v3) (lv' := [(2, .int (v3)), (0, .ref (ad (x))), (1, .int (v)), (3, .int (Int32.ofNat N))]) hx hb dJ7_fill_53178_14 hl (k := 2) rfl ev3.symm (by decide) rfl (fun ls hl => ?_)
        refine lv_goto (tgt := 5) hx hb dJ7_fill_53178_17 (by decide) ?_
        exact ih5 (v3) (u2 Ia (x) ((i).toNatClampNeg) (v)) H locs ls (by omega) (by rw [h2, fillI_s, tn_s h1.1 tv3]) (by omega) hM hS (lv_sub hl [1, 2, 0, 3] rfl)
  exact loop5 (_ + 1) (0) I _ _ ls ⟨by decide, by omega⟩ ((fillI_0 I x v).symm) (Nat.lt_succ_self _) hM hS (lv_sub hl [2, 3, 1, 0] rfl)
def beginI (I : MI) (b : Nat) (c r x y a : Int32) : MI := fillI (fillI (fillI (fillI (fillI (fillI (u2 (u2 (u2 (u2 (u2 (u2 (u2 (u2 (u2 (u2 I b 0 c) b 1 r) b 2 x) b 3 y) b 4 a) b 5 0) b 6 0) b 7 0) b 8 0) b 9 0) (b + 1) 576 0) (b + 2) 576 (-1)) (b + 3) 576 (-1)) (b + 4) 576 (-1)) (b + 5) 288 (-1)) (b + 6) 288 0
theorem dX8_begin_0 : decode cX8_begin 0 = .ok (.aload_n 0, 1) := by decide +kernel
theorem dX8_begin_1 : decode cX8_begin 1 = .ok (.iload_n 1, 1) := by decide +kernel
theorem dX8_begin_2 : decode cX8_begin 2 = .ok (.putfield 36, 3) := by decide +kernel
theorem dX8_begin_5 : decode cX8_begin 5 = .ok (.aload_n 0, 1) := by decide +kernel
theorem dX8_begin_6 : decode cX8_begin 6 = .ok (.iload_n 2, 1) := by decide +kernel
theorem dX8_begin_7 : decode cX8_begin 7 = .ok (.putfield 40, 3) := by decide +kernel
theorem dX8_begin_10 : decode cX8_begin 10 = .ok (.aload_n 0, 1) := by decide +kernel
theorem dX8_begin_11 : decode cX8_begin 11 = .ok (.iload_n 3, 1) := by decide +kernel
theorem dX8_begin_12 : decode cX8_begin 12 = .ok (.putfield 43, 3) := by decide +kernel
theorem dX8_begin_15 : decode cX8_begin 15 = .ok (.aload_n 0, 1) := by decide +kernel
theorem dX8_begin_16 : decode cX8_begin 16 = .ok (.iload 4, 2) := by decide +kernel
theorem dX8_begin_18 : decode cX8_begin 18 = .ok (.putfield 46, 3) := by decide +kernel
theorem dX8_begin_21 : decode cX8_begin 21 = .ok (.aload_n 0, 1) := by decide +kernel
theorem dX8_begin_22 : decode cX8_begin 22 = .ok (.iload 5, 2) := by decide +kernel
theorem dX8_begin_24 : decode cX8_begin 24 = .ok (.putfield 49, 3) := by decide +kernel
theorem dX8_begin_27 : decode cX8_begin 27 = .ok (.aload_n 0, 1) := by decide +kernel
theorem dX8_begin_28 : decode cX8_begin 28 = .ok (.iconst 0, 1) := by decide +kernel
theorem dX8_begin_29 : decode cX8_begin 29 = .ok (.putfield 52, 3) := by decide +kernel
theorem dX8_begin_32 : decode cX8_begin 32 = .ok (.aload_n 0, 1) := by decide +kernel
theorem dX8_begin_33 : decode cX8_begin 33 = .ok (.iconst 0, 1) := by decide +kernel
theorem dX8_begin_34 : decode cX8_begin 34 = .ok (.putfield 55, 3) := by decide +kernel
theorem dX8_begin_37 : decode cX8_begin 37 = .ok (.aload_n 0, 1) := by decide +kernel
theorem dX8_begin_38 : decode cX8_begin 38 = .ok (.iconst 0, 1) := by decide +kernel
theorem dX8_begin_39 : decode cX8_begin 39 = .ok (.putfield 58, 3) := by decide +kernel
theorem dX8_begin_42 : decode cX8_begin 42 = .ok (.aload_n 0, 1) := by decide +kernel
theorem dX8_begin_43 : decode cX8_begin 43 = .ok (.iconst 0, 1) := by decide +kernel
theorem dX8_begin_44 : decode cX8_begin 44 = .ok (.putfield 61, 3) := by decide +kernel
theorem dX8_begin_47 : decode cX8_begin 47 = .ok (.aload_n 0, 1) := by decide +kernel
theorem dX8_begin_48 : decode cX8_begin 48 = .ok (.iconst 0, 1) := by decide +kernel
theorem dX8_begin_49 : decode cX8_begin 49 = .ok (.putfield 64, 3) := by decide +kernel
theorem dX8_begin_52 : decode cX8_begin 52 = .ok (.aload_n 0, 1) := by decide +kernel
theorem dX8_begin_53 : decode cX8_begin 53 = .ok (.getfield 9, 3) := by decide +kernel
theorem dX8_begin_56 : decode cX8_begin 56 = .ok (.iconst 0, 1) := by decide +kernel
theorem dX8_begin_57 : decode cX8_begin 57 = .ok (.invokestatic 67, 3) := by decide +kernel
theorem dX8_begin_60 : decode cX8_begin 60 = .ok (.aload_n 0, 1) := by decide +kernel
theorem dX8_begin_61 : decode cX8_begin 61 = .ok (.getfield 15, 3) := by decide +kernel
theorem dX8_begin_64 : decode cX8_begin 64 = .ok (.iconst (-1), 1) := by decide +kernel
theorem dX8_begin_65 : decode cX8_begin 65 = .ok (.invokestatic 67, 3) := by decide +kernel
theorem dX8_begin_68 : decode cX8_begin 68 = .ok (.aload_n 0, 1) := by decide +kernel
theorem dX8_begin_69 : decode cX8_begin 69 = .ok (.getfield 18, 3) := by decide +kernel
theorem dX8_begin_72 : decode cX8_begin 72 = .ok (.iconst (-1), 1) := by decide +kernel
theorem dX8_begin_73 : decode cX8_begin 73 = .ok (.invokestatic 67, 3) := by decide +kernel
theorem dX8_begin_76 : decode cX8_begin 76 = .ok (.aload_n 0, 1) := by decide +kernel
theorem dX8_begin_77 : decode cX8_begin 77 = .ok (.getfield 21, 3) := by decide +kernel
theorem dX8_begin_80 : decode cX8_begin 80 = .ok (.iconst (-1), 1) := by decide +kernel
theorem dX8_begin_81 : decode cX8_begin 81 = .ok (.invokestatic 67, 3) := by decide +kernel
theorem dX8_begin_84 : decode cX8_begin 84 = .ok (.aload_n 0, 1) := by decide +kernel
theorem dX8_begin_85 : decode cX8_begin 85 = .ok (.getfield 24, 3) := by decide +kernel
theorem dX8_begin_88 : decode cX8_begin 88 = .ok (.iconst (-1), 1) := by decide +kernel
theorem dX8_begin_89 : decode cX8_begin 89 = .ok (.invokestatic 67, 3) := by decide +kernel
theorem dX8_begin_92 : decode cX8_begin 92 = .ok (.aload_n 0, 1) := by decide +kernel
theorem dX8_begin_93 : decode cX8_begin 93 = .ok (.getfield 27, 3) := by decide +kernel
theorem dX8_begin_96 : decode cX8_begin 96 = .ok (.iconst 0, 1) := by decide +kernel
theorem dX8_begin_97 : decode cX8_begin 97 = .ok (.invokestatic 67, 3) := by decide +kernel
theorem dX8_begin_100 : decode cX8_begin 100 = .ok (.return_, 1) := by decide +kernel
theorem ce_X8_begin : CeV RX8 yX8_begin cX8_begin 6 none 5 := ⟨tb_455, tb_456, tb_2, tb_457, rfl, by decide, by decide, by decide +kernel⟩
set_option maxHeartbeats 4000000 in
set_option maxRecDepth 20000 in
theorem C_X8_begin (l : Launch) (D : va_G) (A : Nat → Prop) (ad : Nat → Nat) (ns : List Nat) (I : MI) (L : ML) (G : MG) (b : Nat) (w : Int32) (h : Int32) (x : Int32) (y : Int32) (a : Int32) (hT : TOK ns G b) : Met l yX8_begin (wd yX8_begin cX8_begin 6 none) ({ frames := 1, cells := 0, slots := 0, locals := 23 }) (va_Pc [.ref (ad b), .int w, .int h, .int x, .int y, .int a] (PM D A ad ns I L G)) (va_Qv (fun u => u = (ad, ns, beginI I b w h x y a, L, G)) (BM D A) A) 0 0 A := by
  refine m_ofW (by decide) (Nat.le_of_ble_eq_true rfl) ?_
  intro p e s m below meth c ls args hC hE hM hA hS hl
  obtain ⟨hx, hb, hml, hown, hts, hr, hlocks, hin⟩ := hC
  have km1 : (-1 : Int32).toInt = -1 := by decide
  have k0 : (0 : Int32).toInt = 0 := by decide
  have hl : lv_has ls 6 [(0, .ref (ad (b))), (1, .int (w)), (2, .int (h)), (3, .int (x)), (4, .int (y)), (5, .int (a))] := hl
  refine lv_aload_n hx hb dX8_begin_0 rfl (lv_at hl 0 rfl) ?_
  refine lv_iload_n hx hb dX8_begin_1 rfl (lv_at hl 1 rfl) ?_
  refine m_puti (b) 0 hx hb hts hown hE oc8 hM hS hT.l (kT _ hT.1).1 (by decide) rfl rfl rfl rfl tb_34 dX8_begin_2 (fun H locs I1 eI1 hM hS => ?_)
  subst eI1
  refine lv_aload_n hx hb dX8_begin_5 rfl (lv_at hl 0 rfl) ?_
  refine lv_iload_n hx hb dX8_begin_6 rfl (lv_at hl 2 rfl) ?_
  refine m_puti (b) 1 hx hb hts hown hE oc8 hM hS hT.l (kT _ hT.1).1 (by decide) rfl rfl rfl rfl tb_37 dX8_begin_7 (fun H locs I2 eI2 hM hS => ?_)
  subst eI2
  refine lv_aload_n hx hb dX8_begin_10 rfl (lv_at hl 0 rfl) ?_
  refine lv_iload_n hx hb dX8_begin_11 rfl (lv_at hl 3 rfl) ?_
  refine m_puti (b) 2 hx hb hts hown hE oc8 hM hS hT.l (kT _ hT.1).1 (by decide) rfl rfl rfl rfl tb_41 dX8_begin_12 (fun H locs I3 eI3 hM hS => ?_)
  subst eI3
  refine lv_aload_n hx hb dX8_begin_15 rfl (lv_at hl 0 rfl) ?_
  refine lv_iload hx hb dX8_begin_16 (lv_at hl 4 rfl) ?_
  refine m_puti (b) 3 hx hb hts hown hE oc8 hM hS hT.l (kT _ hT.1).1 (by decide) rfl rfl rfl rfl tb_45 dX8_begin_18 (fun H locs I4 eI4 hM hS => ?_)
  subst eI4
  refine lv_aload_n hx hb dX8_begin_21 rfl (lv_at hl 0 rfl) ?_
  refine lv_iload hx hb dX8_begin_22 (lv_at hl 5 rfl) ?_
  refine m_puti (b) 4 hx hb hts hown hE oc8 hM hS hT.l (kT _ hT.1).1 (by decide) rfl rfl rfl rfl tb_48 dX8_begin_24 (fun H locs I5 eI5 hM hS => ?_)
  subst eI5
  refine lv_aload_n hx hb dX8_begin_27 rfl (lv_at hl 0 rfl) ?_
  refine lv_iconst (v := (0)) hx hb dX8_begin_28 (by decide) ?_
  refine m_puti (b) 5 hx hb hts hown hE oc8 hM hS hT.l (kT _ hT.1).1 (by decide) rfl rfl rfl rfl tb_51 dX8_begin_29 (fun H locs I6 eI6 hM hS => ?_)
  subst eI6
  refine lv_aload_n hx hb dX8_begin_32 rfl (lv_at hl 0 rfl) ?_
  refine lv_iconst (v := (0)) hx hb dX8_begin_33 (by decide) ?_
  refine m_puti (b) 6 hx hb hts hown hE oc8 hM hS hT.l (kT _ hT.1).1 (by decide) rfl rfl rfl rfl tb_54 dX8_begin_34 (fun H locs I7 eI7 hM hS => ?_)
  subst eI7
  refine lv_aload_n hx hb dX8_begin_37 rfl (lv_at hl 0 rfl) ?_
  refine lv_iconst (v := (0)) hx hb dX8_begin_38 (by decide) ?_
  refine m_puti (b) 7 hx hb hts hown hE oc8 hM hS hT.l (kT _ hT.1).1 (by decide) rfl rfl rfl rfl tb_57 dX8_begin_39 (fun H locs I8 eI8 hM hS => ?_)
  subst eI8
  refine lv_aload_n hx hb dX8_begin_42 rfl (lv_at hl 0 rfl) ?_
  refine lv_iconst (v := (0)) hx hb dX8_begin_43 (by decide) ?_
  refine m_puti (b) 8 hx hb hts hown hE oc8 hM hS hT.l (kT _ hT.1).1 (by decide) rfl rfl rfl rfl tb_59 dX8_begin_44 (fun H locs I9 eI9 hM hS => ?_)
  subst eI9
  refine lv_aload_n hx hb dX8_begin_47 rfl (lv_at hl 0 rfl) ?_
  refine lv_iconst (v := (0)) hx hb dX8_begin_48 (by decide) ?_
  refine m_puti (b) 9 hx hb hts hown hE oc8 hM hS hT.l (kT _ hT.1).1 (by decide) rfl rfl rfl rfl tb_63 dX8_begin_49 (fun H locs I10 eI10 hM hS => ?_)
  subst eI10
  refine lv_aload_n hx hb dX8_begin_52 rfl (lv_at hl 0 rfl) ?_
  refine m_getr (b) 10 (b + 1) hx hb hts hown hE oc8 hM hT.l (kT _ hT.1).1 (by decide) rfl (hT.2.2 0 (by decide)) (by omega) tb_66 dX8_begin_53 ?_
  refine lv_iconst (v := (0)) hx hb dX8_begin_56 (by decide) ?_
  refine m_callv (m_runS (As := [.ref (ad (b + 1)), .int (0)]) (rest := []) hx hb hml hown hts hE hM hS hA ce_J7_fill_53178 tb_458 (C_J7_fill_53178 l D A ad ns (u2 (u2 (u2 (u2 (u2 (u2 (u2 (u2 (u2 (u2 I (b) 0 (w)) (b) 1 (h)) (b) 2 (x)) (b) 3 (y)) (b) 4 (a)) (b) 5 (0)) (b) 6 (0)) (b) 7 (0)) (b) 8 (0)) (b) 9 (0)) L G (b + 1) 576 (0) (hT.2.1 1 (by decide)) (kT _ hT.1).2.1 (by decide)) rfl rfl ⟨Nat.le_of_ble_eq_true rfl, Nat.le_of_ble_eq_true rfl⟩  rfl hl.1 rfl (Nat.le_of_ble_eq_true rfl) dX8_begin_57 ⟨Nat.le_of_ble_eq_true rfl, Nat.le_of_ble_eq_true rfl⟩) hS (fun u H locs hw hM hS => ?_)
  subst hw
  have hM : Mem D A ad ns (fillI (u2 (u2 (u2 (u2 (u2 (u2 (u2 (u2 (u2 (u2 I (b) 0 (w)) (b) 1 (h)) (b) 2 (x)) (b) 3 (y)) (b) 4 (a)) (b) 5 (0)) (b) 6 (0)) (b) 7 (0)) (b) 8 (0)) (b) 9 (0)) (b + 1) 576 (0)) L G H := hM
  refine lv_aload_n hx hb dX8_begin_60 rfl (lv_at hl 0 rfl) ?_
  refine m_getr (b) 11 (b + 2) hx hb hts hown hE oc8 hM hT.l (kT _ hT.1).1 (by decide) rfl (hT.2.2 1 (by decide)) (by omega) tb_68 dX8_begin_61 ?_
  refine lv_iconst (v := (-1)) hx hb dX8_begin_64 (by decide) ?_
  refine m_callv (m_runS (As := [.ref (ad (b + 2)), .int ((-1 : Int32))]) (rest := []) hx hb hml hown hts hE hM hS hA ce_J7_fill_53178 tb_458 (C_J7_fill_53178 l D A ad ns (fillI (u2 (u2 (u2 (u2 (u2 (u2 (u2 (u2 (u2 (u2 I (b) 0 (w)) (b) 1 (h)) (b) 2 (x)) (b) 3 (y)) (b) 4 (a)) (b) 5 (0)) (b) 6 (0)) (b) 7 (0)) (b) 8 (0)) (b) 9 (0)) (b + 1) 576 (0)) L G (b + 2) 576 ((-1 : Int32)) (hT.2.1 2 (by decide)) (kT _ hT.1).2.2.1 (by decide)) rfl rfl ⟨Nat.le_of_ble_eq_true rfl, Nat.le_of_ble_eq_true rfl⟩  rfl hl.1 rfl (Nat.le_of_ble_eq_true rfl) dX8_begin_65 ⟨Nat.le_of_ble_eq_true rfl, Nat.le_of_ble_eq_true rfl⟩) hS (fun u H locs hw hM hS => ?_)
  subst hw
  have hM : Mem D A ad ns (fillI (fillI (u2 (u2 (u2 (u2 (u2 (u2 (u2 (u2 (u2 (u2 I (b) 0 (w)) (b) 1 (h)) (b) 2 (x)) (b) 3 (y)) (b) 4 (a)) (b) 5 (0)) (b) 6 (0)) (b) 7 (0)) (b) 8 (0)) (b) 9 (0)) (b + 1) 576 (0)) (b + 2) 576 ((-1 : Int32))) L G H := hM
  refine lv_aload_n hx hb dX8_begin_68 rfl (lv_at hl 0 rfl) ?_
  refine m_getr (b) 12 (b + 3) hx hb hts hown hE oc8 hM hT.l (kT _ hT.1).1 (by decide) rfl (hT.2.2 2 (by decide)) (by omega) tb_71 dX8_begin_69 ?_
  refine lv_iconst (v := (-1)) hx hb dX8_begin_72 (by decide) ?_
  refine m_callv (m_runS (As := [.ref (ad (b + 3)), .int ((-1 : Int32))]) (rest := []) hx hb hml hown hts hE hM hS hA ce_J7_fill_53178 tb_458 (C_J7_fill_53178 l D A ad ns (fillI (fillI (u2 (u2 (u2 (u2 (u2 (u2 (u2 (u2 (u2 (u2 I (b) 0 (w)) (b) 1 (h)) (b) 2 (x)) (b) 3 (y)) (b) 4 (a)) (b) 5 (0)) (b) 6 (0)) (b) 7 (0)) (b) 8 (0)) (b) 9 (0)) (b + 1) 576 (0)) (b + 2) 576 ((-1 : Int32))) L G (b + 3) 576 ((-1 : Int32)) (hT.2.1 3 (by decide)) (kT _ hT.1).2.2.2.1 (by decide)) rfl rfl ⟨Nat.le_of_ble_eq_true rfl, Nat.le_of_ble_eq_true rfl⟩  rfl hl.1 rfl (Nat.le_of_ble_eq_true rfl) dX8_begin_73 ⟨Nat.le_of_ble_eq_true rfl, Nat.le_of_ble_eq_true rfl⟩) hS (fun u H locs hw hM hS => ?_)
  subst hw
  have hM : Mem D A ad ns (fillI (fillI (fillI (u2 (u2 (u2 (u2 (u2 (u2 (u2 (u2 (u2 (u2 I (b) 0 (w)) (b) 1 (h)) (b) 2 (x)) (b) 3 (y)) (b) 4 (a)) (b) 5 (0)) (b) 6 (0)) (b) 7 (0)) (b) 8 (0)) (b) 9 (0)) (b + 1) 576 (0)) (b + 2) 576 ((-1 : Int32))) (b + 3) 576 ((-1 : Int32))) L G H := hM
  refine lv_aload_n hx hb dX8_begin_76 rfl (lv_at hl 0 rfl) ?_
  refine m_getr (b) 13 (b + 4) hx hb hts hown hE oc8 hM hT.l (kT _ hT.1).1 (by decide) rfl (hT.2.2 3 (by decide)) (by omega) tb_75 dX8_begin_77 ?_
  refine lv_iconst (v := (-1)) hx hb dX8_begin_80 (by decide) ?_
  refine m_callv (m_runS (As := [.ref (ad (b + 4)), .int ((-1 : Int32))]) (rest := []) hx hb hml hown hts hE hM hS hA ce_J7_fill_53178 tb_458 (C_J7_fill_53178 l D A ad ns (fillI (fillI (fillI (u2 (u2 (u2 (u2 (u2 (u2 (u2 (u2 (u2 (u2 I (b) 0 (w)) (b) 1 (h)) (b) 2 (x)) (b) 3 (y)) (b) 4 (a)) (b) 5 (0)) (b) 6 (0)) (b) 7 (0)) (b) 8 (0)) (b) 9 (0)) (b + 1) 576 (0)) (b + 2) 576 ((-1 : Int32))) (b + 3) 576 ((-1 : Int32))) L G (b + 4) 576 ((-1 : Int32)) (hT.2.1 4 (by decide)) (kT _ hT.1).2.2.2.2.1 (by decide)) rfl rfl ⟨Nat.le_of_ble_eq_true rfl, Nat.le_of_ble_eq_true rfl⟩  rfl hl.1 rfl (Nat.le_of_ble_eq_true rfl) dX8_begin_81 ⟨Nat.le_of_ble_eq_true rfl, Nat.le_of_ble_eq_true rfl⟩) hS (fun u H locs hw hM hS => ?_)
  subst hw
  have hM : Mem D A ad ns (fillI (fillI (fillI (fillI (u2 (u2 (u2 (u2 (u2 (u2 (u2 (u2 (u2 (u2 I (b) 0 (w)) (b) 1 (h)) (b) 2 (x)) (b) 3 (y)) (b) 4 (a)) (b) 5 (0)) (b) 6 (0)) (b) 7 (0)) (b) 8 (0)) (b) 9 (0)) (b + 1) 576 (0)) (b + 2) 576 ((-1 : Int32))) (b + 3) 576 ((-1 : Int32))) (b + 4) 576 ((-1 : Int32))) L G H := hM
  refine lv_aload_n hx hb dX8_begin_84 rfl (lv_at hl 0 rfl) ?_
  refine m_getr (b) 14 (b + 5) hx hb hts hown hE oc8 hM hT.l (kT _ hT.1).1 (by decide) rfl (hT.2.2 4 (by decide)) (by omega) tb_78 dX8_begin_85 ?_
  refine lv_iconst (v := (-1)) hx hb dX8_begin_88 (by decide) ?_
  refine m_callv (m_runS (As := [.ref (ad (b + 5)), .int ((-1 : Int32))]) (rest := []) hx hb hml hown hts hE hM hS hA ce_J7_fill_53178 tb_458 (C_J7_fill_53178 l D A ad ns (fillI (fillI (fillI (fillI (u2 (u2 (u2 (u2 (u2 (u2 (u2 (u2 (u2 (u2 I (b) 0 (w)) (b) 1 (h)) (b) 2 (x)) (b) 3 (y)) (b) 4 (a)) (b) 5 (0)) (b) 6 (0)) (b) 7 (0)) (b) 8 (0)) (b) 9 (0)) (b + 1) 576 (0)) (b + 2) 576 ((-1 : Int32))) (b + 3) 576 ((-1 : Int32))) (b + 4) 576 ((-1 : Int32))) L G (b + 5) 288 ((-1 : Int32)) (hT.2.1 5 (by decide)) (kT _ hT.1).2.2.2.2.2.1 (by decide)) rfl rfl ⟨Nat.le_of_ble_eq_true rfl, Nat.le_of_ble_eq_true rfl⟩  rfl hl.1 rfl (Nat.le_of_ble_eq_true rfl) dX8_begin_89 ⟨Nat.le_of_ble_eq_true rfl, Nat.le_of_ble_eq_true rfl⟩) hS (fun u H locs hw hM hS => ?_)
  subst hw
  have hM : Mem D A ad ns (fillI (fillI (fillI (fillI (fillI (u2 (u2 (u2 (u2 (u2 (u2 (u2 (u2 (u2 (u2 I (b) 0 (w)) (b) 1 (h)) (b) 2 (x)) (b) 3 (y)) (b) 4 (a)) (b) 5 (0)) (b) 6 (0)) (b) 7 (0)) (b) 8 (0)) (b) 9 (0)) (b + 1) 576 (0)) (b + 2) 576 ((-1 : Int32))) (b + 3) 576 ((-1 : Int32))) (b + 4) 576 ((-1 : Int32))) (b + 5) 288 ((-1 : Int32))) L G H := hM
  refine lv_aload_n hx hb dX8_begin_92 rfl (lv_at hl 0 rfl) ?_
  refine m_getr (b) 15 (b + 6) hx hb hts hown hE oc8 hM hT.l (kT _ hT.1).1 (by decide) rfl (hT.2.2 5 (by decide)) (by omega) tb_80 dX8_begin_93 ?_
  refine lv_iconst (v := (0)) hx hb dX8_begin_96 (by decide) ?_
  refine m_callv (m_runS (As := [.ref (ad (b + 6)), .int (0)]) (rest := []) hx hb hml hown hts hE hM hS hA ce_J7_fill_53178 tb_458 (C_J7_fill_53178 l D A ad ns (fillI (fillI (fillI (fillI (fillI (u2 (u2 (u2 (u2 (u2 (u2 (u2 (u2 (u2 (u2 I (b) 0 (w)) (b) 1 (h)) (b) 2 (x)) (b) 3 (y)) (b) 4 (a)) (b) 5 (0)) (b) 6 (0)) (b) 7 (0)) (b) 8 (0)) (b) 9 (0)) (b + 1) 576 (0)) (b + 2) 576 ((-1 : Int32))) (b + 3) 576 ((-1 : Int32))) (b + 4) 576 ((-1 : Int32))) (b + 5) 288 ((-1 : Int32))) L G (b + 6) 288 (0) (hT.2.1 6 (by decide)) (kT _ hT.1).2.2.2.2.2.2.1 (by decide)) rfl rfl ⟨Nat.le_of_ble_eq_true rfl, Nat.le_of_ble_eq_true rfl⟩  rfl hl.1 rfl (Nat.le_of_ble_eq_true rfl) dX8_begin_97 ⟨Nat.le_of_ble_eq_true rfl, Nat.le_of_ble_eq_true rfl⟩) hS (fun u H locs hw hM hS => ?_)
  subst hw
  have hM : Mem D A ad ns (fillI (fillI (fillI (fillI (fillI (fillI (u2 (u2 (u2 (u2 (u2 (u2 (u2 (u2 (u2 (u2 I (b) 0 (w)) (b) 1 (h)) (b) 2 (x)) (b) 3 (y)) (b) 4 (a)) (b) 5 (0)) (b) 6 (0)) (b) 7 (0)) (b) 8 (0)) (b) 9 (0)) (b + 1) 576 (0)) (b + 2) 576 ((-1 : Int32))) (b + 3) 576 ((-1 : Int32))) (b + 4) 576 ((-1 : Int32))) (b + 5) 288 ((-1 : Int32))) (b + 6) 288 (0)) L G H := hM
  exact m_vret hx hb hr hlocks hM hS (Nat.le_of_ble_eq_true rfl) (Nat.le_of_ble_eq_true rfl) rfl dX8_begin_100
