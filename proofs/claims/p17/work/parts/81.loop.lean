theorem rgC_0_z (k : Nat) : (rgC_0 k).1 ≤ 0 ∧ 0 ≤ (rgC_0 k).2 := by
  unfold rgC_0
  split <;> decide
theorem rgC_10_z (k : Nat) : (rgC_10 k).1 ≤ 0 ∧ 0 ≤ (rgC_10 k).2 := by
  unfold rgC_10
  split <;> decide
theorem rgC_20_z (k : Nat) : (rgC_20 k).1 ≤ 0 ∧ 0 ≤ (rgC_20 k).2 := by
  unfold rgC_20
  split <;> decide
theorem rgC_30_z (k : Nat) : (rgC_30 k).1 ≤ 0 ∧ 0 ≤ (rgC_30 k).2 := by
  unfold rgC_30
  split <;> decide
theorem rgC_40_z (k : Nat) : (rgC_40 k).1 ≤ 0 ∧ 0 ≤ (rgC_40 k).2 := by
  unfold rgC_40
  split <;> decide
theorem rgC_60_z (k : Nat) : (rgC_60 k).1 ≤ 0 ∧ 0 ≤ (rgC_60 k).2 := by
  unfold rgC_60
  split <;> decide
theorem rgC_70_z (k : Nat) : (rgC_70 k).1 ≤ 0 ∧ 0 ≤ (rgC_70 k).2 := by
  unfold rgC_70
  split <;> decide
theorem rgC_z (n k : Nat) : (rgC n k).1 ≤ 0 ∧ 0 ≤ (rgC n k).2 := by
  unfold rgC
  split <;> first | decide | exact rgC_0_z k | exact rgC_10_z k | exact rgC_20_z k | exact rgC_30_z k | exact rgC_40_z k | exact rgC_60_z k | exact rgC_70_z k
theorem rgT_0_z (k : Nat) : (rgT_0 k).1 ≤ 0 ∧ 0 ≤ (rgT_0 k).2 := by
  unfold rgT_0
  split <;> decide
theorem rgT_z (n k : Nat) : (rgT n k).1 ≤ 0 ∧ 0 ≤ (rgT n k).2 := by
  unfold rgT
  split <;> first | decide | exact rgT_0_z k
theorem rgW_0_z (k : Nat) : (rgW_0 k).1 ≤ 0 ∧ 0 ≤ (rgW_0 k).2 := by
  unfold rgW_0
  split <;> decide
theorem rgW_z (n k : Nat) : (rgW n k).1 ≤ 0 ∧ 0 ≤ (rgW n k).2 := by
  unfold rgW
  split <;> first | decide | exact rgW_0_z k
theorem rgM_0_z (k : Nat) (h : k ≠ 33) : (rgM_0 k).1 ≤ 0 ∧ 0 ≤ (rgM_0 k).2 := by
  unfold rgM_0
  split <;> first | decide | exact absurd rfl h
theorem rgM_1_z (k : Nat) : (rgM_1 k).1 ≤ 0 ∧ 0 ≤ (rgM_1 k).2 := by
  unfold rgM_1
  split <;> decide
theorem rgM_76_z (k : Nat) : (rgM_76 k).1 ≤ 0 ∧ 0 ≤ (rgM_76 k).2 := by
  unfold rgM_76
  split
  · exact rgM_1_z _
  · split <;> decide
theorem rgM_z (n k : Nat) (h : ¬ (n = 0 ∧ k = 33)) : (rgM n k).1 ≤ 0 ∧ 0 ≤ (rgM n k).2 := by
  unfold rgM
  split <;> first | decide | exact rgM_0_z k (fun e => h ⟨rfl, e⟩) | exact rgM_1_z k | exact rgM_76_z k
theorem rg_z (n k : Nat) (h : ¬ (n = 1000 ∧ k = 33)) : (rg n k).1 ≤ 0 ∧ 0 ≤ (rg n k).2 := by
  unfold rg
  split
  · exact rgC_z n k
  · split
    · exact rgT_z _ k
    · split
      · exact rgW_z _ k
      · split
        · decide
        · exact rgM_z _ k (fun e => h ⟨by omega, e.2⟩)
theorem dL_law_0 : decode cL_law 0 = .ok (.new 7, 3) := by decide +kernel
theorem dL_law_3 : decode cL_law 3 = .ok (.dup, 1) := by decide +kernel
theorem dL_law_4 : decode cL_law 4 = .ok (.invokespecial 9, 3) := by decide +kernel
theorem dL_law_7 : decode cL_law 7 = .ok (.astore_n 1, 1) := by decide +kernel
theorem dL_law_8 : decode cL_law 8 = .ok (.new 10, 3) := by decide +kernel
theorem dL_law_11 : decode cL_law 11 = .ok (.dup, 1) := by decide +kernel
theorem dL_law_12 : decode cL_law 12 = .ok (.invokespecial 12, 3) := by decide +kernel
theorem dL_law_15 : decode cL_law 15 = .ok (.astore_n 2, 1) := by decide +kernel
theorem dL_law_16 : decode cL_law 16 = .ok (.iconst 0, 1) := by decide +kernel
theorem dL_law_17 : decode cL_law 17 = .ok (.istore_n 3, 1) := by decide +kernel
theorem dL_law_18 : decode cL_law 18 = .ok (.iload_n 3, 1) := by decide +kernel
theorem dL_law_19 : decode cL_law 19 = .ok (.aload_n 0, 1) := by decide +kernel
theorem dL_law_20 : decode cL_law 20 = .ok (.arraylength, 1) := by decide +kernel
theorem dL_law_21 : decode cL_law 21 = .ok (.bipush 8, 2) := by decide +kernel
theorem dL_law_23 : decode cL_law 23 = .ok (.isub, 1) := by decide +kernel
theorem dL_law_24 : decode cL_law 24 = .ok (.if_icmp .gt 1513, 3) := by decide +kernel
theorem dL_law_27 : decode cL_law 27 = .ok (.aload_n 0, 1) := by decide +kernel
theorem dL_law_28 : decode cL_law 28 = .ok (.iload_n 3, 1) := by decide +kernel
theorem dL_law_29 : decode cL_law 29 = .ok (.iaload, 1) := by decide +kernel
theorem dL_law_30 : decode cL_law 30 = .ok (.bipush 63, 2) := by decide +kernel
theorem dL_law_32 : decode cL_law 32 = .ok (.iand, 1) := by decide +kernel
theorem dL_law_33 : decode cL_law 33 = .ok (.tableswitch 1498 0 32 #[147, 210, 289, 342, 429, 472, 547, 590, 613, 636, 699, 722, 735, 768, 801, 834, 877, 910, 943, 986, 1019, 1052, 1085, 1138, 1181, 1224, 1257, 1290, 1343, 1386, 1429, 1452, 1475], 147) := by decide +kernel
theorem dL_law_1531 : decode cL_law 1531 = .ok (.iinc 3 8, 3) := by decide +kernel
theorem dL_law_1534 : decode cL_law 1534 = .ok (.goto (-1516), 3) := by decide +kernel
theorem dL_law_1537 : decode cL_law 1537 = .ok (.iconst 1, 1) := by decide +kernel
theorem dL_law_1538 : decode cL_law 1538 = .ok (.ireturn, 1) := by decide +kernel
section LT
variable {p : Program} {l : Launch} {e : Env} {s : State} {m : MethodId} {below : List Frame} {meth : Method} {c : Code} {b : Nat} {xs : Nat → Int32} {D : va_G} {A : Nat → Prop} {ad : Nat → Nat} {ns : List Nat} {I : MI} {L : ML} {G : MG} {H : Heap} {locs : List Loc} {ls : Array Slot} {cells slots N : Nat} {ii : Int32}
theorem law_fin (hx : p.tables.exec = Jvm.exec) (hb : c.code = code) (hr : meth.sig.returnType = ret) (hlocks : meth.locks = false) (hA' : ∀ q, A q → s.heap.size ≤ q) (hS : va_S A s.heap H locs) (hc : cells ≤ 600000) (hs : slots ≤ 7302250) : W p l e room_1 s m #[Value.ref b] below meth c H locs cells slots (lw_Z below #[Value.ref b] s) (F0 m 1537 ls []) := by
  refine lv_iconst (v := 1) hx hb dL_law_1537 (by decide) ?_
  refine va_forget (fun q hq => hA' _ (hS.2.2 q hq)) ?_
  refine W.widen hc hs ?_
  exact lw_ret hx hb hr hlocks dL_law_1538
set_option maxHeartbeats 4000000 in
theorem law_switch (F : LF p s m meth c b N xs D A) (hN : N ≤ 4096) (hi : 0 ≤ ii.toInt ∧ ii.toInt + 8 ≤ N) (hc : cells ≤ 500000) (hs : slots ≤ 5000000) (fw : WD ns I G) (hM : Mem D A ad ns I L G H) (hS : va_S A s.heap H locs) (hl : lv_has ls 4 [(0, .ref b), (1, .ref (ad 0)), (2, .ref (ad 1000)), (3, .int ii)]) (kk : LK p l e s m below meth c b ii D A cells slots) : W p l e room_1 s m #[Value.ref b] below meth c H locs cells slots (lw_Z below #[Value.ref b] s) (F0 m 27 ls []) := by
  obtain ⟨hx, hb, hml, hown, hts, hX, hbl, hbA, hA, hE⟩ := id F
  refine lv_aload_n hx hb dL_law_27 rfl (lv_at hl 0 rfl) ?_
  refine lv_iload_n hx hb dL_law_28 rfl (lv_at hl 3 rfl) ?_
  refine va_sld hx hb hX hbl hbA hS (i := ii) (vp_in_iff.mpr (by omega)) dL_law_29 ?_
  refine lv_bipush (v := (63)) hx hb dL_law_30 (by decide) ?_
  refine lv_iand hx hb dL_law_32 ?_
  refine lv_topi (fun v ev => ?_)
  by_cases co : v.toInt < 0 ∨ 32 < v.toInt
  · refine lv_tableOut (tgt := 1531) hx hb dL_law_33 co (by decide) ?_
    exact kk _ _ _ _ _ _ _ _ _ _ (by omega) (by omega) fw hM hS hl
  · have q : v.toInt = 0 ∨ v.toInt = 1 ∨ v.toInt = 2 ∨ v.toInt = 3 ∨ v.toInt = 4 ∨ v.toInt = 5 ∨ v.toInt = 6 ∨ v.toInt = 7 ∨ v.toInt = 8 ∨ v.toInt = 9 ∨ v.toInt = 10 ∨ v.toInt = 11 ∨ v.toInt = 12 ∨ v.toInt = 13 ∨ v.toInt = 14 ∨ v.toInt = 15 ∨ v.toInt = 16 ∨ v.toInt = 17 ∨ v.toInt = 18 ∨ v.toInt = 19 ∨ v.toInt = 20 ∨ v.toInt = 21 ∨ v.toInt = 22 ∨ v.toInt = 23 ∨ v.toInt = 24 ∨ v.toInt = 25 ∨ v.toInt = 26 ∨ v.toInt = 27 ∨ v.toInt = 28 ∨ v.toInt = 29 ∨ v.toInt = 30 ∨ v.toInt = 31 ∨ v.toInt = 32 := by omega
    rcases q with q | q | q | q | q | q | q | q | q | q | q | q | q | q | q | q | q | q | q | q | q | q | q | q | q | q | q | q | q | q | q | q | q
    · refine lv_tableIn (off := 147) (tgt := 180) hx hb dL_law_33 (by omega) (by omega) (by rw [q]; rfl) (by decide) ?_
      exact lc_0 F hN hi hc hs fw hM hS hl kk
    · refine lv_tableIn (off := 210) (tgt := 243) hx hb dL_law_33 (by omega) (by omega) (by rw [q]; rfl) (by decide) ?_
      exact lc_1 F hN hi hc hs fw hM hS hl kk
    · refine lv_tableIn (off := 289) (tgt := 322) hx hb dL_law_33 (by omega) (by omega) (by rw [q]; rfl) (by decide) ?_
      exact lc_2 F hN hi hc hs fw hM hS hl kk
    · refine lv_tableIn (off := 342) (tgt := 375) hx hb dL_law_33 (by omega) (by omega) (by rw [q]; rfl) (by decide) ?_
      exact lc_3 F hN hi hc hs fw hM hS hl kk
    · refine lv_tableIn (off := 429) (tgt := 462) hx hb dL_law_33 (by omega) (by omega) (by rw [q]; rfl) (by decide) ?_
      exact lc_4 F hN hi hc hs fw hM hS hl kk
    · refine lv_tableIn (off := 472) (tgt := 505) hx hb dL_law_33 (by omega) (by omega) (by rw [q]; rfl) (by decide) ?_
      exact lc_5 F hN hi hc hs fw hM hS hl kk
    · refine lv_tableIn (off := 547) (tgt := 580) hx hb dL_law_33 (by omega) (by omega) (by rw [q]; rfl) (by decide) ?_
      exact lc_6 F hN hi hc hs fw hM hS hl kk
    · refine lv_tableIn (off := 590) (tgt := 623) hx hb dL_law_33 (by omega) (by omega) (by rw [q]; rfl) (by decide) ?_
      exact lc_7 F hN hi hc hs fw hM hS hl kk
    · refine lv_tableIn (off := 613) (tgt := 646) hx hb dL_law_33 (by omega) (by omega) (by rw [q]; rfl) (by decide) ?_
      exact lc_8 F hN hi hc hs fw hM hS hl kk
    · refine lv_tableIn (off := 636) (tgt := 669) hx hb dL_law_33 (by omega) (by omega) (by rw [q]; rfl) (by decide) ?_
      exact lc_9 F hN hi hc hs fw hM hS hl kk
    · refine lv_tableIn (off := 699) (tgt := 732) hx hb dL_law_33 (by omega) (by omega) (by rw [q]; rfl) (by decide) ?_
      exact lc_10 F hN hi hc hs fw hM hS hl kk
    · refine lv_tableIn (off := 722) (tgt := 755) hx hb dL_law_33 (by omega) (by omega) (by rw [q]; rfl) (by decide) ?_
      exact lc_11 F hN hi hc hs fw hM hS hl kk
    · refine lv_tableIn (off := 735) (tgt := 768) hx hb dL_law_33 (by omega) (by omega) (by rw [q]; rfl) (by decide) ?_
      exact lc_12 F hN hi hc hs fw hM hS hl kk
    · refine lv_tableIn (off := 768) (tgt := 801) hx hb dL_law_33 (by omega) (by omega) (by rw [q]; rfl) (by decide) ?_
      exact lc_13 F hN hi hc hs fw hM hS hl kk
    · refine lv_tableIn (off := 801) (tgt := 834) hx hb dL_law_33 (by omega) (by omega) (by rw [q]; rfl) (by decide) ?_
      exact lc_14 F hN hi hc hs fw hM hS hl kk
    · refine lv_tableIn (off := 834) (tgt := 867) hx hb dL_law_33 (by omega) (by omega) (by rw [q]; rfl) (by decide) ?_
      exact lc_15 F hN hi hc hs fw hM hS hl kk
    · refine lv_tableIn (off := 877) (tgt := 910) hx hb dL_law_33 (by omega) (by omega) (by rw [q]; rfl) (by decide) ?_
      exact lc_16 F hN hi hc hs fw hM hS hl kk
    · refine lv_tableIn (off := 910) (tgt := 943) hx hb dL_law_33 (by omega) (by omega) (by rw [q]; rfl) (by decide) ?_
      exact lc_17 F hN hi hc hs fw hM hS hl kk
    · refine lv_tableIn (off := 943) (tgt := 976) hx hb dL_law_33 (by omega) (by omega) (by rw [q]; rfl) (by decide) ?_
      exact lc_18 F hN hi hc hs fw hM hS hl kk
    · refine lv_tableIn (off := 986) (tgt := 1019) hx hb dL_law_33 (by omega) (by omega) (by rw [q]; rfl) (by decide) ?_
      exact lc_19 F hN hi hc hs fw hM hS hl kk
    · refine lv_tableIn (off := 1019) (tgt := 1052) hx hb dL_law_33 (by omega) (by omega) (by rw [q]; rfl) (by decide) ?_
      exact lc_20 F hN hi hc hs fw hM hS hl kk
    · refine lv_tableIn (off := 1052) (tgt := 1085) hx hb dL_law_33 (by omega) (by omega) (by rw [q]; rfl) (by decide) ?_
      exact lc_21 F hN hi hc hs fw hM hS hl kk
    · refine lv_tableIn (off := 1085) (tgt := 1118) hx hb dL_law_33 (by omega) (by omega) (by rw [q]; rfl) (by decide) ?_
      exact lc_22 F hN hi hc hs fw hM hS hl kk
    · refine lv_tableIn (off := 1138) (tgt := 1171) hx hb dL_law_33 (by omega) (by omega) (by rw [q]; rfl) (by decide) ?_
      exact lc_23 F hN hi hc hs fw hM hS hl kk
    · refine lv_tableIn (off := 1181) (tgt := 1214) hx hb dL_law_33 (by omega) (by omega) (by rw [q]; rfl) (by decide) ?_
      exact lc_24 F hN hi hc hs fw hM hS hl kk
    · refine lv_tableIn (off := 1224) (tgt := 1257) hx hb dL_law_33 (by omega) (by omega) (by rw [q]; rfl) (by decide) ?_
      exact lc_25 F hN hi hc hs fw hM hS hl kk
    · refine lv_tableIn (off := 1257) (tgt := 1290) hx hb dL_law_33 (by omega) (by omega) (by rw [q]; rfl) (by decide) ?_
      exact lc_26 F hN hi hc hs fw hM hS hl kk
    · refine lv_tableIn (off := 1290) (tgt := 1323) hx hb dL_law_33 (by omega) (by omega) (by rw [q]; rfl) (by decide) ?_
      exact lc_27 F hN hi hc hs fw hM hS hl kk
    · refine lv_tableIn (off := 1343) (tgt := 1376) hx hb dL_law_33 (by omega) (by omega) (by rw [q]; rfl) (by decide) ?_
      exact lc_28 F hN hi hc hs fw hM hS hl kk
    · refine lv_tableIn (off := 1386) (tgt := 1419) hx hb dL_law_33 (by omega) (by omega) (by rw [q]; rfl) (by decide) ?_
      exact lc_29 F hN hi hc hs fw hM hS hl kk
    · refine lv_tableIn (off := 1429) (tgt := 1462) hx hb dL_law_33 (by omega) (by omega) (by rw [q]; rfl) (by decide) ?_
      exact lc_30 F hN hi hc hs fw hM hS hl kk
    · refine lv_tableIn (off := 1452) (tgt := 1485) hx hb dL_law_33 (by omega) (by omega) (by rw [q]; rfl) (by decide) ?_
      exact lc_31 F hN hi hc hs fw hM hS hl kk
    · refine lv_tableIn (off := 1475) (tgt := 1508) hx hb dL_law_33 (by omega) (by omega) (by rw [q]; rfl) (by decide) ?_
      exact lc_32 F hN hi hc hs fw hM hS hl kk
set_option maxHeartbeats 4000000 in
theorem law_loop (F : LF p s m meth c b N xs D A) (hr : meth.sig.returnType = ret) (hlocks : meth.locks = false) (hA' : ∀ q, A q → s.heap.size ≤ q) (hN : N ≤ 4096) : ∀ (n : Nat) (ii : Int32) {ad : Nat → Nat} {ns : List Nat} {I : MI} {L : ML} {G : MG} {H : Heap} {locs : List Loc} {ls : Array Slot} {cells slots : Nat}, 0 ≤ ii.toInt ∧ ii.toInt ≤ 4096 → (N : Int) - ii.toInt < n → 8 * (cells : Int) ≤ 1600 + 9 * ii.toInt → 8 * (slots : Int) ≤ 320000 + 3194 * ii.toInt → WD ns I G → Mem D A ad ns I L G H → va_S A s.heap H locs → lv_has ls 4 [(0, .ref b), (1, .ref (ad 0)), (2, .ref (ad 1000)), (3, .int ii)] → W p l e room_1 s m #[Value.ref b] below meth c H locs cells slots (lw_Z below #[Value.ref b] s) (F0 m 18 ls []) := by
  obtain ⟨hx, hb, hml, hown, hts, hX, hbl, hbA, hA, hE⟩ := id F
  have kN : (Int32.ofNat N).toInt = N := nI_toInt (by omega)
  have k8 : (8 : Int32).toInt = 8 := by decide
  intro n
  induction n with
  | zero =>
    intro ii ad ns I L G H locs ls cells slots hi hn hc hs fw hM hS hl
    refine lv_iload_n hx hb dL_law_18 rfl (lv_at hl 3 rfl) ?_
    refine lv_aload_n hx hb dL_law_19 rfl (lv_at hl 0 rfl) ?_
    refine va_slen hx hb hX hbl hbA hS dL_law_20 ?_
    refine lv_bipush (v := (8)) hx hb dL_law_21 (by decide) ?_
    refine lv_isub hx hb dL_law_23 ?_
    refine lv_topi (fun v ev => ?_)
    have tv := a_sub ev (by omega) (by omega)
    refine lv_icmp_gt (tgt := 1537) hx hb dL_law_24 (by decide) (fun c1 => ?_) (fun c1 => ?_)
    · exact law_fin hx hb hr hlocks hA' hS (by omega) (by omega)
    · have q1 := q_nlt c1
      omega
  | succ n ih =>
    intro ii ad ns I L G H locs ls cells slots hi hn hc hs fw hM hS hl
    refine lv_iload_n hx hb dL_law_18 rfl (lv_at hl 3 rfl) ?_
    refine lv_aload_n hx hb dL_law_19 rfl (lv_at hl 0 rfl) ?_
    refine va_slen hx hb hX hbl hbA hS dL_law_20 ?_
    refine lv_bipush (v := (8)) hx hb dL_law_21 (by decide) ?_
    refine lv_isub hx hb dL_law_23 ?_
    refine lv_topi (fun v ev => ?_)
    have tv := a_sub ev (by omega) (by omega)
    refine lv_icmp_gt (tgt := 1537) hx hb dL_law_24 (by decide) (fun c1 => ?_) (fun c1 => ?_)
    · exact law_fin hx hb hr hlocks hA' hS (by omega) (by omega)
    · have q1 := q_nlt c1
      refine law_switch (ii := ii) F hN (by omega) (by omega) (by omega) fw hM hS hl ?_
      intro ad ns I L G H locs ls cells2 slots2 h1 h2 fw hM hS hl
      obtain ⟨w, ew⟩ : ∃ z : Int32, z = ii + Int32.ofInt (8) := ⟨_, rfl⟩
      have tw := a_inc ew (by decide) (by omega) (by omega)
      refine lv_iinc (v := w) (lv' := [(3, .int w), (0, .ref b), (1, .ref (ad 0)), (2, .ref (ad 1000))]) hx hb dL_law_1531 hl (k := 3) rfl ew.symm (by decide) rfl (fun ls hl => ?_)
      refine lv_goto (tgt := 18) hx hb dL_law_1534 (by decide) ?_
      exact ih w (by omega) (by omega) (by omega) (by omega) fw hM hS (lv_sub hl [1, 2, 3, 0] rfl)
theorem Mem.grow0 {n q : Nat} {H1 : Heap} (hM : Mem D A ad ns I L G H) (hn : n ∉ ns) (hP : va_P D cls (ns.map (cf D ad I L G) ++ [(q, cE D (va_up ad n q) I L G n)]) H1) (hD : va_D A (ns.map (cf D ad I L G) ++ [(q, cE D (va_up ad n q) I L G n)])) : Mem D A (va_up ad n q) (ns ++ [n]) I L G H1 := by
  have hne : ∀ x ∈ ns, va_up ad n q x = ad x := fun x hx => va_up_ne _ _ (fun h => hn (h ▸ hx))
  have e1 : ns.map (cf D ad I L G) = ns.map (cf D (va_up ad n q) I L G) := by
    apply List.map_congr_left
    intro x hx
    refine (cf_congr (hne x hx) rfl rfl rfl (fun k hk => ?_)).symm
    rcases hM.2.2.2.1 x hx k with h | h
    · exact absurd h hk
    · exact hne _ h
  have e2 : (q, cE D (va_up ad n q) I L G n) = cf D (va_up ad n q) I L G n := by rw [cf, va_up_self]
  rw [e1, e2] at hP hD
  refine ⟨by rw [List.map_append]; exact hP, by rw [List.map_append]; exact hD, ?_, fun m' hm' k => ?_, fun m' hm' k => hM.2.2.2.2 m' (fun h => hm' (List.mem_append_left _ h)) k⟩
  · rw [List.nodup_append]
    refine ⟨hM.2.2.1, by simp, fun a ha b hb => ?_⟩
    rw [List.mem_singleton] at hb
    subst hb
    exact fun h => hn (h ▸ ha)
  · rcases List.mem_append.mp hm' with h | h
    · rcases hM.2.2.2.1 m' h k with h2 | h2
      · exact Or.inl h2
      · exact Or.inr (List.mem_append_left _ h2)
    · rw [List.mem_singleton] at h
      subst h
      exact Or.inl (hM.2.2.2.2 m' hn k).2.2
variable {R : Room} {args : Array Value} {Q : State → Prop} {cc : ByteArray} {pc : Nat} {rest : List Value} {own C : String} {ci N index : Nat} {T : u_T} {ty0 : Nat → FieldType}
theorem m_new0 (n : Nat) (hx : p.tables.exec = Jvm.exec) (hb : c.code = cc) (hts : ∀ w ∈ gt, w.before args s = true) (hown : s.vm.findClass own = some m.cls) (hE : EV D A s s.heap) (oc : OC ci C T ty0 N) (hM : Mem D A ad ns I L G H) (hS : va_S A s.heap H locs) (hA : ∀ q, s.heap.size ≤ q → A q) (hn : n ∉ ns) (hk : kd n = (ci, N)) (hdf : ∀ j, j < N → defaultValue (ty0 j) = if sk ci j = true then .null else .int 0) (hcl : Cond.classLink own index C ∈ gt) (hinst : Cond.instantiable C N ∈ gt) (hini : Cond.initialized C ∈ gt) (hcells : cells + 1 ≤ R.cells) (hslots : slots + N ≤ R.slots) (hdg : decode cc pc = .ok (.new index, 3))
    (kk : ∀ (H1 : Heap) (ad1 : Nat → Nat), (∀ x ∈ ns, ad1 x = ad x) → Mem D A ad1 (ns ++ [n]) I L G H1 → va_S A s.heap H1 locs → W p l e R s m args below meth c H1 locs (cells + 1) (slots + N) Q (F0 m (pc + 3) ls (.ref (ad1 n) :: rest))) : W p l e R s m args below meth c H locs cells slots Q (F0 m pc ls rest) := by
  refine va_new (ci := ci) (fs := (List.range N).map (fun j => if sk ci j = true then .null else .int 0)) hx hb hts oc.2.2.1 ty0 oc.2.2.2.1 hown (hts _ hcl) (hts _ hinst) (hts _ hini) hE.1 hM.1 hM.2.1 hS hA oc.1 (fun j hj => ?_) hcells hslots hdg (fun q H1 hP hD hS => ?_)
  · rw [hdf j hj, vp_V, List.getD_eq_getElem?_getD, List.getElem?_map, List.getElem?_range hj]
    rfl
  · have e0 : (fun j => if sk ci j = true then Value.null else .int 0) = sv (va_up ad n q) I G n ci := by
      funext j
      obtain ⟨h1, -, h3⟩ := hM.2.2.2.2 n hn j
      simp only [sv, h1, h3, rn, if_true, va_rf]
    have e1 : (.inr (ci, (List.range N).map (fun j => if sk ci j = true then Value.null else .int 0)) : va_E) = cE D (va_up ad n q) I L G n := by
      rw [cE_obj hk oc.2.1, e0]
    rw [e1] at hP hD
    have := kk H1 (va_up ad n q) (up_keep hn) (hM.grow0 hn hP hD) hS
    rwa [va_up_self] at this
end LT
theorem zI0 (n k : Nat) : (zI n k).toInt = 0 := rfl
theorem inv0 : INV iA0 := by
  intro n k
  simp only [iA0, u2_v]
  by_cases h1 : n = 1000 ∧ k = 57
  · obtain ⟨rfl, rfl⟩ := h1
    decide
  · by_cases h2 : n = 1000 ∧ k = 33
    · obtain ⟨rfl, rfl⟩ := h2
      decide
    · simp only [h1, h2, if_false]
      rw [zI0]
      exact rg_z n k h2
theorem cw0 : CW nsA0 iA0 gA0 := by
  refine ⟨sgc0, fun k hk => Or.inl ⟨by simp [gA0, gC0, u2_v, zG], ?_⟩, 0, ?_, ?_⟩
  · have : k = 0 ∨ k = 1 ∨ k = 2 ∨ k = 3 := by omega
    rcases this with rfl | rfl | rfl | rfl <;> decide
  · simp only [iA0, u2_v]
    decide
  · refine ⟨by decide, by decide, fun j hj => ?_, fun j hj => absurd hj (Nat.not_lt_zero j), ?_⟩
    · have : j = 0 := by omega
      subst this
      exact ⟨by decide, by decide, by decide⟩
    · have h : ∀ j : Fin 7, 0 < j.val → ∀ i : Fin 6, 200 + 10 * j.val + i.val ∉ nsA0 := by decide +kernel
      intro j h1 h2 i hi
      exact h ⟨j, by omega⟩ h1 ⟨i, hi⟩
theorem lwm0 : LWM iA0 := by
  intro r hr
  rw [show (iA0 1000 28).toInt = 0 from by simp only [iA0, u2_v]; decide] at hr
  omega

theorem wd0 : WD nsA0 iA0 gA0 := ⟨cw0, sgm0, inv0, lwm0, rel0⟩
set_option maxHeartbeats 4000000 in
theorem whole_start {p : Program} {e : Env} {s : State} {m : MethodId} {below : List Frame} {meth : Method} {c : Code} (l : Launch) {b L : Nat} {xs : Nat → Int32} (hL : L ≤ 4096) (C0 : lw_At p s m meth c b L xs) : W p l e room_1 s m #[Value.ref b] below meth c s.heap [] 0 0 (lw_Z below #[Value.ref b] s) (entryFrame m ([Value.ref b] : List Value).toArray 4) := by
  obtain ⟨hx, hb, hr, hml, hown0, hts0, hX, hbl, hlocks, hgv⟩ := id C0
  have hown : s.vm.findClass "OneSunbeamLaw" = some m.cls := hown0
  obtain ⟨A, hA1⟩ : ∃ A : Nat → Prop, ∀ q, A q ↔ s.heap.size ≤ q := ⟨_, fun _ => Iff.rfl⟩
  have hA : ∀ q, s.heap.size ≤ q → A q := fun q h => (hA1 q).mpr h
  have hA' : ∀ q, A q → s.heap.size ≤ q := fun q h => (hA1 q).mp h
  have hbA : ¬ A b := fun h => absurd (hA' b h) (by omega)
  obtain ⟨D, hE⟩ := mk_EV (A := A) hts0 hgv (fun a ha h => absurd (hA' a h) (by omega))
  have hts : ∀ w ∈ gt, w.before #[Value.ref b] s = true := fun w hw => hts0 w (gt_lw w hw)
  have hl := lv_entry ([.ref b]) (n := 4) (Nat.le_of_ble_eq_true rfl)
  rw [lg_entry_eq]
  generalize (lg_sl ([.ref b]) ++ List.replicate (4 - (lg_sl ([.ref b])).length) Slot.unset).toArray = ls at hl ⊢
  have hl : lv_has ls 4 [(0, .ref b)] := hl
  have hS : va_S A s.heap s.heap [] := va_S.rf
  have hM : Mem D A (fun _ => 0) [] zI zL zG s.heap := ⟨fun k q h => by simp at h, ⟨fun i j p q h => by simp at h, fun k q h => by simp at h⟩, List.nodup_nil, fun m hm => by simp at hm, fun m _ k => ⟨rfl, rfl, rfl⟩⟩
  refine m_new0 0 hx hb hts hown hE oc9 hM hS hA (by simp) rfl df9 tb_20 tb_21 tb_1 (Nat.le_of_ble_eq_true rfl) (Nat.le_of_ble_eq_true rfl) dL_law_0 (fun H ad1 _ hM hS => ?_)
  have hM : Mem D A ad1 [0] zI zL zG H := hM
  refine lv_dup hx hb dL_law_3 rfl ?_
  refine m_callv (m_runI (0) (As := []) (rest := [.ref (ad1 0)]) hx hb hml hown hts hE hM hS hA ce_X9_init tb_22 (C_X9_init l D A ad1) rfl rfl ⟨Nat.le_of_ble_eq_true rfl, Nat.le_of_ble_eq_true rfl⟩ rfl hl.1 rfl (Nat.le_of_ble_eq_true rfl) dL_law_4 ⟨Nat.le_of_ble_eq_true rfl, Nat.le_of_ble_eq_true rfl⟩) hS (fun u H locs hw hM hS => ?_)
  obtain ⟨ad2, rfl, had2⟩ := hw
  have hM : Mem D A ad2 nsC0 zI zL gC0 H := hM
  rw [← had2 0 (by decide)]
  refine lv_astore_n (lv' := [(1, .ref (ad2 0)), (0, .ref b)]) hx hb dL_law_7 rfl hl (by decide) rfl (fun ls hl => ?_)
  refine m_new 1000 hx hb hts hown hE oc10 hM hS hA (by decide) (by decide) rfl df10 tb_1172 tb_1173 tb_11 (Nat.le_of_ble_eq_true rfl) (Nat.le_of_ble_eq_true rfl) dL_law_8 (fun H ad3 had3 hM hS => ?_)
  rw [← had3 0 (by decide)] at hl
  refine lv_dup hx hb dL_law_11 rfl ?_
  refine m_callv (m_runI (1000) (As := []) (rest := [.ref (ad3 1000)]) hx hb hml hown hts hE hM hS hA ce_X10_init tb_1174 (C_X10_init l D A ad3) rfl rfl ⟨Nat.le_of_ble_eq_true rfl, Nat.le_of_ble_eq_true rfl⟩ rfl hl.1 rfl (Nat.le_of_ble_eq_true rfl) dL_law_12 ⟨Nat.le_of_ble_eq_true rfl, Nat.le_of_ble_eq_true rfl⟩) hS (fun u H locs hw hM hS => ?_)
  obtain ⟨ad4, rfl, had4⟩ := hw
  have hM : Mem D A ad4 nsA0 iA0 zL gA0 H := hM
  rw [← had4 1000 (by decide)]
  rw [← had4 0 (by decide)] at hl
  refine lv_astore_n (lv' := [(2, .ref (ad4 1000)), (1, .ref (ad4 0)), (0, .ref b)]) hx hb dL_law_15 rfl hl (by decide) rfl (fun ls hl => ?_)
  refine lv_iconst (v := 0) hx hb dL_law_16 (by decide) ?_
  refine lv_istore_n (lv' := [(3, .int 0), (2, .ref (ad4 1000)), (1, .ref (ad4 0)), (0, .ref b)]) hx hb dL_law_17 rfl hl (by decide) rfl (fun ls hl => ?_)
  exact law_loop ⟨hx, hb, hml, hown, hts, hX, hbl, hbA, hA, hE⟩ hr hlocks hA' hL (L + 1) 0 (by decide) (by rw [show (0 : Int32).toInt = 0 from by decide]; omega) (by decide) (by decide) wd0 hM hS (lv_sub hl [3, 2, 1, 0] rfl)
