theorem tn_s {i t : Int32} (h : 0 ≤ i.toInt) (ht : t.toInt = i.toInt + 1) : t.toNatClampNeg = i.toNatClampNeg + 1 := by
  have h1 := tn h
  have h2 := tn (i := t) (by omega)
  omega
theorem tn_n {i : Int32} {n : Nat} (h : i.toInt = n) : i.toNatClampNeg = n := by
  have h1 := tn (i := i) (by omega)
  omega
-- a row of one number
def fillI (I : MI) (x N : Nat) (v : Int32) : MI := fun m j => if m = x ∧ j < N then v else I m j
theorem fillI_0 (I : MI) (x : Nat) (v : Int32) : fillI I x 0 v = I := by
  funext m j
  simp [fillI]
theorem fillI_s (I : MI) (x k : Nat) (v : Int32) : u2 (fillI I x k v) x k v = fillI I x (k + 1) v := by
  funext m j
  simp only [u2_v, fillI]
  by_cases h1 : m = x
  · by_cases h2 : j = k
    · simp [h1, h2]
    · simp only [h1, h2, true_and, and_false, if_false]
      have : (j < k) = (j < k + 1) := propext ⟨fun h => by omega, fun h => by omega⟩
      simp [this]
  · simp [h1]
-- numbers carried from row to row
def cpyI (I : MI) (x y : Nat) (sp dp n : Int32) : MI := fun m => if m = y then va_cpy (I x) (I y) sp.toNatClampNeg dp.toNatClampNeg n.toNatClampNeg else I m
theorem EV.str {D : va_G} {A : Nat → Prop} {U : State} {H : Heap} (h : EV D A U H) (i : Nat) {q : String × Nat × String × List Int32} (hq : sq[i]? = some q) : SC D i q A U H := h.2.2.2.2.1 i q hq
section MR2
variable {p : Program} {l : Launch} {e : Env} {R : Room} {s : State} {m : MethodId} {args : Array Value} {below : List Frame} {meth : Method} {c : Code} {H : Heap} {locs : List Loc} {cells slots : Nat} {Q : State → Prop}
variable {cc : ByteArray} {pc : Nat} {ls : Array Slot} {rest : List Value} {D : va_G} {A : Nat → Prop} {ad : Nat → Nat} {ns : List Nat} {I : MI} {L : ML} {G : MG}
variable {own : String} {index : Nat}
theorem m_ldcwS {tx : String} {q : Nat} (hx : p.tables.exec = Jvm.exec) (hb : c.code = cc) (hown : s.vm.findClass own = some m.cls) (hZ : vk_R own index tx q s) (hdg : decode cc pc = .ok (.ldc_w index, 3))
    (kk : W p l e R s m args below meth c H locs cells slots Q (F0 m (pc + 3) ls (.ref q :: rest))) : W p l e R s m args below meth c H locs cells slots Q (F0 m pc ls rest) := by
  intro T hT X
  obtain ⟨t, a1, b1⟩ := kk T hT X
  refine ⟨t, ?_, b1⟩
  obtain ⟨k, cf, i, a', hk, hcf, hcp, -, hr, hev'⟩ := Cond.stringRef_spec hown hZ.1
  cases hZ.2.symm.trans hev'
  obtain ⟨k', hk', he⟩ := X.warmed.alike.2.2 _ _ hk
  have hr' : k'.resolved[index]? = some (some (.string q)) := by
    rcases X.warmed.entry hk hk' index with h | ⟨h, -⟩
    · rw [h]; exact hr
    · rw [hr] at h; cases h
  have hdg' : decode c.code (F0 m pc ls rest).pc = .ok (.ldc_w index, 3) := by rw [hb]; exact hdg
  jvm_step X.here [hx, hdg', ldc_w.wp_string (e := e) (s := T) (f := F0 m pc ls rest) X.here.top hk' (by rw [he]; exact hcf) hcp hr']
  exact a1
theorem cpy_map {x y N0 N1 : Nat} {sp dp n : Int32} {H1 : Heap} {q1 : Nat} {k1 : Nat} (hM : Mem D A ad ns I L G H) (hy : y ∈ ns) (hky : kd y = (k1, N1)) (hk1 : k1 = 20 ∨ k1 = 21 ∨ k1 = 23) (hq1 : ns[q1]? = some y)
    (hP : va_P D cls ((ns.map (cf D ad I L G)).set q1 (ad y, .inl (D.1 k1, N1, .inl (va_cpy (I x) (I y) sp.toNatClampNeg dp.toNatClampNeg n.toNatClampNeg)))) H1) (hD : va_D A ((ns.map (cf D ad I L G)).set q1 (ad y, .inl (D.1 k1, N1, .inl (va_cpy (I x) (I y) sp.toNatClampNeg dp.toNatClampNeg n.toNatClampNeg))))) : Mem D A ad ns (cpyI I x y sp dp n) L G H1 := by
  have hne : ∀ m', m' ≠ y → cpyI I x y sp dp n m' = I m' := fun m' h => if_neg h
  have e1 : (ad y, (.inl (D.1 k1, N1, .inl (va_cpy (I x) (I y) sp.toNatClampNeg dp.toNatClampNeg n.toNatClampNeg)) : va_E)) = cf D ad (cpyI I x y sp dp n) L G y := by rw [cf, cE_int hky hk1, show cpyI I x y sp dp n y = va_cpy (I x) (I y) sp.toNatClampNeg dp.toNatClampNeg n.toNatClampNeg from if_pos rfl]
  have e2 : (ns.map (cf D ad I L G)).set q1 (cf D ad (cpyI I x y sp dp n) L G y) = ns.map (cf D ad (cpyI I x y sp dp n) L G) := map_set hM.2.2.1 hq1 (fun m' _ hm => cf_congr rfl (hne m' hm) rfl rfl (fun _ _ => rfl))
  rw [e1, e2] at hP hD
  exact ⟨hP, hD, hM.2.2.1, hM.2.2.2.1, fun m' hm' j => by rw [hne m' (ne_of hy hm')]; exact hM.2.2.2.2 m' hm' j⟩
theorem m_copyi (x y : Nat) {N0 N1 : Nat} {sp dp n : Int32} (hx : p.tables.exec = Jvm.exec) (hb : c.code = cc) (hml : c.maxLocals = ls.size) (hown : s.vm.findClass own = some m.cls) (hE : EV D A s s.heap) (hM : Mem D A ad ns I L G H) (hS : va_S A s.heap H locs) (hxn : x ∈ ns) (hkx : kd x = (20, N0)) (hyn : y ∈ ns) (hky : kd y = (20, N1)) (hlink : (Cond.methodLink own index arraycopyName).before args s = true) (hnat : (Cond.native arraycopyName).before args s = true) (hstat : (Cond.static arraycopyName).before args s = true) (hini : (Cond.initialized "java/lang/System").before args s = true)
    (hh : (¬ sp < 0 ∧ ¬ dp < 0 ∧ ¬ n < 0) ∧ sp.toNatClampNeg + n.toNatClampNeg ≤ N0 ∧ dp.toNatClampNeg + n.toNatClampNeg ≤ N1) (hf : 1 ≤ R.frames) (hlo : (rest.map fun v => v.category).sum + (nativeFrameWords "java/lang/System" "arraycopy" 5 + 11) ≤ R.locals) (hdg : decode cc pc = .ok (.invokestatic index, 3))
    (kk : ∀ (H1 : Heap) (locs1 : List Loc) (I1 : MI), I1 = cpyI I x y sp dp n → Mem D A ad ns I1 L G H1 → va_S A s.heap H1 locs1 → W p l e R s m args below meth c H1 locs1 cells slots Q (F0 m (pc + 3) ls rest)) : W p l e R s m args below meth c H locs cells slots Q (F0 m pc ls (.int n :: .int dp :: .ref (ad y) :: .int sp :: .ref (ad x) :: rest)) := by
  obtain ⟨q0, hq0, hc0⟩ := Mem.at (D := D) (A := A) (ad := ad) (I := I) (L := L) (G := G) hxn
  obtain ⟨q1, hq1, hc1⟩ := Mem.at (D := D) (A := A) (ad := ad) (I := I) (L := L) (G := G) hyn
  rw [cE_int hkx (Or.inl rfl)] at hc0
  rw [cE_int hky (Or.inl rfl)] at hc1
  exact va_copyi hx hb hml hown hlink hnat hstat hini hE.1 hM.1 hM.2.1 hS q0 q1 0 0 hc0 hc1 rfl rfl rfl hh.1.1 hh.1.2.1 hh.1.2.2 hh.2.1 hh.2.2 (fun _ _ => rfl) hf hlo hdg (fun H1 locs1 hP hD hS => kk H1 locs1 _ rfl (cpy_map (N0 := N0) hM hyn hky (Or.inl rfl) hq1 hP hD) hS)
theorem m_copyb (x y : Nat) {N0 N1 : Nat} {sp dp n : Int32} (hx : p.tables.exec = Jvm.exec) (hb : c.code = cc) (hml : c.maxLocals = ls.size) (hown : s.vm.findClass own = some m.cls) (hE : EV D A s s.heap) (hM : Mem D A ad ns I L G H) (hS : va_S A s.heap H locs) (hxn : x ∈ ns) (hkx : kd x = (21, N0)) (hyn : y ∈ ns) (hky : kd y = (21, N1)) (hlink : (Cond.methodLink own index arraycopyName).before args s = true) (hnat : (Cond.native arraycopyName).before args s = true) (hstat : (Cond.static arraycopyName).before args s = true) (hini : (Cond.initialized "java/lang/System").before args s = true)
    (hh : (¬ sp < 0 ∧ ¬ dp < 0 ∧ ¬ n < 0) ∧ sp.toNatClampNeg + n.toNatClampNeg ≤ N0 ∧ dp.toNatClampNeg + n.toNatClampNeg ≤ N1 ∧ ∀ i, i < n.toNatClampNeg → fits .byte (.int (I x (sp.toNatClampNeg + i))) = true) (hf : 1 ≤ R.frames) (hlo : (rest.map fun v => v.category).sum + (nativeFrameWords "java/lang/System" "arraycopy" 5 + 11) ≤ R.locals) (hdg : decode cc pc = .ok (.invokestatic index, 3))
    (kk : ∀ (H1 : Heap) (locs1 : List Loc) (I1 : MI), I1 = cpyI I x y sp dp n → Mem D A ad ns I1 L G H1 → va_S A s.heap H1 locs1 → W p l e R s m args below meth c H1 locs1 cells slots Q (F0 m (pc + 3) ls rest)) : W p l e R s m args below meth c H locs cells slots Q (F0 m pc ls (.int n :: .int dp :: .ref (ad y) :: .int sp :: .ref (ad x) :: rest)) := by
  obtain ⟨q0, hq0, hc0⟩ := Mem.at (D := D) (A := A) (ad := ad) (I := I) (L := L) (G := G) hxn
  obtain ⟨q1, hq1, hc1⟩ := Mem.at (D := D) (A := A) (ad := ad) (I := I) (L := L) (G := G) hyn
  rw [cE_int hkx (Or.inr (Or.inl rfl))] at hc0
  rw [cE_int hky (Or.inr (Or.inl rfl))] at hc1
  exact va_copyi hx hb hml hown hlink hnat hstat hini hE.1 hM.1 hM.2.1 hS q0 q1 1 1 hc0 hc1 rfl rfl rfl hh.1.1 hh.1.2.1 hh.1.2.2 hh.2.1 hh.2.2.1 hh.2.2.2 hf hlo hdg (fun H1 locs1 hP hD hS => kk H1 locs1 _ rfl (cpy_map (N0 := N0) hM hyn hky (Or.inr (Or.inl rfl)) hq1 hP hD) hS)
end MR2
def okT (c r x y a : Int32) : Prop := 4 ≤ c.toInt ∧ c.toInt ≤ 24 ∧ 4 ≤ r.toInt ∧ r.toInt ≤ 24 ∧ 0 ≤ x.toInt ∧ x.toInt < c.toInt ∧ 0 ≤ y.toInt ∧ y.toInt < r.toInt ∧ 0 ≤ a.toInt ∧ a.toInt ≤ 1000
section MR3
variable {p : Program} {l : Launch} {e : Env} {R : Room} {s : State} {m : MethodId} {args : Array Value} {below : List Frame} {meth : Method} {c : Code} {H : Heap} {locs : List Loc} {cells slots : Nat} {Q : State → Prop}
variable {cc : ByteArray} {pc : Nat} {ls : Array Slot} {rest st : List Value} {D : va_G} {A : Nat → Prop} {ad : Nat → Nat} {ns : List Nat} {I : MI} {L : ML} {G : MG}
variable {own C host : String} {index : Nat} {y : MethodName} {bytes : ByteArray} {maxL nL mc ms nP : Nat} {ret : Option FieldType} {rm : Room} {Qc : Array Value → State → Outcome → State → Prop} {As : List Value}
theorem m_strr (hE : EV D A s s.heap) (hS : va_S A s.heap H locs) (i : Nat) {q : String × Nat × String × List Int32} (hq : sq[i]? = some q) : ∃ cell : Cell, H[D.2 100 i]? = some cell ∧ cell.vm.isStatics = false ∧ s.vm.findClass "java/lang/String" = some cell.cls := by
  obtain ⟨cell, h1, h2, h3, -⟩ := (EV.str hE i hq).2.1.kept hS.2.1
  exact ⟨cell, h1, h2, h3⟩
theorem m_runVA (x : Nat) (hx : p.tables.exec = Jvm.exec) (hb : c.code = cc) (hml : c.maxLocals = nL) (hown : s.vm.findClass own = some m.cls) (hts : ∀ w ∈ gt, w.before args s = true) (hE : EV D A s s.heap) (hM : Mem D A ad ns I L G H) (hS : va_S A s.heap H locs) (hA : ∀ q, s.heap.size ≤ q → A q) (ce : CeV C y bytes maxL ret nP) (hl : Cond.methodLink own index y ∈ gt)
    (hMet : Met l y (wd y bytes maxL ret) rm (va_Pc (.ref x :: As) (PM D A ad ns I L G)) Qc mc ms A) (hrc : rm.cells = mc) (hrs : rm.slots = ms) (hR : rm.frames + 1 ≤ R.frames ∧ 8 + (maxL + 11) + rm.locals ≤ R.locals) (hrv : ∃ cell : Cell, H[x]? = some cell ∧ cell.vm.isStatics = false ∧ s.vm.findClass C = some cell.cls) (hnp : As.length = nP) (hsize : ls.size = nL) (hst : st = As.reverse ++ .ref x :: rest) (hW : (rest.map fun v => v.category).sum ≤ 8) (hdg : decode cc pc = .ok (.invokevirtual index, 3)) (hf : cells + mc ≤ R.cells ∧ slots + ms ≤ R.slots) :
    va_Run p l e R s m args below meth c H locs cells slots mc ms (F0 m pc ls st) rest (Qc (Value.ref x :: As).toArray) A := by
  have hG : GoodIn gt (wd y bytes maxL ret) := gt_good (fun _ h => h) ce.2.2.2.1
  have hd := ce.2.2.2.2
  exact va_runV (C := C) (Ts := gt) ⟨hx, hb, hml, hown, hts⟩ hMet ⟨callB_of nP hts hG rfl hrc hrs (by rw [hd.1]; exact hts _ ce.2.2.1) (hts _ hl) hd.2 hR, hts _ ce.1, hts _ ce.2.1⟩ ⟨PM.blind, hrv, m_pre hE hM hS hA _⟩ rfl hnp hsize hst (lv_room hW) hdg hf
end MR3
theorem shr0 : ∀ n, n < 16 → (Int32.ofNat n) >>> ((0 : Int32) &&& 31) = Int32.ofNat n := by decide
