def OC (ci : Nat) (C : String) (T : u_T) (ty0 : Nat → FieldType) (N : Nat) : Prop := cls[ci]? = some (C, T, N) ∧ ci < 20 ∧ (∀ w ∈ u_ws C T N, w ∈ gt) ∧ (∀ k, k < N → parseFieldDescriptor (T k).2.2.1 = some (ty0 k)) ∧ (∀ a, a < N → ∀ b, b < N → a ≠ b → (T a).2.1 ≠ (T b).2.1)
theorem ne_of {ns : List Nat} {n m : Nat} (hn : n ∈ ns) (hm : m ∉ ns) : m ≠ n := fun e => hm (by rw [e]; exact hn)
section MR
variable {p : Program} {l : Launch} {e : Env} {R : Room} {s : State} {m : MethodId} {args : Array Value} {below : List Frame} {meth : Method} {c : Code} {H : Heap} {locs : List Loc} {cells slots : Nat} {Q : State → Prop}
variable {cc : ByteArray} {pc : Nat} {ls : Array Slot} {rest : List Value} {D : va_G} {A : Nat → Prop} {ad : Nat → Nat} {ns : List Nat} {I : MI} {L : ML} {G : MG}
variable {own C : String} {ci N index : Nat} {T : u_T} {ty0 : Nat → FieldType}
theorem m_geti (n k : Nat) (hx : p.tables.exec = Jvm.exec) (hb : c.code = cc) (hts : ∀ w ∈ gt, w.before args s = true) (hown : s.vm.findClass own = some m.cls) (hE : EV D A s s.heap) (oc : OC ci C T ty0 N) (hM : Mem D A ad ns I L G H) (hn : n ∈ ns) (hk : kd n = (ci, N)) (hkN : k < N) (hs : sk ci k = false) (hlink : Cond.fieldLink own index (T k).1 (T k).2.1 (T k).2.2.1 ∈ gt) (hdg : decode cc pc = .ok (.getfield index, 3))
    (kk : W p l e R s m args below meth c H locs cells slots Q (F0 m (pc + 3) ls (.int (I n k) :: rest))) : W p l e R s m args below meth c H locs cells slots Q (F0 m pc ls (.ref (ad n) :: rest)) := by
  obtain ⟨q, hq, hc⟩ := Mem.at (D := D) (A := A) (ad := ad) (I := I) (L := L) (G := G) hn
  rw [cE_obj hk oc.2.1] at hc
  exact va_get hx hb hts oc.2.2.1 hown hE.1 hM.1 q hc oc.1 k hkN (hts _ hlink) (fun _ h9 => h9) (v := .int (I n k)) (by rw [List.getElem?_map, List.getElem?_range hkN]; simp [sv, hs]) hdg kk
theorem m_getr (n k g : Nat) (hx : p.tables.exec = Jvm.exec) (hb : c.code = cc) (hts : ∀ w ∈ gt, w.before args s = true) (hown : s.vm.findClass own = some m.cls) (hE : EV D A s s.heap) (oc : OC ci C T ty0 N) (hM : Mem D A ad ns I L G H) (hn : n ∈ ns) (hk : kd n = (ci, N)) (hkN : k < N) (hs : sk ci k = true) (hg : G n k = g) (hg0 : g ≠ 0) (hlink : Cond.fieldLink own index (T k).1 (T k).2.1 (T k).2.2.1 ∈ gt) (hdg : decode cc pc = .ok (.getfield index, 3))
    (kk : W p l e R s m args below meth c H locs cells slots Q (F0 m (pc + 3) ls (.ref (ad g) :: rest))) : W p l e R s m args below meth c H locs cells slots Q (F0 m pc ls (.ref (ad n) :: rest)) := by
  obtain ⟨q, hq, hc⟩ := Mem.at (D := D) (A := A) (ad := ad) (I := I) (L := L) (G := G) hn
  rw [cE_obj hk oc.2.1] at hc
  exact va_get hx hb hts oc.2.2.1 hown hE.1 hM.1 q hc oc.1 k hkN (hts _ hlink) (fun _ h9 => h9) (v := .ref (ad g)) (by rw [List.getElem?_map, List.getElem?_range hkN]; simp [sv, hs, hg, rn, hg0, va_rf]) hdg kk
theorem sv_puti {n k : Nat} {v : Int32} (hs : sk ci k = false) : sv ad (u2 I n k v) G n ci = va_up (sv ad I G n ci) k (.int v) := by
  funext j
  by_cases hj : j = k
  · subst hj
    simp [sv, hs, va_up, u2]
  · simp [sv, va_up, hj, u2]
theorem sv_putr {n k g : Nat} (hs : sk ci k = true) : sv ad I (u2 G n k g) n ci = va_up (sv ad I G n ci) k (va_rf (rn ad g)) := by
  funext j
  by_cases hj : j = k
  · subst hj
    simp [sv, hs, va_up, u2]
  · simp [sv, va_up, hj, u2]
theorem m_puti (n k : Nat) (hx : p.tables.exec = Jvm.exec) (hb : c.code = cc) (hts : ∀ w ∈ gt, w.before args s = true) (hown : s.vm.findClass own = some m.cls) (hE : EV D A s s.heap) (oc : OC ci C T ty0 N) (hM : Mem D A ad ns I L G H) (hS : va_S A s.heap H locs) (hn : n ∈ ns) (hk : kd n = (ci, N)) (hkN : k < N) (hs : sk ci k = false) {v : Int32} (hfin : (T k).2.2.2 = false) (hnar : narrow (ty0 k) (.int v) = .int v) (hfit : fits (ty0 k) (.int v) = true) (hlink : Cond.fieldLink own index (T k).1 (T k).2.1 (T k).2.2.1 ∈ gt) (hdg : decode cc pc = .ok (.putfield index, 3))
    (kk : ∀ (H1 : Heap) (locs1 : List Loc) (I1 : MI), I1 = u2 I n k v → Mem D A ad ns I1 L G H1 → va_S A s.heap H1 locs1 → W p l e R s m args below meth c H1 locs1 cells slots Q (F0 m (pc + 3) ls rest)) : W p l e R s m args below meth c H locs cells slots Q (F0 m pc ls (.int v :: .ref (ad n) :: rest)) := by
  obtain ⟨q, hq, hc⟩ := Mem.at (D := D) (A := A) (ad := ad) (I := I) (L := L) (G := G) hn
  rw [cE_obj hk oc.2.1] at hc
  refine va_put hx hb hts oc.2.2.1 ty0 oc.2.2.2.1 oc.2.2.2.2 hown hE.1 hM.1 hM.2.1 hS q hc oc.1 k hkN (hts _ hlink) (fun _ h9 => h9) hfin (oc.2.2.2.1 k hkN) hnar hfit (by simpa using hkN) hdg (fun H1 locs1 hP hD hS => ?_)
  rw [range_set hkN, ← sv_puti hs] at hP hD
  have e1 : (ad n, (.inr (ci, (List.range N).map (sv ad (u2 I n k v) G n ci)) : va_E)) = cf D ad (u2 I n k v) L G n := by rw [cf, cE_obj hk oc.2.1]
  have e2 : (ns.map (cf D ad I L G)).set q (cf D ad (u2 I n k v) L G n) = ns.map (cf D ad (u2 I n k v) L G) := map_set hM.2.2.1 hq (fun m' _ hm => cf_congr rfl (u2_ne I k v hm) rfl rfl (fun _ _ => rfl))
  rw [e1, e2] at hP hD
  exact kk H1 locs1 _ rfl ⟨hP, hD, hM.2.2.1, hM.2.2.2.1, fun m' hm' j => by rw [u2_ne I k v (ne_of hn hm')]; exact hM.2.2.2.2 m' hm' j⟩ hS
theorem m_putr (n k g : Nat) (hx : p.tables.exec = Jvm.exec) (hb : c.code = cc) (hts : ∀ w ∈ gt, w.before args s = true) (hown : s.vm.findClass own = some m.cls) (hE : EV D A s s.heap) (oc : OC ci C T ty0 N) (hM : Mem D A ad ns I L G H) (hS : va_S A s.heap H locs) (hn : n ∈ ns) (hk : kd n = (ci, N)) (hkN : k < N) (hs : sk ci k = true) (hg0 : g ≠ 0) (hgn : g ∈ ns) (hfin : (T k).2.2.2 = false) (hnar : narrow (ty0 k) (.ref (ad g)) = .ref (ad g)) (hfit : fits (ty0 k) (.ref (ad g)) = true) (hlink : Cond.fieldLink own index (T k).1 (T k).2.1 (T k).2.2.1 ∈ gt) (hdg : decode cc pc = .ok (.putfield index, 3))
    (kk : ∀ (H1 : Heap) (locs1 : List Loc) (G1 : MG), G1 = u2 G n k g → Mem D A ad ns I L G1 H1 → va_S A s.heap H1 locs1 → W p l e R s m args below meth c H1 locs1 cells slots Q (F0 m (pc + 3) ls rest)) : W p l e R s m args below meth c H locs cells slots Q (F0 m pc ls (.ref (ad g) :: .ref (ad n) :: rest)) := by
  obtain ⟨q, hq, hc⟩ := Mem.at (D := D) (A := A) (ad := ad) (I := I) (L := L) (G := G) hn
  rw [cE_obj hk oc.2.1] at hc
  refine va_put hx hb hts oc.2.2.1 ty0 oc.2.2.2.1 oc.2.2.2.2 hown hE.1 hM.1 hM.2.1 hS q hc oc.1 k hkN (hts _ hlink) (fun _ h9 => h9) hfin (oc.2.2.2.1 k hkN) hnar hfit (by simpa using hkN) hdg (fun H1 locs1 hP hD hS => ?_)
  have e0 : (Value.ref (ad g)) = va_rf (rn ad g) := by simp [rn, hg0, va_rf]
  rw [e0, range_set hkN, ← sv_putr hs] at hP hD
  have e1 : (ad n, (.inr (ci, (List.range N).map (sv ad I (u2 G n k g) n ci)) : va_E)) = cf D ad I L (u2 G n k g) n := by rw [cf, cE_obj hk oc.2.1]
  have e2 : (ns.map (cf D ad I L G)).set q (cf D ad I L (u2 G n k g) n) = ns.map (cf D ad I L (u2 G n k g)) := map_set hM.2.2.1 hq (fun m' _ hm => cf_congr rfl rfl rfl (u2_ne G k g hm) (fun _ _ => rfl))
  rw [e1, e2] at hP hD
  refine kk H1 locs1 _ rfl ⟨hP, hD, hM.2.2.1, fun m' hm' j => ?_, fun m' hm' j => by rw [u2_ne G k g (ne_of hn hm')]; exact hM.2.2.2.2 m' hm' j⟩ hS
  by_cases h1 : m' = n
  · subst h1
    rw [u2_at]
    by_cases h2 : j = k
    · subst h2
      rw [va_up_self]
      exact Or.inr hgn
    · rw [va_up_ne _ _ h2]
      exact hM.2.2.2.1 m' hm' j
  · rw [u2_ne G k g h1]
    exact hM.2.2.2.1 m' hm' j
theorem m_putF (n k g : Nat) (hx : p.tables.exec = Jvm.exec) (hb : c.code = cc) (hts : ∀ w ∈ gt, w.before args s = true) (hown : s.vm.findClass own = some m.cls) (hin : meth.name = "<init>") (hE : EV D A s s.heap) (oc : OC ci C T ty0 N) (hM : Mem D A ad ns I L G H) (hS : va_S A s.heap H locs) (hn : n ∈ ns) (hk : kd n = (ci, N)) (hkN : k < N) (hs : sk ci k = true) (hg0 : g ≠ 0) (hgn : g ∈ ns) (hfin : (T k).2.2.2 = true) (hdecl : (T k).1 = own) (hnar : narrow (ty0 k) (.ref (ad g)) = .ref (ad g)) (hfit : fits (ty0 k) (.ref (ad g)) = true) (hlink : Cond.fieldLink own index (T k).1 (T k).2.1 (T k).2.2.1 ∈ gt) (hdg : decode cc pc = .ok (.putfield index, 3))
    (kk : ∀ (H1 : Heap) (locs1 : List Loc) (G1 : MG), G1 = u2 G n k g → Mem D A ad ns I L G1 H1 → va_S A s.heap H1 locs1 → W p l e R s m args below meth c H1 locs1 cells slots Q (F0 m (pc + 3) ls rest)) : W p l e R s m args below meth c H locs cells slots Q (F0 m pc ls (.ref (ad g) :: .ref (ad n) :: rest)) := by
  obtain ⟨q, hq, hc⟩ := Mem.at (D := D) (A := A) (ad := ad) (I := I) (L := L) (G := G) hn
  rw [cE_obj hk oc.2.1] at hc
  refine va_putF hx hb hts oc.2.2.1 ty0 oc.2.2.2.1 oc.2.2.2.2 hown hE.1 hM.1 hM.2.1 hS q hc oc.1 k hkN (hts _ hlink) (fun _ h9 => h9) hfin hin hdecl (oc.2.2.2.1 k hkN) hnar hfit (by simpa using hkN) hdg (fun H1 locs1 hP hD hS => ?_)
  have e0 : (Value.ref (ad g)) = va_rf (rn ad g) := by simp [rn, hg0, va_rf]
  rw [e0, range_set hkN, ← sv_putr hs] at hP hD
  have e1 : (ad n, (.inr (ci, (List.range N).map (sv ad I (u2 G n k g) n ci)) : va_E)) = cf D ad I L (u2 G n k g) n := by rw [cf, cE_obj hk oc.2.1]
  have e2 : (ns.map (cf D ad I L G)).set q (cf D ad I L (u2 G n k g) n) = ns.map (cf D ad I L (u2 G n k g)) := map_set hM.2.2.1 hq (fun m' _ hm => cf_congr rfl rfl rfl (u2_ne G k g hm) (fun _ _ => rfl))
  rw [e1, e2] at hP hD
  refine kk H1 locs1 _ rfl ⟨hP, hD, hM.2.2.1, fun m' hm' j => ?_, fun m' hm' j => by rw [u2_ne G k g (ne_of hn hm')]; exact hM.2.2.2.2 m' hm' j⟩ hS
  by_cases h1 : m' = n
  · subst h1
    rw [u2_at]
    by_cases h2 : j = k
    · subst h2
      rw [va_up_self]
      exact Or.inr hgn
    · rw [va_up_ne _ _ h2]
      exact hM.2.2.2.1 m' hm' j
  · rw [u2_ne G k g h1]
    exact hM.2.2.2.1 m' hm' j

-- rows of arrays
theorem m_iald (n : Nat) (hx : p.tables.exec = Jvm.exec) (hb : c.code = cc) (hE : EV D A s s.heap) (hM : Mem D A ad ns I L G H) (hn : n ∈ ns) (hk : kd n = (20, N)) {i : Int32} (hin : vp_in i N) (hdg : decode cc pc = .ok (.iaload, 1))
    (kk : W p l e R s m args below meth c H locs cells slots Q (F0 m (pc + 1) ls (.int (I n i.toNatClampNeg) :: rest))) : W p l e R s m args below meth c H locs cells slots Q (F0 m pc ls (.int i :: .ref (ad n) :: rest)) := by
  obtain ⟨q, hq, hc⟩ := Mem.at (D := D) (A := A) (ad := ad) (I := I) (L := L) (G := G) hn
  rw [cE_int hk (Or.inl rfl)] at hc
  exact va_iald hx hb hE.1 hM.1 q 0 hc rfl hin hdg kk
theorem m_bald (n : Nat) (hx : p.tables.exec = Jvm.exec) (hb : c.code = cc) (hE : EV D A s s.heap) (hM : Mem D A ad ns I L G H) (hn : n ∈ ns) (hk : kd n = (21, N)) {i : Int32} (hin : vp_in i N) (hdg : decode cc pc = .ok (.baload, 1))
    (kk : W p l e R s m args below meth c H locs cells slots Q (F0 m (pc + 1) ls (.int (I n i.toNatClampNeg) :: rest))) : W p l e R s m args below meth c H locs cells slots Q (F0 m pc ls (.int i :: .ref (ad n) :: rest)) := by
  obtain ⟨q, hq, hc⟩ := Mem.at (D := D) (A := A) (ad := ad) (I := I) (L := L) (G := G) hn
  rw [cE_int hk (Or.inr (Or.inl rfl))] at hc
  exact va_bald hx hb hE.1 hM.1 q 1 hc rfl hin hdg kk
theorem m_zald (n : Nat) (hx : p.tables.exec = Jvm.exec) (hb : c.code = cc) (hE : EV D A s s.heap) (hM : Mem D A ad ns I L G H) (hn : n ∈ ns) (hk : kd n = (23, N)) {i : Int32} (hin : vp_in i N) (hdg : decode cc pc = .ok (.baload, 1))
    (kk : W p l e R s m args below meth c H locs cells slots Q (F0 m (pc + 1) ls (.int (I n i.toNatClampNeg) :: rest))) : W p l e R s m args below meth c H locs cells slots Q (F0 m pc ls (.int i :: .ref (ad n) :: rest)) := by
  obtain ⟨q, hq, hc⟩ := Mem.at (D := D) (A := A) (ad := ad) (I := I) (L := L) (G := G) hn
  rw [cE_int hk (Or.inr (Or.inr rfl))] at hc
  exact va_zald hx hb hE.1 hM.1 q 3 hc rfl hin hdg kk
theorem m_lald (n : Nat) (hx : p.tables.exec = Jvm.exec) (hb : c.code = cc) (hE : EV D A s s.heap) (hM : Mem D A ad ns I L G H) (hn : n ∈ ns) (hk : kd n = (22, N)) {i : Int32} (hin : vp_in i N) (hdg : decode cc pc = .ok (.laload, 1))
    (kk : W p l e R s m args below meth c H locs cells slots Q (F0 m (pc + 1) ls (.long (L n i.toNatClampNeg) :: rest))) : W p l e R s m args below meth c H locs cells slots Q (F0 m pc ls (.int i :: .ref (ad n) :: rest)) := by
  obtain ⟨q, hq, hc⟩ := Mem.at (D := D) (A := A) (ad := ad) (I := I) (L := L) (G := G) hn
  rw [cE_long hk] at hc
  exact va_lald hx hb hE.1 hM.1 q 2 hc rfl hin hdg kk
/-- a place of a row of objects: its name, 0 for null -/
theorem m_aald (n : Nat) (hx : p.tables.exec = Jvm.exec) (hb : c.code = cc) (hE : EV D A s s.heap) (hM : Mem D A ad ns I L G H) (hn : n ∈ ns) (hk : kd n = (ci, N)) (hci : ci = 24 ∨ ci = 25) {i : Int32} (hin : vp_in i N) (hdg : decode cc pc = .ok (.aaload, 1))
    (kk : W p l e R s m args below meth c H locs cells slots Q (F0 m (pc + 1) ls (va_rf (rn ad (G n i.toNatClampNeg)) :: rest))) : W p l e R s m args below meth c H locs cells slots Q (F0 m pc ls (.int i :: .ref (ad n) :: rest)) := by
  obtain ⟨q, hq, hc⟩ := Mem.at (D := D) (A := A) (ad := ad) (I := I) (L := L) (G := G) hn
  rw [cE_ref hk hci] at hc
  rcases hci with rfl | rfl
  · exact va_aldq hx hb hE.1 hM.1 q 4 hc rfl hin hdg kk
  · exact va_aldq hx hb hE.1 hM.1 q 5 hc rfl hin hdg kk
theorem Mem.putI {n k : Nat} {v : Int32} (hM : Mem D A ad ns I L G H) (hn : n ∈ ns) {q : Nat} (hq : ns[q]? = some n) (hk : kd n = (ci, N)) (hc : ci = 20 ∨ ci = 21 ∨ ci = 23) {H1 : Heap} (hP : va_P D cls ((ns.map (cf D ad I L G)).set q (ad n, .inl (D.1 ci, N, .inl (upd (I n) k v)))) H1) (hD : va_D A ((ns.map (cf D ad I L G)).set q (ad n, .inl (D.1 ci, N, .inl (upd (I n) k v))))) : Mem D A ad ns (u2 I n k v) L G H1 := by
  have e1 : (ad n, (.inl (D.1 ci, N, .inl (upd (I n) k v)) : va_E)) = cf D ad (u2 I n k v) L G n := by rw [cf, cE_int hk hc, u2_at]; rfl
  have e2 : (ns.map (cf D ad I L G)).set q (cf D ad (u2 I n k v) L G n) = ns.map (cf D ad (u2 I n k v) L G) := map_set hM.2.2.1 hq (fun m' _ hm => cf_congr rfl (u2_ne I k v hm) rfl rfl (fun _ _ => rfl))
  rw [e1, e2] at hP hD
  exact ⟨hP, hD, hM.2.2.1, hM.2.2.2.1, fun m' hm' j => by rw [u2_ne I k v (ne_of hn hm')]; exact hM.2.2.2.2 m' hm' j⟩
theorem m_iast (n : Nat) (hx : p.tables.exec = Jvm.exec) (hb : c.code = cc) (hE : EV D A s s.heap) (hM : Mem D A ad ns I L G H) (hS : va_S A s.heap H locs) (hn : n ∈ ns) (hk : kd n = (20, N)) {i x : Int32} (hin : vp_in i N) (hdg : decode cc pc = .ok (.iastore, 1))
    (kk : ∀ (H1 : Heap) (locs1 : List Loc) (I1 : MI), I1 = u2 I n i.toNatClampNeg x → Mem D A ad ns I1 L G H1 → va_S A s.heap H1 locs1 → W p l e R s m args below meth c H1 locs1 cells slots Q (F0 m (pc + 1) ls rest)) : W p l e R s m args below meth c H locs cells slots Q (F0 m pc ls (.int x :: .int i :: .ref (ad n) :: rest)) := by
  obtain ⟨q, hq, hc⟩ := Mem.at (D := D) (A := A) (ad := ad) (I := I) (L := L) (G := G) hn
  rw [cE_int hk (Or.inl rfl)] at hc
  exact va_iast hx hb hE.1 hM.1 hM.2.1 hS q 0 hc rfl hin hdg (fun H1 locs1 hP hD hS => kk H1 locs1 _ rfl (hM.putI hn hq hk (Or.inl rfl) hP hD) hS)
theorem m_bast (n : Nat) (hx : p.tables.exec = Jvm.exec) (hb : c.code = cc) (hE : EV D A s s.heap) (hM : Mem D A ad ns I L G H) (hS : va_S A s.heap H locs) (hn : n ∈ ns) (hk : kd n = (21, N)) {i x : Int32} (hin : vp_in i N) (hdg : decode cc pc = .ok (.bastore, 1))
    (kk : ∀ (H1 : Heap) (locs1 : List Loc) (I1 : MI), I1 = u2 I n i.toNatClampNeg (vp_nar .byte x) → Mem D A ad ns I1 L G H1 → va_S A s.heap H1 locs1 → W p l e R s m args below meth c H1 locs1 cells slots Q (F0 m (pc + 1) ls rest)) : W p l e R s m args below meth c H locs cells slots Q (F0 m pc ls (.int x :: .int i :: .ref (ad n) :: rest)) := by
  obtain ⟨q, hq, hc⟩ := Mem.at (D := D) (A := A) (ad := ad) (I := I) (L := L) (G := G) hn
  rw [cE_int hk (Or.inr (Or.inl rfl))] at hc
  exact va_bast hx hb hE.1 hM.1 hM.2.1 hS q 1 hc rfl hin hdg (fun H1 locs1 hP hD hS => kk H1 locs1 _ rfl (hM.putI hn hq hk (Or.inr (Or.inl rfl)) hP hD) hS)
theorem m_zast (n : Nat) (hx : p.tables.exec = Jvm.exec) (hb : c.code = cc) (hE : EV D A s s.heap) (hM : Mem D A ad ns I L G H) (hS : va_S A s.heap H locs) (hn : n ∈ ns) (hk : kd n = (23, N)) {i x : Int32} (hin : vp_in i N) (hdg : decode cc pc = .ok (.bastore, 1))
    (kk : ∀ (H1 : Heap) (locs1 : List Loc) (I1 : MI), I1 = u2 I n i.toNatClampNeg (vp_nar .boolean x) → Mem D A ad ns I1 L G H1 → va_S A s.heap H1 locs1 → W p l e R s m args below meth c H1 locs1 cells slots Q (F0 m (pc + 1) ls rest)) : W p l e R s m args below meth c H locs cells slots Q (F0 m pc ls (.int x :: .int i :: .ref (ad n) :: rest)) := by
  obtain ⟨q, hq, hc⟩ := Mem.at (D := D) (A := A) (ad := ad) (I := I) (L := L) (G := G) hn
  rw [cE_int hk (Or.inr (Or.inr rfl))] at hc
  exact va_zast hx hb hE.1 hM.1 hM.2.1 hS q 3 hc rfl hin hdg (fun H1 locs1 hP hD hS => kk H1 locs1 _ rfl (hM.putI hn hq hk (Or.inr (Or.inr rfl)) hP hD) hS)
theorem m_last (n : Nat) (hx : p.tables.exec = Jvm.exec) (hb : c.code = cc) (hE : EV D A s s.heap) (hM : Mem D A ad ns I L G H) (hS : va_S A s.heap H locs) (hn : n ∈ ns) (hk : kd n = (22, N)) {i : Int32} {x : Int64} (hin : vp_in i N) (hdg : decode cc pc = .ok (.lastore, 1))
    (kk : ∀ (H1 : Heap) (locs1 : List Loc) (L1 : ML), L1 = u2 L n i.toNatClampNeg x → Mem D A ad ns I L1 G H1 → va_S A s.heap H1 locs1 → W p l e R s m args below meth c H1 locs1 cells slots Q (F0 m (pc + 1) ls rest)) : W p l e R s m args below meth c H locs cells slots Q (F0 m pc ls (.long x :: .int i :: .ref (ad n) :: rest)) := by
  obtain ⟨q, hq, hc⟩ := Mem.at (D := D) (A := A) (ad := ad) (I := I) (L := L) (G := G) hn
  rw [cE_long hk] at hc
  refine va_last hx hb hE.1 hM.1 hM.2.1 hS q 2 hc rfl hin hdg (fun H1 locs1 hP hD hS => ?_)
  have e1 : (ad n, (.inl (D.1 22, N, .inr (.inl (vp_updL (L n) i.toNatClampNeg x))) : va_E)) = cf D ad I (u2 L n i.toNatClampNeg x) G n := by rw [cf, cE_long hk, u2_at]; rfl
  have e2 : (ns.map (cf D ad I L G)).set q (cf D ad I (u2 L n i.toNatClampNeg x) G n) = ns.map (cf D ad I (u2 L n i.toNatClampNeg x) G) := map_set hM.2.2.1 hq (fun m' _ hm => cf_congr rfl rfl (u2_ne L _ x hm) rfl (fun _ _ => rfl))
  rw [e1, e2] at hP hD
  exact kk H1 locs1 _ rfl ⟨hP, hD, hM.2.2.1, hM.2.2.2.1, fun m' hm' j => by rw [u2_ne L _ x (ne_of hn hm')]; exact hM.2.2.2.2 m' hm' j⟩ hS
theorem m_aast (n g : Nat) {ck : Nat} (hx : p.tables.exec = Jvm.exec) (hb : c.code = cc) (hE : EV D A s s.heap) (hM : Mem D A ad ns I L G H) (hS : va_S A s.heap H locs) (hn : n ∈ ns) (hk : kd n = (ci, N)) (hg : g ∈ ns) (hg0 : g ≠ 0) {Ng : Nat} (hkg : kd g = (ck, Ng)) (hcc : ci = 24 ∧ ck = 8 ∨ ci = 25 ∧ ck = 3) {i : Int32} (hin : vp_in i N) (hdg : decode cc pc = .ok (.aastore, 1))
    (kk : ∀ (H1 : Heap) (locs1 : List Loc) (G1 : MG), G1 = u2 G n i.toNatClampNeg g → Mem D A ad ns I L G1 H1 → va_S A s.heap H1 locs1 → W p l e R s m args below meth c H1 locs1 cells slots Q (F0 m (pc + 1) ls rest)) : W p l e R s m args below meth c H locs cells slots Q (F0 m pc ls (.ref (ad g) :: .int i :: .ref (ad n) :: rest)) := by
  obtain ⟨q, hq, hc⟩ := Mem.at (D := D) (A := A) (ad := ad) (I := I) (L := L) (G := G) hn
  obtain ⟨q2, hq2, hc2⟩ := Mem.at (D := D) (A := A) (ad := ad) (I := I) (L := L) (G := G) hg
  have hci : ci = 24 ∨ ci = 25 := by rcases hcc with ⟨h, -⟩ | ⟨h, -⟩ <;> simp [h]
  have hck : ck < 20 := by rcases hcc with ⟨-, h⟩ | ⟨-, h⟩ <;> simp [h]
  rw [cE_ref hk hci] at hc
  rw [cE_obj hkg hck] at hc2
  have key : ∀ (H1 : Heap) (locs1 : List Loc), va_P D cls ((ns.map (cf D ad I L G)).set q (ad n, .inl (D.1 ci, N, .inr (.inr (.inr (.inr (va_up (fun k => rn ad (G n k)) i.toNatClampNeg (some (ad g)))))))) ) H1 → va_D A ((ns.map (cf D ad I L G)).set q (ad n, .inl (D.1 ci, N, .inr (.inr (.inr (.inr (va_up (fun k => rn ad (G n k)) i.toNatClampNeg (some (ad g)))))))) ) → va_S A s.heap H1 locs1 → W p l e R s m args below meth c H1 locs1 cells slots Q (F0 m (pc + 1) ls rest) := by
    intro H1 locs1 hP hD hS
    have e0 : va_up (fun k => rn ad (G n k)) i.toNatClampNeg (some (ad g)) = fun k => rn ad (u2 G n i.toNatClampNeg g n k) := by
      funext j
      rw [u2_at]
      by_cases hj : j = i.toNatClampNeg
      · subst hj
        rw [va_up_self, va_up_self]
        simp [rn, hg0]
      · rw [va_up_ne _ _ hj, va_up_ne _ _ hj]
    have e1 : (ad n, (.inl (D.1 ci, N, .inr (.inr (.inr (.inr (va_up (fun k => rn ad (G n k)) i.toNatClampNeg (some (ad g))))))) : va_E)) = cf D ad I L (u2 G n i.toNatClampNeg g) n := by rw [cf, cE_ref hk hci, e0]
    have e2 : (ns.map (cf D ad I L G)).set q (cf D ad I L (u2 G n i.toNatClampNeg g) n) = ns.map (cf D ad I L (u2 G n i.toNatClampNeg g)) := map_set hM.2.2.1 hq (fun m' _ hm => cf_congr rfl rfl rfl (u2_ne G _ g hm) (fun _ _ => rfl))
    rw [e1, e2] at hP hD
    refine kk H1 locs1 _ rfl ⟨hP, hD, hM.2.2.1, fun m' hm' j => ?_, fun m' hm' j => by rw [u2_ne G _ g (ne_of hn hm')]; exact hM.2.2.2.2 m' hm' j⟩ hS
    by_cases h1 : m' = n
    · subst h1
      rw [u2_at]
      by_cases h2 : j = i.toNatClampNeg
      · subst h2
        rw [va_up_self]
        exact Or.inr hg
      · rw [va_up_ne _ _ h2]
        exact hM.2.2.2.1 m' hm' j
    · rw [u2_ne G _ g h1]
      exact hM.2.2.2.1 m' hm' j
  rcases hcc with ⟨rfl, rfl⟩ | ⟨rfl, rfl⟩
  · exact va_astq (r := (RX8, TX8, 18)) hx hb hE.1 hM.1 hM.2.1 hS q 4 q2 8 hc rfl hc2 rfl hin hdg key
  · exact va_astq (r := (RX3, TX3, 7)) hx hb hE.1 hM.1 hM.2.1 hS q 5 q2 3 hc rfl hc2 rfl hin hdg key
theorem m_alen (n : Nat) {ty : FieldType} {t0 : Nat} (hx : p.tables.exec = Jvm.exec) (hb : c.code = cc) (hE : EV D A s s.heap) (hM : Mem D A ad ns I L G H) (hn : n ∈ ns) (hk : kd n = (ci, N)) (hc : ci = 20 ∨ ci = 21 ∨ ci = 23) (ht : (tyl D)[t0]? = some (D.1 ci, ty)) {v : Int32} (hv : Int32.ofNat N = v) (hdg : decode cc pc = .ok (.arraylength, 1))
    (kk : W p l e R s m args below meth c H locs cells slots Q (F0 m (pc + 1) ls (.int v :: rest))) : W p l e R s m args below meth c H locs cells slots Q (F0 m pc ls (.ref (ad n) :: rest)) := by
  obtain ⟨q, hq, h2⟩ := Mem.at (D := D) (A := A) (ad := ad) (I := I) (L := L) (G := G) hn
  rw [cE_int hk hc] at h2
  exact va_alen hx hb hE.1 hM.1 q t0 h2 ht hv hdg kk
-- making
theorem Mem.grow {n q : Nat} {H1 : Heap} (hM : Mem D A ad ns I L G H) (hn : n ∉ ns) (hn0 : n ≠ 0) (hP : va_P D cls (ns.map (cf D ad I L G) ++ [(q, cE D (va_up ad n q) I L G n)]) H1) (hD : va_D A (ns.map (cf D ad I L G) ++ [(q, cE D (va_up ad n q) I L G n)])) : Mem D A (va_up ad n q) (ns ++ [n]) I L G H1 := by
  have hne : ∀ x ∈ ns, va_up ad n q x = ad x := fun x hx => va_up_ne _ _ (fun h => hn (h ▸ hx))
  have e1 : ns.map (cf D ad I L G) = ns.map (cf D (va_up ad n q) I L G) := by
    apply List.map_congr_left
    intro x hx
    refine (cf_congr (hne x hx) rfl rfl rfl (fun k hk => ?_)).symm
    rcases hM.2.2.2.1 x hx k with h | h
    · exact absurd h hk
    · exact hne _ h
  have e2 : (q, cE D (va_up ad n q) I L G n) = cf D (va_up ad n q) I L G n := by rw [cf, va_up_self]
  rw [e1, e2] at hP hD
  refine ⟨by rw [List.map_append]; exact hP, by rw [List.map_append]; exact hD, ?_, fun m' hm' k => ?_, fun m' hm' k => hM.2.2.2.2 m' (fun h => hm' (List.mem_append_left _ h)) k⟩
  · rw [List.nodup_append]
    refine ⟨hM.2.2.1, by simp, fun a ha b hb => ?_⟩
    rw [List.mem_singleton] at hb
    subst hb
    exact fun h => hn (h ▸ ha)
  · rcases List.mem_append.mp hm' with h | h
    · rcases hM.2.2.2.1 m' h k with h2 | h2
      · exact Or.inl h2
      · exact Or.inr (List.mem_append_left _ h2)
    · rw [List.mem_singleton] at h
      subst h
      exact Or.inl (hM.2.2.2.2 m' hn k).2.2
theorem up_keep {ad : Nat → Nat} {ns : List Nat} {n q : Nat} (hn : n ∉ ns) : ∀ x ∈ ns, va_up ad n q x = ad x := fun x hx => va_up_ne _ _ (fun h => hn (h ▸ hx))
theorem m_newi (n : Nat) {atype : ArrayType} {ty : FieldType} {t0 : Nat} {v : Int32} (hx : p.tables.exec = Jvm.exec) (hb : c.code = cc) (hts : ∀ w ∈ gt, w.before args s = true) (hE : EV D A s s.heap) (hM : Mem D A ad ns I L G H) (hS : va_S A s.heap H locs) (hA : ∀ q, s.heap.size ≤ q → A q) (hn : n ∉ ns) (hn0 : n ≠ 0) (hk : kd n = (ci, N)) (hc : ci = 20 ∨ ci = 21 ∨ ci = 23) (ht : (tyl D)[t0]? = some (D.1 ci, ty)) (hobj : ∀ (U : State) (x : ClassId), va_RA U x ty → U.vm.findClass ("[" ++ ty.toString) = some x) (harr : Cond.arrayClass ty ∈ gt) (hty : newarray.typeOf atype = ty) (hdef : defaultValue ty = .int 0) (hv0 : ¬ v < 0) (hvN : v.toNatClampNeg = N) (hby : N * componentBytes ty ≤ 536870912) (hcells : cells + 1 ≤ R.cells) (hslots : slots + N ≤ R.slots) (hdg : decode cc pc = .ok (.newarray atype, 2))
    (kk : ∀ (H1 : Heap) (ad1 : Nat → Nat), (∀ x ∈ ns, ad1 x = ad x) → Mem D A ad1 (ns ++ [n]) I L G H1 → va_S A s.heap H1 locs → W p l e R s m args below meth c H1 locs (cells + 1) (slots + N) Q (F0 m (pc + 2) ls (.ref (ad1 n) :: rest))) : W p l e R s m args below meth c H locs cells slots Q (F0 m pc ls (.int v :: rest)) := by
  refine va_newa (a0 := (N, .inl (fun _ => 0))) hx hb (by rw [hty]; exact hts _ harr) hty hE.1 hM.1 hM.2.1 hS hA (fun cA => by rw [vp_cell_i, hdef]) hv0 hvN hby hcells hslots hdg (fun q cA H1 hK hP hD hS => ?_)
  have h1 := hobj s cA (hK.2 (tyl D).length (cA, ty) (by simp)).2
  have h2 := hobj s (D.1 ci) (hE.1.2 t0 _ ht).2
  have h3 : cA = D.1 ci := Option.some.inj (h1.symm.trans h2)
  subst h3
  have e1 : (.inl (D.1 ci, N, .inl (fun _ => 0)) : va_E) = cE D (va_up ad n q) I L G n := by
    rw [cE_int hk hc, show I n = fun _ => 0 from funext fun k => (hM.2.2.2.2 n hn k).1]
  rw [e1] at hP hD
  have := kk H1 (va_up ad n q) (up_keep hn) (hM.grow hn hn0 hP hD) hS
  rwa [va_up_self] at this
theorem m_newl (n : Nat) {v : Int32} (hx : p.tables.exec = Jvm.exec) (hb : c.code = cc) (hts : ∀ w ∈ gt, w.before args s = true) (hE : EV D A s s.heap) (hM : Mem D A ad ns I L G H) (hS : va_S A s.heap H locs) (hA : ∀ q, s.heap.size ≤ q → A q) (hn : n ∉ ns) (hn0 : n ≠ 0) (hk : kd n = (22, N)) (harr : Cond.arrayClass .long ∈ gt) (hv0 : ¬ v < 0) (hvN : v.toNatClampNeg = N) (hby : N * componentBytes .long ≤ 536870912) (hcells : cells + 1 ≤ R.cells) (hslots : slots + N ≤ R.slots) (hdg : decode cc pc = .ok (.newarray .long, 2))
    (kk : ∀ (H1 : Heap) (ad1 : Nat → Nat), (∀ x ∈ ns, ad1 x = ad x) → Mem D A ad1 (ns ++ [n]) I L G H1 → va_S A s.heap H1 locs → W p l e R s m args below meth c H1 locs (cells + 1) (slots + N) Q (F0 m (pc + 2) ls (.ref (ad1 n) :: rest))) : W p l e R s m args below meth c H locs cells slots Q (F0 m pc ls (.int v :: rest)) := by
  refine va_newa (atype := .long) (ty := .long) (a0 := (N, .inr (.inl (fun _ => 0)))) hx hb (hts (Cond.arrayClass .long) harr) rfl hE.1 hM.1 hM.2.1 hS hA (fun cA => rfl) hv0 hvN hby hcells hslots hdg (fun q cA H1 hK hP hD hS => ?_)
  have h1 : s.vm.findClass ("[" ++ FieldType.long.toString) = some cA := (hK.2 (tyl D).length (cA, .long) (by simp)).2
  have h2 : s.vm.findClass ("[" ++ FieldType.long.toString) = some (D.1 22) := (hE.1.2 2 (D.1 22, .long) rfl).2
  have h3 : cA = D.1 22 := Option.some.inj (h1.symm.trans h2)
  subst h3
  have e1 : (.inl (D.1 22, N, .inr (.inl (fun _ => 0))) : va_E) = cE D (va_up ad n q) I L G n := by
    rw [cE_long hk, show L n = fun _ => 0 from funext fun k => (hM.2.2.2.2 n hn k).2.1]
  rw [e1] at hP hD
  have := kk H1 (va_up ad n q) (up_keep hn) (hM.grow hn hn0 hP hD) hS
  rwa [va_up_self] at this
theorem m_newq (n : Nat) {t0 : Nat} {v : Int32} (hx : p.tables.exec = Jvm.exec) (hb : c.code = cc) (hts : ∀ w ∈ gt, w.before args s = true) (hown : s.vm.findClass own = some m.cls) (hE : EV D A s s.heap) (hM : Mem D A ad ns I L G H) (hS : va_S A s.heap H locs) (hA : ∀ q, s.heap.size ≤ q → A q) (hn : n ∉ ns) (hn0 : n ≠ 0) (hk : kd n = (ci, N)) (hc : ci = 24 ∨ ci = 25) (ht : (tyl D)[t0]? = some (D.1 ci, .object C)) (hAO : va_AO C s) (hcl : Cond.classLink own index C ∈ gt) (hv0 : ¬ v < 0) (hvN : v.toNatClampNeg = N) (hby : N * 4 ≤ 536870912) (hcells : cells + 1 ≤ R.cells) (hslots : slots + N ≤ R.slots) (hdg : decode cc pc = .ok (.anewarray index, 3))
    (kk : ∀ (H1 : Heap) (ad1 : Nat → Nat), (∀ x ∈ ns, ad1 x = ad x) → Mem D A ad1 (ns ++ [n]) I L G H1 → va_S A s.heap H1 locs → W p l e R s m args below meth c H1 locs (cells + 1) (slots + N) Q (F0 m (pc + 3) ls (.ref (ad1 n) :: rest))) : W p l e R s m args below meth c H locs cells slots Q (F0 m pc ls (.int v :: rest)) := by
  refine va_newq hx hb hown (hts _ hcl) hAO hE.1 hM.1 hM.2.1 hS hA hv0 hvN hby hcells hslots hdg (fun q cA H1 hK hP hD hS => ?_)
  obtain ⟨-, -, -, -, -, h1⟩ : ∃ (kA : Class) (comp : ClassId), _ ∧ _ ∧ _ ∧ _ := (hK.2 (tyl D).length (cA, .object C) (by simp)).2
  obtain ⟨-, -, -, -, -, h2⟩ : ∃ (kA : Class) (comp : ClassId), _ ∧ _ ∧ _ ∧ _ := (hE.1.2 t0 _ ht).2
  have h3 : cA = D.1 ci := Option.some.inj (h1.symm.trans h2)
  subst h3
  have e1 : (.inl (D.1 ci, N, .inr (.inr (.inr (.inr (fun _ => none))))) : va_E) = cE D (va_up ad n q) I L G n := by
    rw [cE_ref hk hc]
    have : (fun k => rn (va_up ad n q) (G n k)) = fun _ => none := funext fun k => by rw [(hM.2.2.2.2 n hn k).2.2]; simp [rn]
    rw [this]
  rw [e1] at hP hD
  have := kk H1 (va_up ad n q) (up_keep hn) (hM.grow hn hn0 hP hD) hS
  rwa [va_up_self] at this
theorem m_new (n : Nat) (hx : p.tables.exec = Jvm.exec) (hb : c.code = cc) (hts : ∀ w ∈ gt, w.before args s = true) (hown : s.vm.findClass own = some m.cls) (hE : EV D A s s.heap) (oc : OC ci C T ty0 N) (hM : Mem D A ad ns I L G H) (hS : va_S A s.heap H locs) (hA : ∀ q, s.heap.size ≤ q → A q) (hn : n ∉ ns) (hn0 : n ≠ 0) (hk : kd n = (ci, N)) (hdf : ∀ j, j < N → defaultValue (ty0 j) = if sk ci j = true then .null else .int 0) (hcl : Cond.classLink own index C ∈ gt) (hinst : Cond.instantiable C N ∈ gt) (hini : Cond.initialized C ∈ gt) (hcells : cells + 1 ≤ R.cells) (hslots : slots + N ≤ R.slots) (hdg : decode cc pc = .ok (.new index, 3))
    (kk : ∀ (H1 : Heap) (ad1 : Nat → Nat), (∀ x ∈ ns, ad1 x = ad x) → Mem D A ad1 (ns ++ [n]) I L G H1 → va_S A s.heap H1 locs → W p l e R s m args below meth c H1 locs (cells + 1) (slots + N) Q (F0 m (pc + 3) ls (.ref (ad1 n) :: rest))) : W p l e R s m args below meth c H locs cells slots Q (F0 m pc ls rest) := by
  refine va_new (ci := ci) (fs := (List.range N).map (fun j => if sk ci j = true then .null else .int 0)) hx hb hts oc.2.2.1 ty0 oc.2.2.2.1 hown (hts _ hcl) (hts _ hinst) (hts _ hini) hE.1 hM.1 hM.2.1 hS hA oc.1 (fun j hj => ?_) hcells hslots hdg (fun q H1 hP hD hS => ?_)
  · rw [hdf j hj, vp_V, List.getD_eq_getElem?_getD, List.getElem?_map, List.getElem?_range hj]
    rfl
  · have e0 : (fun j => if sk ci j = true then Value.null else .int 0) = sv (va_up ad n q) I G n ci := by
      funext j
      obtain ⟨h1, -, h3⟩ := hM.2.2.2.2 n hn j
      simp only [sv, h1, h3, rn, if_true, va_rf]
    have e1 : (.inr (ci, (List.range N).map (fun j => if sk ci j = true then Value.null else .int 0)) : va_E) = cE D (va_up ad n q) I L G n := by
      rw [cE_obj hk oc.2.1, e0]
    rw [e1] at hP hD
    have := kk H1 (va_up ad n q) (up_keep hn) (hM.grow hn hn0 hP hD) hS
    rwa [va_up_self] at this
end MR
