abbrev cls : List vw_C := [(RX0, TX0, 7), (RX1, TX1, 13), (RX2, TX2, 4), (RX3, TX3, 7), (RX4, TX4, 14), (RX5, TX5, 9), (RX6, TX6, 4), (RX7, TX7, 6), (RX8, TX8, 18), (RX9, TX9, 16), (RX10, TX10, 80)]
/-- which slots of a kind of object hold references -/
def skl : List (List Bool) := [[true, true, true, true, true, false, false], [true, true, false, false, false, false, false, false, false, true, true, false, false], [true, true, true, false], [true, true, true, true, true, false, false], [true, true, false, false, false, false, false, false, false, false, false, false, false, true], [true, true, true, true, true, false, false, false, false], [false, false, false, true], [false, false, false, true, true, false], [false, false, false, false, false, false, false, false, false, false, true, true, true, true, true, true, true, true], [true, true, true, true, true, true, true, true, true, true, true, true, true, true, false, false], [false, true, true, true, true, true, true, true, true, true, true, true, true, true, true, true, true, true, true, true, true, true, true, true, false, false, false, false, false, false, false, false, false, false, true, true, true, true, true, true, true, true, true, true, true, true, true, true, true, true, true, false, false, false, false, false, false, false, true, false, true, true, true, false, true, false, true, true, true, true, true, true, true, true, false, false, true, true, false, false]]
def sk (ci k : Nat) : Bool := (skl.getD ci []).getD k false
/-- kind and length of what has a name: kinds below 20 are objects (their class), 20 ints, 21 bytes, 22 longs, 23 booleans, 24 and 25 rows of objects -/
def kd0 (n : Nat) : Nat × Nat := match n with
  | 0 => (9, 16)
  | 1 => (24, 4)
  | 2 => (25, 6)
  | 3 => (21, 400)
  | 4 => (20, 8)
  | 10 => (1, 13)
  | 11 => (20, 8)
  | 12 => (20, 576)
  | 13 => (20, 60)
  | 14 => (20, 60)
  | 20 => (2, 4)
  | 21 => (20, 8)
  | 22 => (22, 64)
  | 30 => (0, 7)
  | 31 => (20, 4)
  | 32 => (20, 4)
  | 33 => (20, 4)
  | 34 => (20, 4)
  | 40 => (5, 9)
  | 41 => (20, 5)
  | 42 => (20, 8)
  | 43 => (20, 192)
  | 50 => (6, 4)
  | 60 => (7, 6)
  | 61 => (20, 24)
  | 62 => (20, 24)
  | 70 => (4, 14)
  | 71 => (21, 400)
  | 72 => (20, 64)
  | _ => (99, 0)
def kd1 (n : Nat) : Nat × Nat := match n with
  | 0 => (8, 18)
  | 1 => (20, 576)
  | 2 => (20, 576)
  | 3 => (20, 576)
  | 4 => (20, 576)
  | 5 => (20, 288)
  | 6 => (20, 288)
  | 7 => (20, 240)
  | 8 => (20, 56)
  | _ => (99, 0)
def kd2 (n : Nat) : Nat × Nat := match n with
  | 0 => (3, 7)
  | 1 => (20, 400)
  | 2 => (20, 12)
  | 3 => (20, 12)
  | 4 => (20, 12)
  | 5 => (20, 12)
  | _ => (99, 0)
def kd3 (n : Nat) : Nat × Nat := match n with
  | 0 => (10, 80)
  | 1 => (20, 10)
  | 2 => (20, 576)
  | 3 => (20, 576)
  | 4 => (20, 288)
  | 5 => (20, 288)
  | 6 => (20, 576)
  | 7 => (20, 24)
  | 8 => (20, 24)
  | 9 => (20, 24)
  | 10 => (20, 24)
  | 11 => (20, 24)
  | 12 => (20, 24)
  | 13 => (20, 24)
  | 14 => (20, 24)
  | 15 => (20, 24)
  | 16 => (20, 24)
  | 17 => (20, 8)
  | 18 => (20, 8)
  | 19 => (20, 8)
  | 20 => (20, 8)
  | 21 => (20, 8)
  | 22 => (20, 8)
  | 23 => (20, 8)
  | 34 => (21, 400)
  | 35 => (20, 1800)
  | 36 => (20, 1800)
  | 37 => (20, 6)
  | 38 => (20, 72)
  | 39 => (20, 72)
  | 40 => (20, 72)
  | 41 => (20, 72)
  | 42 => (20, 402)
  | 43 => (22, 13)
  | 44 => (22, 300)
  | 45 => (20, 60)
  | 46 => (20, 60)
  | 47 => (20, 60)
  | 48 => (20, 60)
  | 49 => (20, 576)
  | 50 => (20, 8)
  | 58 => (23, 24)
  | 60 => (20, 24)
  | 61 => (20, 24)
  | 62 => (20, 24)
  | 64 => (20, 8)
  | 66 => (20, 8)
  | 67 => (20, 24)
  | 68 => (20, 24)
  | 69 => (20, 24)
  | 70 => (20, 8)
  | 71 => (20, 4)
  | 72 => (20, 4)
  | 73 => (20, 5)
  | 76 => (20, 10880)
  | 77 => (23, 4)
  | _ => (99, 0)
def kd (n : Nat) : Nat × Nat := if n < 100 then kd0 n else if n < 200 then kd1 (n % 10) else if n < 300 then kd2 (n % 10) else if n < 1000 then (99, 0) else kd3 (n - 1000)
abbrev MI : Type := Nat → Nat → Int32
abbrev ML : Type := Nat → Nat → Int64
abbrev MG : Type := Nat → Nat → Nat
abbrev MS : Type := (Nat → Nat) × List Nat × MI × ML × MG
def rn (ad : Nat → Nat) (g : Nat) : Option Nat := if g = 0 then none else some (ad g)
def sv (ad : Nat → Nat) (I : MI) (G : MG) (n ci k : Nat) : Value := if sk ci k = true then va_rf (rn ad (G n k)) else .int (I n k)
def cE (D : va_G) (ad : Nat → Nat) (I : MI) (L : ML) (G : MG) (n : Nat) : va_E :=
  if (kd n).1 < 20 then .inr ((kd n).1, (List.range (kd n).2).map (sv ad I G n (kd n).1))
  else if (kd n).1 = 22 then .inl (D.1 22, (kd n).2, .inr (.inl (L n)))
  else if (kd n).1 < 24 then .inl (D.1 (kd n).1, (kd n).2, .inl (I n))
  else .inl (D.1 (kd n).1, (kd n).2, .inr (.inr (.inr (.inr (fun k => rn ad (G n k))))))
def cf (D : va_G) (ad : Nat → Nat) (I : MI) (L : ML) (G : MG) (n : Nat) : Nat × va_E := (ad n, cE D ad I L G n)
def u2 {α : Type} (f : Nat → Nat → α) (n k : Nat) (v : α) : Nat → Nat → α := fun n' => if n' = n then va_up (f n) k v else f n'
theorem u2_at {α : Type} (f : Nat → Nat → α) (n k : Nat) (v : α) : u2 f n k v n = va_up (f n) k v := if_pos rfl
theorem u2_ne {α : Type} (f : Nat → Nat → α) {n m : Nat} (k : Nat) (v : α) (h : m ≠ n) : u2 f n k v m = f m := if_neg h
theorem u2_self {α : Type} (f : Nat → Nat → α) (n k : Nat) (v : α) : u2 f n k v n k = v := by rw [u2_at, va_up_self]
def Mem (D : va_G) (A : Nat → Prop) (ad : Nat → Nat) (ns : List Nat) (I : MI) (L : ML) (G : MG) (H : Heap) : Prop :=
  va_P D cls (ns.map (cf D ad I L G)) H ∧ va_D A (ns.map (cf D ad I L G)) ∧ ns.Nodup ∧ (∀ m ∈ ns, ∀ k, G m k = 0 ∨ G m k ∈ ns) ∧ ∀ m, m ∉ ns → ∀ k, I m k = 0 ∧ L m k = 0 ∧ G m k = 0
theorem map_set {f g : Nat → Nat × va_E} {ns : List Nat} {q n : Nat} (hn : ns.Nodup) (hq : ns[q]? = some n) (h : ∀ m ∈ ns, m ≠ n → g m = f m) : (ns.map f).set q (g n) = ns.map g := by
  have hl : q < ns.length := (List.getElem?_eq_some_iff.mp hq).1
  apply List.ext_getElem?
  intro j
  by_cases hj : j = q
  · subst hj
    rw [List.getElem?_set_self (by simpa using hl), List.getElem?_map, hq]
    rfl
  · rw [List.getElem?_set_ne (Ne.symm hj), List.getElem?_map, List.getElem?_map]
    cases hb : ns[j]? with
    | none => rfl
    | some b =>
      have hne : b ≠ n := by
        intro e
        subst e
        exact hj ((List.getElem?_inj hl hn).mp (hq.trans hb.symm)).symm
      show some (f b) = some (g b)
      rw [h b (List.mem_of_getElem? hb) hne]
theorem Mem.at {D : va_G} {A : Nat → Prop} {ad : Nat → Nat} {ns : List Nat} {I : MI} {L : ML} {G : MG} {n : Nat} (hn : n ∈ ns) : ∃ q : Nat, ns[q]? = some n ∧ (ns.map (cf D ad I L G))[q]? = some (ad n, cE D ad I L G n) := by
  obtain ⟨q, hq⟩ := List.getElem?_of_mem hn
  exact ⟨q, hq, by rw [List.getElem?_map, hq]; rfl⟩
theorem cE_obj {D : va_G} {ad : Nat → Nat} {I : MI} {L : ML} {G : MG} {n ci N : Nat} (h : kd n = (ci, N)) (hc : ci < 20) : cE D ad I L G n = .inr (ci, (List.range N).map (sv ad I G n ci)) := by
  simp only [cE, h, hc, if_true]
theorem cE_int {D : va_G} {ad : Nat → Nat} {I : MI} {L : ML} {G : MG} {n ci N : Nat} (h : kd n = (ci, N)) (hc : ci = 20 ∨ ci = 21 ∨ ci = 23) : cE D ad I L G n = .inl (D.1 ci, N, .inl (I n)) := by
  rcases hc with rfl | rfl | rfl <;> simp [cE, h]
theorem cE_long {D : va_G} {ad : Nat → Nat} {I : MI} {L : ML} {G : MG} {n N : Nat} (h : kd n = (22, N)) : cE D ad I L G n = .inl (D.1 22, N, .inr (.inl (L n))) := by
  simp [cE, h]
theorem cE_ref {D : va_G} {ad : Nat → Nat} {I : MI} {L : ML} {G : MG} {n ci N : Nat} (h : kd n = (ci, N)) (hc : ci = 24 ∨ ci = 25) : cE D ad I L G n = .inl (D.1 ci, N, .inr (.inr (.inr (.inr (fun k => rn ad (G n k)))))) := by
  rcases hc with rfl | rfl <;> simp [cE, h]
/-- what a name holds is said by its own numbers alone -/
theorem cE_congr {D : va_G} {ad ad' : Nat → Nat} {I I' : MI} {L L' : ML} {G G' : MG} {n : Nat} (hI : I' n = I n) (hL : L' n = L n) (hG : G' n = G n) (ha : ∀ k, G n k ≠ 0 → ad' (G n k) = ad (G n k)) : cE D ad' I' L' G' n = cE D ad I L G n := by
  have h1 : ∀ k, rn ad' (G' n k) = rn ad (G n k) := fun k => by
    rw [hG]
    by_cases hz : G n k = 0
    · simp [rn, hz]
    · simp only [rn, hz, if_false]
      rw [ha k hz]
  have h2 : sv ad' I' G' n = sv ad I G n := by
    funext ci k
    simp only [sv, h1, hI]
  simp only [cE, h2, hL, hI, h1]
theorem cf_congr {D : va_G} {ad ad' : Nat → Nat} {I I' : MI} {L L' : ML} {G G' : MG} {n : Nat} (hn : ad' n = ad n) (hI : I' n = I n) (hL : L' n = L n) (hG : G' n = G n) (ha : ∀ k, G n k ≠ 0 → ad' (G n k) = ad (G n k)) : cf D ad' I' L' G' n = cf D ad I L G n := by
  simp only [cf, hn, cE_congr hI hL hG ha]
theorem range_set {f : Nat → Value} {N k : Nat} {v : Value} (hk : k < N) : ((List.range N).map f).set k v = (List.range N).map (va_up f k v) := by
  apply List.ext_getElem?
  intro j
  by_cases hj : j = k
  · subst hj
    rw [List.getElem?_set_self (by simpa using hk), List.getElem?_map, List.getElem?_range hk]
    simp [va_up]
  · rw [List.getElem?_set_ne (Ne.symm hj), List.getElem?_map, List.getElem?_map]
    cases hb : (List.range N)[j]? with
    | none => rfl
    | some b =>
      have hb2 : b = j := by
        have := List.getElem?_eq_some_iff.mp hb
        obtain ⟨h1, h2⟩ := this
        simpa using h2.symm
      subst hb2
      simp [va_up, hj]
-- the words
def gt : List Cond := lw_tbl.filter goodWord
theorem gt_of {w : Cond} (h : w ∈ lw_tbl) (g : goodWord w = true) : w ∈ gt := List.mem_filter.mpr ⟨h, g⟩
def wd (y : MethodName) (b : ByteArray) (n : Nat) (r : Option FieldType) : List Cond := Cond.code y b n r :: gt
theorem gt_good {x : List Cond} {y : MethodName} {b : ByteArray} {n : Nat} {r : Option FieldType} (hx : ∀ w ∈ gt, w ∈ x) (h : Cond.code y b n r ∈ gt) : GoodIn x (wd y b n r) := by
  intro w hw
  have hg : w ∈ gt := by
    rcases List.mem_cons.mp hw with rfl | h2
    · exact h
    · exact h2
  exact ⟨hx w hg, good_of_word (List.mem_filter.mp hg).2⟩
-- what holds of the machine around: classes, links of nest mates, rows of objects, constant texts, constant tables
abbrev tyl (D : va_G) : List (ClassId × FieldType) := [(D.1 20, .int), (D.1 21, .byte), (D.1 22, .long), (D.1 23, .boolean), (D.1 24, .object RX8), (D.1 25, .object RX3)]
def SC (D : va_G) (i : Nat) (q : String × Nat × String × List Int32) (A : Nat → Prop) (U : State) (H : Heap) : Prop :=
  vk_R q.1 q.2.1 q.2.2.1 (D.2 100 i) U ∧ va_O "java/lang/String" (D.2 100 i) A U H ∧ va_OF "java/lang/String" "coder" "B" (.int 0) (D.2 100 i) A U H ∧ va_OF "java/lang/String" "value" "[B" (.ref (D.2 101 i)) (D.2 100 i) A U H ∧ va_T .byte (D.2 101 i) q.2.2.2.length (fun j => .int (q.2.2.2.getD j 0)) A U H
theorem SC.warm {D : va_G} {i : Nat} {q : String × Nat × String × List Int32} {A : Nat → Prop} {s U : State} {H : Heap} (hW : s.WarmedH U.vm) (h : SC D i q A s H) : SC D i q A U H := by
  obtain ⟨h1, h2, h3, h4, h5⟩ := h
  exact ⟨h1.warm hW, h2.moved hW.alike, h3.moved hW.alike, h4.moved hW.alike, h5.moved hW.alike⟩
theorem SC.kept {D : va_G} {i : Nat} {q : String × Nat × String × List Int32} {A : Nat → Prop} {U : State} {H H1 : Heap} (h : SC D i q A U H) (hq : ∀ a : Nat, a < H.size → ¬ A a → H1[a]? = H[a]?) : SC D i q A U H1 := by
  obtain ⟨h1, h2, h3, h4, h5⟩ := h
  exact ⟨h1, h2.kept hq, h3.kept hq, h4.kept hq, h5.kept hq⟩
def stX : List Int32 := [1, 1, 0, -1, -1, -1, 0, 1]
def stY : List Int32 := [0, 1, 1, 1, 0, -1, -1, -1]
def TBL (D : va_G) (k : Nat) (nm : String) (f : List Int32) (A : Nat → Prop) (U : State) (H : Heap) : Prop := va_Z "OneSunbeam" nm "[I" (.ref (D.2 102 k)) A U H ∧ va_T .int (D.2 102 k) 8 (fun j => .int (f.getD j 0)) A U H
theorem TBL.warm {D : va_G} {k : Nat} {nm : String} {f : List Int32} {A : Nat → Prop} {s U : State} {H : Heap} (hW : s.WarmedH U.vm) (h : TBL D k nm f A s H) : TBL D k nm f A U H := by
  obtain ⟨h1, h2⟩ := h
  exact ⟨h1.moved hW.alike, h2.moved hW.alike⟩
theorem TBL.kept {D : va_G} {k : Nat} {nm : String} {f : List Int32} {A : Nat → Prop} {U : State} {H H1 : Heap} (h : TBL D k nm f A U H) (hq : ∀ a : Nat, a < H.size → ¬ A a → H1[a]? = H[a]?) : TBL D k nm f A U H1 := by
  obtain ⟨h1, h2⟩ := h
  exact ⟨h1.kept hq, h2.kept hq⟩
def nwk (w : Cond) : Prop := (∃ a i x h, w = .methodLinkNest a i x h) ∨ (∃ a i b n d h, w = .fieldLinkNest a i b n d h)
def nw : List Cond := [(Cond.methodLinkNest "OneSunbeam" (9 : Nat) ({ cls := "OneSunbeam$Town", name := "<init>", desc := "()V" } : MethodName) "OneSunbeam"), (Cond.methodLinkNest "OneSunbeam" (25 : Nat) ({ cls := "OneSunbeam$Beams", name := "<init>", desc := "()V" } : MethodName) "OneSunbeam"), (Cond.methodLinkNest "OneSunbeam" (64 : Nat) ({ cls := "OneSunbeam$Theft", name := "<init>", desc := "()V" } : MethodName) "OneSunbeam"), (Cond.methodLinkNest "OneSunbeam" (71 : Nat) ({ cls := "OneSunbeam$LawReader", name := "<init>", desc := "()V" } : MethodName) "OneSunbeam"), (Cond.methodLinkNest "OneSunbeam" (90 : Nat) ({ cls := "OneSunbeam$Law", name := "<init>", desc := "()V" } : MethodName) "OneSunbeam"), (Cond.methodLinkNest "OneSunbeam$Town" (83 : Nat) ({ cls := "OneSunbeam", name := "cellOf", desc := "(II)I" } : MethodName) "OneSunbeam"), (Cond.methodLinkNest "OneSunbeam$Keepers" (131 : Nat) ({ cls := "OneSunbeam", name := "isWithin", desc := "(III)Z" } : MethodName) "OneSunbeam"), (Cond.methodLinkNest "OneSunbeam$Beams" (102 : Nat) ({ cls := "OneSunbeam", name := "cellOf", desc := "(II)I" } : MethodName) "OneSunbeam"), (Cond.methodLinkNest "OneSunbeam$Beams" (133 : Nat) ({ cls := "OneSunbeam", name := "shareOf", desc := "(II)I" } : MethodName) "OneSunbeam"), (Cond.fieldLinkNest "OneSunbeam$Beams" (53 : Nat) "OneSunbeam" "STEP_X" "[I" "OneSunbeam"), (Cond.fieldLinkNest "OneSunbeam$Beams" (56 : Nat) "OneSunbeam" "STEP_Y" "[I" "OneSunbeam"), (Cond.methodLinkNest "OneSunbeam$Aiming" (32 : Nat) ({ cls := "OneSunbeam", name := "isWithin", desc := "(III)Z" } : MethodName) "OneSunbeam"), (Cond.fieldLinkNest "OneSunbeam$Opening" (59 : Nat) "OneSunbeam" "STEP_X" "[I" "OneSunbeam"), (Cond.fieldLinkNest "OneSunbeam$Opening" (63 : Nat) "OneSunbeam" "STEP_Y" "[I" "OneSunbeam"), (Cond.methodLinkNest "OneSunbeam$Opening" (78 : Nat) ({ cls := "OneSunbeam", name := "cellOf", desc := "(II)I" } : MethodName) "OneSunbeam"), (Cond.methodLinkNest "OneSunbeam$Theft" (73 : Nat) ({ cls := "OneSunbeam", name := "shareOf", desc := "(II)I" } : MethodName) "OneSunbeam"), (Cond.methodLinkNest "OneSunbeam$Theft" (76 : Nat) ({ cls := "OneSunbeam", name := "cellOf", desc := "(II)I" } : MethodName) "OneSunbeam"), (Cond.fieldLinkNest "OneSunbeam$Theft" (98 : Nat) "OneSunbeam" "STEP_X" "[I" "OneSunbeam"), (Cond.fieldLinkNest "OneSunbeam$Theft" (101 : Nat) "OneSunbeam" "STEP_Y" "[I" "OneSunbeam")]
theorem nw_ok : ∀ w ∈ nw, nwk w := by
  intro w hw
  simp only [nw, List.mem_cons, List.mem_nil_iff, or_false] at hw
  rcases hw with rfl | rfl | rfl | rfl | rfl | rfl | rfl | rfl | rfl | rfl | rfl | rfl | rfl | rfl | rfl | rfl | rfl | rfl | rfl <;> first | exact Or.inl ⟨_, _, _, _, rfl⟩ | exact Or.inr ⟨_, _, _, _, _, _, rfl⟩
def sq : List (String × Nat × String × List Int32) := [("OneSunbeam$LawReader", 155, "and", [97, 110, 100]), ("OneSunbeam$LawReader", 161, "day", [100, 97, 121]), ("OneSunbeam$LawReader", 163, "hour", [104, 111, 117, 114]), ("OneSunbeam$LawReader", 165, "if", [105, 102]), ("OneSunbeam$LawReader", 167, "month", [109, 111, 110, 116, 104]), ("OneSunbeam$LawReader", 169, "not", [110, 111, 116]), ("OneSunbeam$LawReader", 171, "or", [111, 114]), ("OneSunbeam$LawReader", 173, "sun", [115, 117, 110]), ("OneSunbeam$LawReader", 175, "slant", [115, 108, 97, 110, 116]), ("OneSunbeam$LawReader", 177, "turn", [116, 117, 114, 110]), ("OneSunbeamModel", 361, "turn", [116, 117, 114, 110]), ("OneSunbeamModel", 239, "hour", [104, 111, 117, 114]), ("OneSunbeamModel", 241, "month", [109, 111, 110, 116, 104]), ("OneSunbeamModel", 243, "day", [100, 97, 121]), ("OneSunbeamModel", 245, "slant", [115, 108, 97, 110, 116]), ("OneSunbeamModel", 246, "sun", [115, 117, 110]), ("OneSunbeamModel", 248, "a", [97]), ("OneSunbeamModel", 250, "b", [98]), ("OneSunbeamModel", 252, "c", [99]), ("OneSunbeamModel", 254, "d", [100]), ("OneSunbeamModel", 256, "e", [101]), ("OneSunbeamModel", 258, "f", [102]), ("OneSunbeamModel", 260, "g", [103]), ("OneSunbeamModel", 262, "h", [104]), ("OneSunbeamModel", 363, "if", [105, 102]), ("OneSunbeamModel", 343, "not", [110, 111, 116]), ("OneSunbeamModel", 357, "and", [97, 110, 100]), ("OneSunbeamModel", 359, "or", [111, 114])]
theorem nw_warm {w : Cond} (hk : nwk w) {s U : State} (hW : s.WarmedH U.vm) (h : va_Nw w s) : va_Nw w U := by
  rcases hk with ⟨a, i, x, q, rfl⟩ | ⟨a, i, b, n, d, q, rfl⟩
  · exact va_Nw.warmM hW h
  · exact va_Nw.warmF hW h
def EV (D : va_G) (A : Nat → Prop) (U : State) (H : Heap) : Prop :=
  va_K D cls (tyl D) U ∧ (∀ w ∈ nw, va_Nw w U) ∧ va_AO RX8 U ∧ va_AO RX3 U ∧ (∀ (i : Nat) (q : String × Nat × String × List Int32), sq[i]? = some q → SC D i q A U H) ∧ TBL D 0 "STEP_X" stX A U H ∧ TBL D 1 "STEP_Y" stY A U H ∧ va_Z "java/lang/String" "COMPACT_STRINGS" "Z" (.int 1) A U H ∧ va_Zq "jdk/internal/util/Preconditions" "SIOOBE_FORMATTER" "Ljava/util/function/BiFunction;" A U H
theorem EV.warm {D : va_G} {A : Nat → Prop} {s U : State} {H : Heap} (hW : s.WarmedH U.vm) (h : EV D A s H) : EV D A U H := by
  obtain ⟨h1, h2, h3, h4, h5, h6, h7, h8, h9⟩ := h
  exact ⟨va_K.moved hW.alike h1, fun w hw => nw_warm (nw_ok w hw) hW (h2 w hw), h3.moved hW.alike, h4.moved hW.alike, fun i q hq => (h5 i q hq).warm hW, h6.warm hW, h7.warm hW, h8.moved hW.alike, h9.moved hW.alike⟩
theorem EV.kept {D : va_G} {A : Nat → Prop} {U : State} {H H1 : Heap} {locs : List Loc} (h : EV D A U H) (hS : va_S A H H1 locs) : EV D A U H1 := by
  obtain ⟨h1, h2, h3, h4, h5, h6, h7, h8, h9⟩ := h
  exact ⟨h1, h2, h3, h4, fun i q hq => (h5 i q hq).kept hS.2.1, h6.kept hS.2.1, h7.kept hS.2.1, h8.kept hS.2.1, h9.kept hS.2.1⟩
-- contracts
def PM (D : va_G) (A : Nat → Prop) (ad : Nat → Nat) (ns : List Nat) (I : MI) (L : ML) (G : MG) : State → Prop := fun U => EV D A U U.heap ∧ Mem D A ad ns I L G U.heap ∧ ∀ q, U.heap.size ≤ q → A q
def BM (D : va_G) (A : Nat → Prop) : MS → State → Prop := fun u t => Mem D A u.1 u.2.1 u.2.2.1 u.2.2.2.1 u.2.2.2.2 t.heap
def Cx (p : Program) (s : State) (m : MethodId) (args : Array Value) (meth : Method) (c : Code) (y : MethodName) (b : ByteArray) (nL : Nat) (ret : Option FieldType) : Prop :=
  p.tables.exec = Jvm.exec ∧ c.code = b ∧ c.maxLocals = nL ∧ s.vm.findClass y.cls = some m.cls ∧ (∀ w ∈ gt, w.before args s = true) ∧ meth.sig.returnType = ret ∧ meth.locks = false ∧ meth.name = y.name
theorem PM.blind {D : va_G} {A : Nat → Prop} {ad : Nat → Nat} {ns : List Nat} {I : MI} {L : ML} {G : MG} {avs : List Value} : FrameBlind (va_Pc avs (PM D A ad ns I L G)) := by
  intro a U g mk h
  obtain ⟨h0, h1, h2, h3⟩ := h
  exact ⟨h0, EV.warm (s := U) (U := U.calling g mk a) (State.WarmedH.refl U) h1, h2, h3⟩
theorem m_ofW {l : Launch} {y : MethodName} {b : ByteArray} {maxL : Nat} {ret : Option FieldType} {rm : Room} {D : va_G} {A : Nat → Prop} {ad : Nat → Nat} {ns : List Nat} {I : MI} {L : ML} {G : MG} {avs : List Value} {Qc : Array Value → State → Outcome → State → Prop} {mc ms : Nat}
    (hy : plainName y.cls = true) (hlen : (lg_sl avs).length ≤ maxL)
    (body : ∀ (p : Program) (e : Env) (s : State) (m : MethodId) (below : List Frame) (meth : Method) (c : Code) (ls : Array Slot) (args : Array Value), Cx p s m args meth c y b maxL ret → EV D A s s.heap → Mem D A ad ns I L G s.heap → (∀ q, s.heap.size ≤ q → A q) → va_S A s.heap s.heap [] → lv_has ls maxL (lv_args 0 avs) →
      W p l e rm s m args below meth c s.heap [] 0 0 (MQ below Qc args s mc ms A) (F0 m 0 ls [])) :
    Met l y (wd y b maxL ret) rm (va_Pc avs (PM D A ad ns I L G)) Qc mc ms A := by
  refine Met.ofW (cc := b) (maxL := maxL) (ret := ret) hy rfl ?_
  intro p e s m args below meth c s₁ B hml hv
  obtain ⟨rfl, hE, hM, hA⟩ := hv
  have hts := atoms_spec (ws := wd y b maxL ret) B.pre
  have hl := lv_entry avs hlen
  rw [lg_entry_eq]
  exact body p e s m below meth c _ _ ⟨B.exec, B.bytes, hml, findClass_of_methodNamed B.named, fun w hw => hts w (List.mem_cons_of_mem _ hw), B.returns, B.notSynchronized, (name_of_methodNamed B.named B.method).1⟩ hE hM hA va_S.rf hl
