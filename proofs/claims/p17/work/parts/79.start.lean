-- the law's start: what the Statement gives, as the environment of the store model
theorem mk_OF {args : Array Value} {s : State} {t : Term} {o n d : String} {a : Nat} {v : Value} {A : Nat → Prop} (ht : t.eval args s none [] s = some (.ref a)) (h : (Term.field t o n d).eval args s none [] s = some v) (hA : ∀ a : Nat, a < s.heap.size → ¬ A a) : va_OF o n d v a A s s.heap := by
  cases hf : s.fieldFound? o n d with
  | none => simp [Term.eval, ht, State.fieldOf?, State.fieldNamed?, hf] at h
  | some x =>
    obtain ⟨c, k, i, f⟩ := x
    obtain ⟨h1, cell, h2, h3, -, -, h6⟩ := Term.field_spec hf ht h
    exact ⟨c, k, i, f, cell, hf, h1, h2, h3, h6, hA a (Array.getElem?_eq_some_iff.mp h2).1⟩
def sQ (q : String × Nat × String × List Int32) : List Cond := [Cond.exactly (.string q.1 q.2.1) "java/lang/String", Cond.eq (.field (.string q.1 q.2.1) "java/lang/String" "coder" "B") (.int 0), Cond.arrayOf (.field (.string q.1 q.2.1) "java/lang/String" "value" "[B") .byte, Cond.eq (.length (.field (.string q.1 q.2.1) "java/lang/String" "value" "[B")) (.int (Int32.ofNat q.2.2.2.length))] ++ (List.range q.2.2.2.length).map (fun j => Cond.eq (.elem (.field (.string q.1 q.2.1) "java/lang/String" "value" "[B") (.int (Int32.ofNat j))) (.int (q.2.2.2.getD j 0)))
def sQx : List Nat := [53, 60, 67, 75, 81, 90, 97, 103, 110, 119, 127, 136, 145, 155, 163, 173, 181, 186, 191, 196, 201, 206, 211, 216, 221, 228, 236, 244]
theorem sQ_zp : (sq.zip sQx).map (fun p => p.1) = sq := by decide +kernel
theorem sQ_dr : ∀ p ∈ sq.zip sQx, ((flatC (Jvm.Cond.and given_1 narrow_1)).drop p.2).take (sQ p.1).length = sQ p.1 := by decide +kernel
theorem sQ_in : ∀ q ∈ sq, ∀ c ∈ sQ q, c ∈ flatC (Jvm.Cond.and given_1 narrow_1) := by
  intro q hq c hc
  rw [← sQ_zp] at hq
  obtain ⟨p, hp, rfl⟩ := List.mem_map.mp hq
  have h := sQ_dr p hp
  exact List.mem_of_mem_drop (i := p.2) (List.mem_of_mem_take (i := (sQ p.1).length) (by rw [h]; exact hc))
theorem sQ_rf : ∀ q ∈ sq, Cond.stringRef q.1 q.2.1 q.2.2.1 ∈ lw_tbl := by decide +kernel
theorem sQ_len : ∀ q ∈ sq, q.2.2.2.length < 100 := by decide +kernel
theorem mk_SC {args : Array Value} {s : State} {A : Nat → Prop} (hts : ∀ w ∈ lw_tbl, w.before args s = true) (hgv : (Jvm.Cond.and given_1 narrow_1).before args s = true) (hA : ∀ a : Nat, a < s.heap.size → ¬ A a) (q : String × Nat × String × List Int32) (hq : q ∈ sq) :
    ∃ r : Nat × Nat, vk_R q.1 q.2.1 q.2.2.1 r.1 s ∧ va_O "java/lang/String" r.1 A s s.heap ∧ va_OF "java/lang/String" "coder" "B" (.int 0) r.1 A s s.heap ∧ va_OF "java/lang/String" "value" "[B" (.ref r.2) r.1 A s s.heap ∧ va_T .byte r.2 q.2.2.2.length (fun j => .int (q.2.2.2.getD j 0)) A s s.heap := by
  have hf := flat_of_before _ hgv
  have h0 := hts _ (sQ_rf q hq)
  have hc : ∀ c ∈ sQ q, c.before args s = true := fun c hc => hf c (sQ_in q hq c hc)
  have h1 : (Cond.exactly (.string q.1 q.2.1) "java/lang/String").before args s = true := hc _ (by simp [sQ])
  have h2 : (Cond.eq (.field (.string q.1 q.2.1) "java/lang/String" "coder" "B") (.int 0)).before args s = true := hc _ (by simp [sQ])
  have h3 : (Cond.arrayOf (.field (.string q.1 q.2.1) "java/lang/String" "value" "[B") .byte).before args s = true := hc _ (by simp [sQ])
  have h4 : (Cond.eq (.length (.field (.string q.1 q.2.1) "java/lang/String" "value" "[B")) (.int (Int32.ofNat q.2.2.2.length))).before args s = true := hc _ (by simp [sQ])
  have h5 : ∀ j, j < q.2.2.2.length → (Cond.eq (.elem (.field (.string q.1 q.2.1) "java/lang/String" "value" "[B") (.int (Int32.ofNat j))) (.int (q.2.2.2.getD j 0))).before args s = true := by
    intro j hj
    refine hc _ ?_
    simp only [sQ]
    exact List.mem_append_right _ (List.mem_map.mpr ⟨j, List.mem_range.mpr hj, rfl⟩)
  obtain ⟨a, c, cA, kA, q1, -⟩ := Cond.exactly_spec (args := args) (first := s) (o := none) (s := s) (idx := []) (t := .string q.1 q.2.1) (cls := "java/lang/String") h1
  obtain ⟨v, hv, hT⟩ := va_Tof (tm := .field (.string q.1 q.2.1) "java/lang/String" "value" "[B") (ty := .byte) (N := q.2.2.2.length) (f := fun j => .int (q.2.2.2.getD j 0)) (A := A) (by have := sQ_len q hq; omega) h3 (Cond.eq_int h4 rfl) (fun j hj => Cond.eq_int (h5 j hj) rfl) hA
  exact ⟨(a, v), vk_R.of h0 q1, va_Oof h1 q1 hA, mk_OF q1 (Cond.eq_int h2 rfl) hA, mk_OF q1 hv hA, hT⟩
def tQ (nm : String) (f : List Int32) : List Cond := [Cond.arrayOf (.static "OneSunbeam" nm "[I") .int, Cond.eq (.length (.static "OneSunbeam" nm "[I")) (.int 8)] ++ (List.range 8).map (fun j => Cond.eq (.elem (.static "OneSunbeam" nm "[I") (.int (Int32.ofNat j))) (.int (f.getD j 0)))
theorem tQ_X : ∀ c ∈ tQ "STEP_X" stX, c ∈ flatC (Jvm.Cond.and given_1 narrow_1) := by decide +kernel
theorem tQ_Y : ∀ c ∈ tQ "STEP_Y" stY, c ∈ flatC (Jvm.Cond.and given_1 narrow_1) := by decide +kernel
theorem mk_TBL {args : Array Value} {s : State} {A : Nat → Prop} {nm : String} {f : List Int32} (hf : ∀ c ∈ tQ nm f, c.before args s = true) (hl : (Cond.laysStatic "OneSunbeam" nm "[I").before args s = true) (hini : (Cond.initialized "OneSunbeam").before args s = true) (hA : ∀ a : Nat, a < s.heap.size → ¬ A a) :
    ∃ t : Nat, va_Z "OneSunbeam" nm "[I" (.ref t) A s s.heap ∧ va_T .int t 8 (fun j => .int (f.getD j 0)) A s s.heap := by
  have h3 : (Cond.arrayOf (.static "OneSunbeam" nm "[I") .int).before args s = true := hf _ (by simp [tQ])
  have h4 : (Cond.eq (.length (.static "OneSunbeam" nm "[I")) (.int 8)).before args s = true := hf _ (by simp [tQ])
  have h5 : ∀ j, j < 8 → (Cond.eq (.elem (.static "OneSunbeam" nm "[I") (.int (Int32.ofNat j))) (.int (f.getD j 0))).before args s = true := by
    intro j hj
    refine hf _ ?_
    simp only [tQ]
    exact List.mem_append_right _ (List.mem_map.mpr ⟨j, List.mem_range.mpr hj, rfl⟩)
  obtain ⟨t, ht, hT⟩ := va_Tof (tm := .static "OneSunbeam" nm "[I") (ty := .int) (N := 8) (f := fun j => .int (f.getD j 0)) (A := A) (by decide) h3 (Cond.eq_int h4 rfl) (fun j hj => Cond.eq_int (h5 j hj) rfl) hA
  exact ⟨t, va_Zof hl hini ht hA, hT⟩
theorem mk_arr {args : Array Value} {s : State} {ty : FieldType} (h : (Cond.arrayClass ty).before args s = true) (hv : ∀ x, s.vm.findClass ("[" ++ ty.toString) = some x → va_RA s x ty) : ∃ cA : ClassId, ArrOfT s cA ty ∧ va_RA s cA ty := by
  obtain ⟨cA, kA, comp, hfind, hk, hkind⟩ := Cond.arrayClass_spec h
  exact ⟨cA, fun N z => ⟨(fun k h => by cases h), kA, hk, comp, hkind⟩, hv cA hfind⟩
theorem gt_lw : ∀ w ∈ gt, w ∈ lw_tbl := fun _ h => (List.mem_filter.mp h).1
theorem nw_lw : ∀ w ∈ nw, w ∈ lw_tbl := by decide +kernel
theorem ao_lw : Cond.arrayOver (.object RX8) ∈ lw_tbl ∧ Cond.arrayOver (.object RX3) ∈ lw_tbl := by decide +kernel
theorem st_lw : Cond.laysStatic "OneSunbeam" "STEP_X" "[I" ∈ lw_tbl ∧ Cond.laysStatic "OneSunbeam" "STEP_Y" "[I" ∈ lw_tbl ∧ Cond.initialized "OneSunbeam" ∈ lw_tbl ∧ Cond.laysStatic "java/lang/String" "COMPACT_STRINGS" "Z" ∈ lw_tbl ∧ Cond.initialized "java/lang/String" ∈ lw_tbl ∧ Cond.laysStatic "jdk/internal/util/Preconditions" "SIOOBE_FORMATTER" "Ljava/util/function/BiFunction;" ∈ lw_tbl ∧ Cond.initialized "jdk/internal/util/Preconditions" ∈ lw_tbl := by decide +kernel
theorem cs_in : Cond.eq (.static "java/lang/String" "COMPACT_STRINGS" "Z") (.int 1) ∈ flatC (Jvm.Cond.and given_1 narrow_1) ∧ Cond.isRef (.static "jdk/internal/util/Preconditions" "SIOOBE_FORMATTER" "Ljava/util/function/BiFunction;") ∈ flatC (Jvm.Cond.and given_1 narrow_1) := by decide +kernel
set_option maxHeartbeats 4000000 in
theorem mk_EV {args : Array Value} {s : State} {A : Nat → Prop} (hts : ∀ w ∈ lw_tbl, w.before args s = true) (hgv : (Jvm.Cond.and given_1 narrow_1).before args s = true) (hA : ∀ a : Nat, a < s.heap.size → ¬ A a) : ∃ D : va_G, EV D A s s.heap := by
  have hg : ∀ w ∈ gt, w.before args s = true := fun w hw => hts w (gt_lw w hw)
  have hf := flat_of_before _ hgv
  obtain ⟨c0, i0, hk0⟩ := u_known (C := RX0) (T := TX0) (N := 7) hg oc0_w (hg _ tb_200)
  obtain ⟨c1, i1, hk1⟩ := u_known (C := RX1) (T := TX1) (N := 13) hg oc1_w (hg _ tb_124)
  obtain ⟨c2, i2, hk2⟩ := u_known (C := RX2) (T := TX2) (N := 4) hg oc2_w (hg _ tb_180)
  obtain ⟨c3, i3, hk3⟩ := u_known (C := RX3) (T := TX3) (N := 7) hg oc3_w (hg _ tb_364)
  obtain ⟨c4, i4, hk4⟩ := u_known (C := RX4) (T := TX4) (N := 14) hg oc4_w (hg _ tb_313)
  obtain ⟨c5, i5, hk5⟩ := u_known (C := RX5) (T := TX5) (N := 9) hg oc5_w (hg _ tb_228)
  obtain ⟨c6, i6, hk6⟩ := u_known (C := RX6) (T := TX6) (N := 4) hg oc6_w (hg _ tb_263)
  obtain ⟨c7, i7, hk7⟩ := u_known (C := RX7) (T := TX7) (N := 6) hg oc7_w (hg _ tb_285)
  obtain ⟨c8, i8, hk8⟩ := u_known (C := RX8) (T := TX8) (N := 18) hg oc8_w (hg _ tb_29)
  obtain ⟨c9, i9, hk9⟩ := u_known (C := RX9) (T := TX9) (N := 16) hg oc9_w (hg _ tb_21)
  obtain ⟨c10, i10, hk10⟩ := u_known (C := RX10) (T := TX10) (N := 80) hg oc10_w (hg _ tb_1173)
  obtain ⟨a20, ha20⟩ := mk_arr (ty := .int) (hg _ tb_121) (fun _ h => h)
  obtain ⟨a21, ha21⟩ := mk_arr (ty := .byte) (hg _ tb_361) (fun _ h => h)
  obtain ⟨a22, ha22⟩ := mk_arr (ty := .long) (hg _ tb_198) (fun _ h => h)
  obtain ⟨a23, ha23⟩ := mk_arr (ty := .boolean) (hg _ tb_1418) (fun _ h => h)
  obtain ⟨a24, ha24⟩ : ∃ cA : ClassId, ArrOfT s cA (.object RX8) ∧ va_RA s cA (.object RX8) := by
    obtain ⟨comp, cA, kA, f4, -, f2, f3, f1⟩ := Cond.arrayOver_spec (hts _ ao_lw.1)
    exact ⟨cA, fun N z => ⟨(fun k h => by cases h), kA, f2, comp, f3⟩, kA, comp, f2, f3, f4, f1⟩
  obtain ⟨a25, ha25⟩ : ∃ cA : ClassId, ArrOfT s cA (.object RX3) ∧ va_RA s cA (.object RX3) := by
    obtain ⟨comp, cA, kA, f4, -, f2, f3, f1⟩ := Cond.arrayOver_spec (hts _ ao_lw.2)
    exact ⟨cA, fun N z => ⟨(fun k h => by cases h), kA, f2, comp, f3⟩, kA, comp, f2, f3, f4, f1⟩
  obtain ⟨tX, hX1, hX2⟩ := mk_TBL (nm := "STEP_X") (f := stX) (A := A) (fun c hc => hf c (tQ_X c hc)) (hts _ st_lw.1) (hts _ st_lw.2.2.1) hA
  obtain ⟨tY, hY1, hY2⟩ := mk_TBL (nm := "STEP_Y") (f := stY) (A := A) (fun c hc => hf c (tQ_Y c hc)) (hts _ st_lw.2.1) (hts _ st_lw.2.2.1) hA
  have hs : ∀ i : Nat, ∃ r : Nat × Nat, ∀ q, sq[i]? = some q → vk_R q.1 q.2.1 q.2.2.1 r.1 s ∧ va_O "java/lang/String" r.1 A s s.heap ∧ va_OF "java/lang/String" "coder" "B" (.int 0) r.1 A s s.heap ∧ va_OF "java/lang/String" "value" "[B" (.ref r.2) r.1 A s s.heap ∧ va_T .byte r.2 q.2.2.2.length (fun j => .int (q.2.2.2.getD j 0)) A s s.heap := by
    intro i
    cases hi : sq[i]? with
    | none => exact ⟨(0, 0), fun q h => by cases h⟩
    | some q =>
      obtain ⟨r, hr⟩ := mk_SC (A := A) hts hgv hA q (List.mem_of_getElem? hi)
      exact ⟨r, fun q2 h => by cases h; exact hr⟩
  obtain ⟨r, hr⟩ := Classical.axiomOfChoice hs
  refine ⟨(fun k => match k with | 0 => c0 | 1 => c1 | 2 => c2 | 3 => c3 | 4 => c4 | 5 => c5 | 6 => c6 | 7 => c7 | 8 => c8 | 9 => c9 | 10 => c10 | 20 => a20 | 21 => a21 | 22 => a22 | 23 => a23 | 24 => a24 | 25 => a25 | _ => 0, fun k => match k with | 0 => i0 | 1 => i1 | 2 => i2 | 3 => i3 | 4 => i4 | 5 => i5 | 6 => i6 | 7 => i7 | 8 => i8 | 9 => i9 | 10 => i10 | 100 => fun i => (r i).1 | 101 => fun i => (r i).2 | 102 => fun i => if i = 0 then tX else tY | _ => fun _ => 0), ⟨fun c q hq => ?_, fun k q hk => ?_⟩, fun w hw => ?_, va_AO.of (hts _ ao_lw.1), va_AO.of (hts _ ao_lw.2), fun i q hq => hr i q hq, ⟨hX1, hX2⟩, ⟨hY1, hY2⟩, va_Zof (hts _ st_lw.2.2.2.1) (hts _ st_lw.2.2.2.2.1) (Cond.eq_int (hf _ cs_in.1) rfl) hA, va_Zqof (hts _ st_lw.2.2.2.2.2.1) (hts _ st_lw.2.2.2.2.2.2) (hf _ cs_in.2) hA⟩
  · match c, hq with
    | 0, hq => cases hq; exact hk0
    | 1, hq => cases hq; exact hk1
    | 2, hq => cases hq; exact hk2
    | 3, hq => cases hq; exact hk3
    | 4, hq => cases hq; exact hk4
    | 5, hq => cases hq; exact hk5
    | 6, hq => cases hq; exact hk6
    | 7, hq => cases hq; exact hk7
    | 8, hq => cases hq; exact hk8
    | 9, hq => cases hq; exact hk9
    | 10, hq => cases hq; exact hk10
    | k + 11, hq => simp [cls] at hq
  · match k, hk with
    | 0, hk => cases hk; exact ha20
    | 1, hk => cases hk; exact ha21
    | 2, hk => cases hk; exact ha22
    | 3, hk => cases hk; exact ha23
    | 4, hk => cases hk; exact ha24
    | 5, hk => cases hk; exact ha25
    | k + 6, hk => simp [tyl] at hk
  · rcases nw_ok w hw with ⟨a, i, x, h, rfl⟩ | ⟨a, i, b, n, d, h, rfl⟩
    · exact va_Nw.of rfl (hts _ (nw_lw _ hw))
    · exact va_Nw.of rfl (hts _ (nw_lw _ hw))
