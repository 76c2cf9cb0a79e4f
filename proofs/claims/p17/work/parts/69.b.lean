theorem dX10_law_0 : decode cX10_law 0 = .ok (.aload_n 0, 1) := by decide +kernel
theorem dX10_law_1 : decode cX10_law 1 = .ok (.getfield 371, 3) := by decide +kernel
theorem dX10_law_4 : decode cX10_law 4 = .ok (.bipush 6, 2) := by decide +kernel
theorem dX10_law_6 : decode cX10_law 6 = .ok (.if_icmp .ne 5, 3) := by decide +kernel
theorem dX10_law_9 : decode cX10_law 9 = .ok (.iconst (-1), 1) := by decide +kernel
theorem dX10_law_10 : decode cX10_law 10 = .ok (.ireturn, 1) := by decide +kernel
theorem dX10_law_11 : decode cX10_law 11 = .ok (.aload_n 0, 1) := by decide +kernel
theorem dX10_law_12 : decode cX10_law 12 = .ok (.aload_n 0, 1) := by decide +kernel
theorem dX10_law_13 : decode cX10_law 13 = .ok (.getfield 371, 3) := by decide +kernel
theorem dX10_law_16 : decode cX10_law 16 = .ok (.putfield 294, 3) := by decide +kernel
theorem dX10_law_19 : decode cX10_law 19 = .ok (.aload_n 0, 1) := by decide +kernel
theorem dX10_law_20 : decode cX10_law 20 = .ok (.iconst 0, 1) := by decide +kernel
theorem dX10_law_21 : decode cX10_law 21 = .ok (.putfield 267, 3) := by decide +kernel
theorem dX10_law_24 : decode cX10_law 24 = .ok (.aload_n 0, 1) := by decide +kernel
theorem dX10_law_25 : decode cX10_law 25 = .ok (.iconst 0, 1) := by decide +kernel
theorem dX10_law_26 : decode cX10_law 26 = .ok (.putfield 264, 3) := by decide +kernel
theorem dX10_law_29 : decode cX10_law 29 = .ok (.aload_n 0, 1) := by decide +kernel
theorem dX10_law_30 : decode cX10_law 30 = .ok (.iconst 0, 1) := by decide +kernel
theorem dX10_law_31 : decode cX10_law 31 = .ok (.putfield 297, 3) := by decide +kernel
theorem dX10_law_34 : decode cX10_law 34 = .ok (.aload_n 0, 1) := by decide +kernel
theorem dX10_law_35 : decode cX10_law 35 = .ok (.iconst 0, 1) := by decide +kernel
theorem dX10_law_36 : decode cX10_law 36 = .ok (.putfield 337, 3) := by decide +kernel
theorem dX10_law_39 : decode cX10_law 39 = .ok (.aload_n 0, 1) := by decide +kernel
theorem dX10_law_40 : decode cX10_law 40 = .ok (.iconst 0, 1) := by decide +kernel
theorem dX10_law_41 : decode cX10_law 41 = .ok (.putfield 300, 3) := by decide +kernel
theorem dX10_law_44 : decode cX10_law 44 = .ok (.iconst 0, 1) := by decide +kernel
theorem dX10_law_45 : decode cX10_law 45 = .ok (.istore_n 1, 1) := by decide +kernel
theorem dX10_law_46 : decode cX10_law 46 = .ok (.iconst 1, 1) := by decide +kernel
theorem dX10_law_47 : decode cX10_law 47 = .ok (.istore_n 2, 1) := by decide +kernel
theorem dX10_law_48 : decode cX10_law 48 = .ok (.iload_n 2, 1) := by decide +kernel
theorem dX10_law_49 : decode cX10_law 49 = .ok (.ifCond .eq 88, 3) := by decide +kernel
theorem dX10_law_52 : decode cX10_law 52 = .ok (.aload_n 0, 1) := by decide +kernel
theorem dX10_law_53 : decode cX10_law 53 = .ok (.iload_n 1, 1) := by decide +kernel
theorem dX10_law_54 : decode cX10_law 54 = .ok (.invokevirtual 374, 3) := by decide +kernel
theorem dX10_law_57 : decode cX10_law 57 = .ok (.iinc 1 1, 3) := by decide +kernel
theorem dX10_law_60 : decode cX10_law 60 = .ok (.aload_n 0, 1) := by decide +kernel
theorem dX10_law_61 : decode cX10_law 61 = .ok (.invokevirtual 287, 3) := by decide +kernel
theorem dX10_law_64 : decode cX10_law 64 = .ok (.aload_n 0, 1) := by decide +kernel
theorem dX10_law_65 : decode cX10_law 65 = .ok (.getfield 264, 3) := by decide +kernel
theorem dX10_law_68 : decode cX10_law 68 = .ok (.ifCond .ne 32, 3) := by decide +kernel
theorem dX10_law_71 : decode cX10_law 71 = .ok (.aload_n 0, 1) := by decide +kernel
theorem dX10_law_72 : decode cX10_law 72 = .ok (.getfield 267, 3) := by decide +kernel
theorem dX10_law_75 : decode cX10_law 75 = .ok (.aload_n 0, 1) := by decide +kernel
theorem dX10_law_76 : decode cX10_law 76 = .ok (.getfield 232, 3) := by decide +kernel
theorem dX10_law_79 : decode cX10_law 79 = .ok (.if_icmp .ge 21, 3) := by decide +kernel
theorem dX10_law_82 : decode cX10_law 82 = .ok (.aload_n 0, 1) := by decide +kernel
theorem dX10_law_83 : decode cX10_law 83 = .ok (.invokevirtual 270, 3) := by decide +kernel
theorem dX10_law_86 : decode cX10_law 86 = .ok (.bipush 59, 2) := by decide +kernel
theorem dX10_law_88 : decode cX10_law 88 = .ok (.if_icmp .eq 12, 3) := by decide +kernel
theorem dX10_law_91 : decode cX10_law 91 = .ok (.aload_n 0, 1) := by decide +kernel
theorem dX10_law_92 : decode cX10_law 92 = .ok (.iconst 0, 1) := by decide +kernel
theorem dX10_law_93 : decode cX10_law 93 = .ok (.aload_n 0, 1) := by decide +kernel
theorem dX10_law_94 : decode cX10_law 94 = .ok (.getfield 267, 3) := by decide +kernel
theorem dX10_law_97 : decode cX10_law 97 = .ok (.invokevirtual 303, 3) := by decide +kernel
theorem dX10_law_100 : decode cX10_law 100 = .ok (.aload_n 0, 1) := by decide +kernel
theorem dX10_law_101 : decode cX10_law 101 = .ok (.getfield 264, 3) := by decide +kernel
theorem dX10_law_104 : decode cX10_law 104 = .ok (.ifCond .ne 18, 3) := by decide +kernel
theorem dX10_law_107 : decode cX10_law 107 = .ok (.aload_n 0, 1) := by decide +kernel
theorem dX10_law_108 : decode cX10_law 108 = .ok (.getfield 267, 3) := by decide +kernel
theorem dX10_law_111 : decode cX10_law 111 = .ok (.aload_n 0, 1) := by decide +kernel
theorem dX10_law_112 : decode cX10_law 112 = .ok (.getfield 232, 3) := by decide +kernel
theorem dX10_law_115 : decode cX10_law 115 = .ok (.if_icmp .ge 7, 3) := by decide +kernel
theorem dX10_law_118 : decode cX10_law 118 = .ok (.iconst 1, 1) := by decide +kernel
theorem dX10_law_119 : decode cX10_law 119 = .ok (.goto 4, 3) := by decide +kernel
theorem dX10_law_122 : decode cX10_law 122 = .ok (.iconst 0, 1) := by decide +kernel
theorem dX10_law_123 : decode cX10_law 123 = .ok (.istore_n 2, 1) := by decide +kernel
theorem dX10_law_124 : decode cX10_law 124 = .ok (.aload_n 0, 1) := by decide +kernel
theorem dX10_law_125 : decode cX10_law 125 = .ok (.dup, 1) := by decide +kernel
theorem dX10_law_126 : decode cX10_law 126 = .ok (.getfield 267, 3) := by decide +kernel
theorem dX10_law_129 : decode cX10_law 129 = .ok (.iconst 1, 1) := by decide +kernel
theorem dX10_law_130 : decode cX10_law 130 = .ok (.iadd, 1) := by decide +kernel
theorem dX10_law_131 : decode cX10_law 131 = .ok (.putfield 267, 3) := by decide +kernel
theorem dX10_law_134 : decode cX10_law 134 = .ok (.goto (-86), 3) := by decide +kernel
theorem dX10_law_137 : decode cX10_law 137 = .ok (.aload_n 0, 1) := by decide +kernel
theorem dX10_law_138 : decode cX10_law 138 = .ok (.iconst 0, 1) := by decide +kernel
theorem dX10_law_139 : decode cX10_law 139 = .ok (.putfield 232, 3) := by decide +kernel
theorem dX10_law_142 : decode cX10_law 142 = .ok (.aload_n 0, 1) := by decide +kernel
theorem dX10_law_143 : decode cX10_law 143 = .ok (.getfield 93, 3) := by decide +kernel
theorem dX10_law_146 : decode cX10_law 146 = .ok (.aload_n 0, 1) := by decide +kernel
theorem dX10_law_147 : decode cX10_law 147 = .ok (.getfield 294, 3) := by decide +kernel
theorem dX10_law_150 : decode cX10_law 150 = .ok (.iload_n 1, 1) := by decide +kernel
theorem dX10_law_151 : decode cX10_law 151 = .ok (.iastore, 1) := by decide +kernel
theorem dX10_law_152 : decode cX10_law 152 = .ok (.aload_n 0, 1) := by decide +kernel
theorem dX10_law_153 : decode cX10_law 153 = .ok (.dup, 1) := by decide +kernel
theorem dX10_law_154 : decode cX10_law 154 = .ok (.getfield 371, 3) := by decide +kernel
theorem dX10_law_157 : decode cX10_law 157 = .ok (.aload_n 0, 1) := by decide +kernel
theorem dX10_law_158 : decode cX10_law 158 = .ok (.getfield 264, 3) := by decide +kernel
theorem dX10_law_161 : decode cX10_law 161 = .ok (.ifCond .ne 7, 3) := by decide +kernel
theorem dX10_law_164 : decode cX10_law 164 = .ok (.iconst 1, 1) := by decide +kernel
theorem dX10_law_165 : decode cX10_law 165 = .ok (.goto 4, 3) := by decide +kernel
theorem dX10_law_168 : decode cX10_law 168 = .ok (.iconst 0, 1) := by decide +kernel
theorem dX10_law_169 : decode cX10_law 169 = .ok (.iadd, 1) := by decide +kernel
theorem dX10_law_170 : decode cX10_law 170 = .ok (.putfield 371, 3) := by decide +kernel
theorem dX10_law_173 : decode cX10_law 173 = .ok (.aload_n 0, 1) := by decide +kernel
theorem dX10_law_174 : decode cX10_law 174 = .ok (.getfield 264, 3) := by decide +kernel
theorem dX10_law_177 : decode cX10_law 177 = .ok (.ifCond .le 13, 3) := by decide +kernel
theorem dX10_law_180 : decode cX10_law 180 = .ok (.bipush (-2), 2) := by decide +kernel
theorem dX10_law_182 : decode cX10_law 182 = .ok (.aload_n 0, 1) := by decide +kernel
theorem dX10_law_183 : decode cX10_law 183 = .ok (.getfield 264, 3) := by decide +kernel
theorem dX10_law_186 : decode cX10_law 186 = .ok (.isub, 1) := by decide +kernel
theorem dX10_law_187 : decode cX10_law 187 = .ok (.goto 9, 3) := by decide +kernel
theorem dX10_law_190 : decode cX10_law 190 = .ok (.aload_n 0, 1) := by decide +kernel
theorem dX10_law_191 : decode cX10_law 191 = .ok (.getfield 371, 3) := by decide +kernel
theorem dX10_law_194 : decode cX10_law 194 = .ok (.iconst 1, 1) := by decide +kernel
theorem dX10_law_195 : decode cX10_law 195 = .ok (.isub, 1) := by decide +kernel
theorem dX10_law_196 : decode cX10_law 196 = .ok (.ireturn, 1) := by decide +kernel
theorem ce_X10_law : CeV RX10 yX10_law cX10_law 3 (some .int) 0 := ⟨tb_1499, tb_1500, tb_11, tb_1501, rfl, by decide, by decide, by decide +kernel⟩
set_option maxHeartbeats 4000000 in
set_option maxRecDepth 20000 in
theorem V_X10_law (l : Launch) (D : va_G) (A : Nat → Prop) (ad : Nat → Nat) (ns : List Nat) (I : MI) (L : ML) (G : MG) (hJ : SGM ns G) (hI : INV I) (hLM : LWM I) : Met l yX10_law (wd yX10_law cX10_law 3 (some .int)) ({ frames := 12, cells := 0, slots := 0, locals := 262 }) (va_Pc [.ref (ad (1000))] (PM D A ad ns I L G)) (va_Qi (fun r u => ∃ I2 L2, u = (ad, ns, I2, L2, G) ∧ INV I2 ∧ Kp [(1035, 1043)] [(1000, 24), (1000, 25), (1000, 26), (1000, 27), (1000, 28), (1000, 29), (1000, 30), (1000, 31), (1000, 32)] I I2 ∧ (LWM I2)) (BM D A) A) 0 0 A := by
  refine m_ofW (by decide) (Nat.le_of_ble_eq_true rfl) ?_
  intro p e s m below meth c ls args hC hE hM hA hS hl
  obtain ⟨hx, hb, hml, hown, hts, hr, hlocks, hin⟩ := hC
  have km2 : (-2 : Int32).toInt = -2 := by decide
  have km1 : (-1 : Int32).toInt = -1 := by decide
  have k0 : (0 : Int32).toInt = 0 := by decide
  have k1 : (1 : Int32).toInt = 1 := by decide
  have k6 : (6 : Int32).toInt = 6 := by decide
  have k59 : (59 : Int32).toInt = 59 := by decide
  have hI0 := hI
  have gl0 := hI.get 1000 28 (lo := 0) (hi := 6) rfl
  have hK : Kp [(1035, 1043)] [(1000, 24), (1000, 25), (1000, 26), (1000, 27), (1000, 28), (1000, 29), (1000, 30), (1000, 31), (1000, 32)] I I := Kp.rf
  have hl : lv_has ls 3 [(0, .ref (ad (1000)))] := hl
  refine lv_aload_n hx hb dX10_law_0 rfl (lv_at hl 0 rfl) ?_
  refine m_geti (1000) 28 hx hb hts hown hE oc10 hM hJ.1 rfl (by decide) rfl tb_1205 dX10_law_1 ?_
  have g1 := hI.get (1000) 28 (lo := 0) (hi := 6) rfl
  refine lv_bipush (v := (6)) hx hb dX10_law_4 (by decide) ?_
  refine lv_icmp_ne (tgt := 11) hx hb dX10_law_6 (by decide) (fun c2 => ?_) (fun c2 => ?_)
  · have hc2 := c2
    have q2 := q_ne hc2
    refine lv_aload_n hx hb dX10_law_11 rfl (lv_at hl 0 rfl) ?_
    refine lv_aload_n hx hb dX10_law_12 rfl (lv_at hl 0 rfl) ?_
    refine m_geti (1000) 28 hx hb hts hown hE oc10 hM hJ.1 rfl (by decide) rfl tb_1205 dX10_law_13 ?_
    refine m_puti (1000) 27 hx hb hts hown hE oc10 hM hS hJ.1 rfl (by decide) rfl rfl rfl rfl tb_1204 dX10_law_16 (fun H locs I3 eI3 hM hS => ?_)
    subst eI3
    have hI := hI.put (n := 1000) (k := 27) (v := I (1000) 28) (lo := 0) (hi := 5) rfl (by first | omega | decide)
    have hK := hK.put (n := 1000) (k := 27) (v := I (1000) 28) (by first | rfl | simp [inR])
    refine lv_aload_n hx hb dX10_law_19 rfl (lv_at hl 0 rfl) ?_
    refine lv_iconst (v := (0)) hx hb dX10_law_20 (by decide) ?_
    refine m_puti (1000) 25 hx hb hts hown hE oc10 hM hS hJ.1 rfl (by decide) rfl rfl rfl rfl tb_1202 dX10_law_21 (fun H locs I4 eI4 hM hS => ?_)
    subst eI4
    have hI := hI.put (n := 1000) (k := 25) (v := 0) (lo := 0) (hi := 100000) rfl (by first | omega | decide)
    have hK := hK.put (n := 1000) (k := 25) (v := 0) (by first | rfl | simp [inR])
    refine lv_aload_n hx hb dX10_law_24 rfl (lv_at hl 0 rfl) ?_
    refine lv_iconst (v := (0)) hx hb dX10_law_25 (by decide) ?_
    refine m_puti (1000) 26 hx hb hts hown hE oc10 hM hS hJ.1 rfl (by decide) rfl rfl rfl rfl tb_1203 dX10_law_26 (fun H locs I5 eI5 hM hS => ?_)
    subst eI5
    have hI := hI.putF (n := 1000) (k := 26) (v := 0) rfl
    have hK := hK.put (n := 1000) (k := 26) (v := 0) (by first | rfl | simp [inR])
    refine lv_aload_n hx hb dX10_law_29 rfl (lv_at hl 0 rfl) ?_
    refine lv_iconst (v := (0)) hx hb dX10_law_30 (by decide) ?_
    refine m_puti (1000) 29 hx hb hts hown hE oc10 hM hS hJ.1 rfl (by decide) rfl rfl rfl rfl tb_1206 dX10_law_31 (fun H locs I6 eI6 hM hS => ?_)
    subst eI6
    have hI := hI.put (n := 1000) (k := 29) (v := 0) (lo := 0) (hi := 300) rfl (by first | omega | decide)
    have hK := hK.put (n := 1000) (k := 29) (v := 0) (by first | rfl | simp [inR])
    refine lv_aload_n hx hb dX10_law_34 rfl (lv_at hl 0 rfl) ?_
    refine lv_iconst (v := (0)) hx hb dX10_law_35 (by decide) ?_
    refine m_puti (1000) 30 hx hb hts hown hE oc10 hM hS hJ.1 rfl (by decide) rfl rfl rfl rfl tb_1207 dX10_law_36 (fun H locs I7 eI7 hM hS => ?_)
    subst eI7
    have hI := hI.putF (n := 1000) (k := 30) (v := 0) rfl
    have hK := hK.put (n := 1000) (k := 30) (v := 0) (by first | rfl | simp [inR])
    refine lv_aload_n hx hb dX10_law_39 rfl (lv_at hl 0 rfl) ?_
    refine lv_iconst (v := (0)) hx hb dX10_law_40 (by decide) ?_
    refine m_puti (1000) 31 hx hb hts hown hE oc10 hM hS hJ.1 rfl (by decide) rfl rfl rfl rfl tb_1208 dX10_law_41 (fun H locs I8 eI8 hM hS => ?_)
    subst eI8
    have hI := hI.putF (n := 1000) (k := 31) (v := 0) rfl
    have hK := hK.put (n := 1000) (k := 31) (v := 0) (by first | rfl | simp [inR])
    refine lv_iconst (v := (0)) hx hb dX10_law_44 (by decide) ?_
    refine lv_istore_n (lv' := [(1, .int (0)), (0, .ref (ad (1000)))]) hx hb dX10_law_45 rfl hl (by decide) rfl (fun ls hl => ?_)
    refine lv_iconst (v := (1)) hx hb dX10_law_46 (by decide) ?_
    refine lv_istore_n (lv' := [(2, .int (1)), (1, .int (0)), (0, .ref (ad (1000)))]) hx hb dX10_law_47 rfl hl (by decide) rfl (fun ls hl => ?_)
    have pw9 : ((u2 (u2 (u2 (u2 (u2 (u2 I (1000) 27 (I (1000) 28)) (1000) 25 (0)) (1000) 26 (0)) (1000) 29 (0)) (1000) 30 (0)) (1000) 31 (0)) (1000) 24).toInt = (I (1000) 24 : Int32).toInt := congrArg Int32.toInt ((show (u2 (u2 (u2 (u2 (u2 (u2 I (1000) 27 (I (1000) 28)) (1000) 25 (0)) (1000) 26 (0)) (1000) 29 (0)) (1000) 30 (0)) (1000) 31 (0)) (1000) 24 = I (1000) 24 from by simp [u2_v]))
    have pw10 : ((u2 (u2 (u2 (u2 (u2 (u2 I (1000) 27 (I (1000) 28)) (1000) 25 (0)) (1000) 26 (0)) (1000) 29 (0)) (1000) 30 (0)) (1000) 31 (0)) (1000) 25).toInt = (0 : Int32).toInt := congrArg Int32.toInt ((show (u2 (u2 (u2 (u2 (u2 (u2 I (1000) 27 (I (1000) 28)) (1000) 25 (0)) (1000) 26 (0)) (1000) 29 (0)) (1000) 30 (0)) (1000) 31 (0)) (1000) 25 = 0 from by simp [u2_v]))
    have pw11 : ((u2 (u2 (u2 (u2 (u2 (u2 I (1000) 27 (I (1000) 28)) (1000) 25 (0)) (1000) 26 (0)) (1000) 29 (0)) (1000) 30 (0)) (1000) 31 (0)) (1000) 26).toInt = (0 : Int32).toInt := congrArg Int32.toInt ((show (u2 (u2 (u2 (u2 (u2 (u2 I (1000) 27 (I (1000) 28)) (1000) 25 (0)) (1000) 26 (0)) (1000) 29 (0)) (1000) 30 (0)) (1000) 31 (0)) (1000) 26 = 0 from by simp [u2_v]))
    have pw12 : ((u2 (u2 (u2 (u2 (u2 (u2 I (1000) 27 (I (1000) 28)) (1000) 25 (0)) (1000) 26 (0)) (1000) 29 (0)) (1000) 30 (0)) (1000) 31 (0)) (1000) 27).toInt = (I (1000) 28 : Int32).toInt := congrArg Int32.toInt ((show (u2 (u2 (u2 (u2 (u2 (u2 I (1000) 27 (I (1000) 28)) (1000) 25 (0)) (1000) 26 (0)) (1000) 29 (0)) (1000) 30 (0)) (1000) 31 (0)) (1000) 27 = I (1000) 28 from by simp [u2_v]))
    have pw13 : ((u2 (u2 (u2 (u2 (u2 (u2 I (1000) 27 (I (1000) 28)) (1000) 25 (0)) (1000) 26 (0)) (1000) 29 (0)) (1000) 30 (0)) (1000) 31 (0)) (1000) 29).toInt = (0 : Int32).toInt := congrArg Int32.toInt ((show (u2 (u2 (u2 (u2 (u2 (u2 I (1000) 27 (I (1000) 28)) (1000) 25 (0)) (1000) 26 (0)) (1000) 29 (0)) (1000) 30 (0)) (1000) 31 (0)) (1000) 29 = 0 from by simp [u2_v]))
    have pw14 : ((u2 (u2 (u2 (u2 (u2 (u2 I (1000) 27 (I (1000) 28)) (1000) 25 (0)) (1000) 26 (0)) (1000) 29 (0)) (1000) 30 (0)) (1000) 31 (0)) (1000) 31).toInt = (0 : Int32).toInt := congrArg Int32.toInt ((show (u2 (u2 (u2 (u2 (u2 (u2 I (1000) 27 (I (1000) 28)) (1000) 25 (0)) (1000) 26 (0)) (1000) 29 (0)) (1000) 30 (0)) (1000) 31 (0)) (1000) 31 = 0 from by simp [u2_v]))
    have pw15 : ((u2 (u2 (u2 (u2 (u2 (u2 I (1000) 27 (I (1000) 28)) (1000) 25 (0)) (1000) 26 (0)) (1000) 29 (0)) (1000) 30 (0)) (1000) 31 (0)) (1000) 32).toInt = (I (1000) 32 : Int32).toInt := congrArg Int32.toInt ((show (u2 (u2 (u2 (u2 (u2 (u2 I (1000) 27 (I (1000) 28)) (1000) 25 (0)) (1000) 26 (0)) (1000) 29 (0)) (1000) 30 (0)) (1000) 31 (0)) (1000) 32 = I (1000) 32 from by simp [u2_v]))
    have pw16 : ((u2 (u2 (u2 (u2 (u2 (u2 I (1000) 27 (I (1000) 28)) (1000) 25 (0)) (1000) 26 (0)) (1000) 29 (0)) (1000) 30 (0)) (1000) 31 (0)) (1000) 28).toInt = (I (1000) 28 : Int32).toInt := congrArg Int32.toInt ((show (u2 (u2 (u2 (u2 (u2 (u2 I (1000) 27 (I (1000) 28)) (1000) 25 (0)) (1000) 26 (0)) (1000) 29 (0)) (1000) 30 (0)) (1000) 31 (0)) (1000) 28 = I (1000) 28 from by simp [u2_v]))
    have hfr : ∀ r : Nat, (r : Int) < (I 1000 28).toInt → LWR (u2 (u2 (u2 (u2 (u2 (u2 I (1000) 27 (I (1000) 28)) (1000) 25 (0)) (1000) 26 (0)) (1000) 29 (0)) (1000) 30 (0)) (1000) 31 (0)) r := fun r hr => (hLM r hr).of ((show (u2 (u2 (u2 (u2 (u2 (u2 I (1000) 27 (I (1000) 28)) (1000) 25 (0)) (1000) 26 (0)) (1000) 29 (0)) (1000) 30 (0)) (1000) 31 (0)) 1035 = I 1035 from by funext zz; simp [u2_v])) ((show (u2 (u2 (u2 (u2 (u2 (u2 I (1000) 27 (I (1000) 28)) (1000) 25 (0)) (1000) 26 (0)) (1000) 29 (0)) (1000) 30 (0)) (1000) 31 (0)) 1036 = I 1036 from by funext zz; simp [u2_v])) ((show (u2 (u2 (u2 (u2 (u2 (u2 I (1000) 27 (I (1000) 28)) (1000) 25 (0)) (1000) 26 (0)) (1000) 29 (0)) (1000) 30 (0)) (1000) 31 (0)) 1037 = I 1037 from by funext zz; simp [u2_v])) ((show (u2 (u2 (u2 (u2 (u2 (u2 I (1000) 27 (I (1000) 28)) (1000) 25 (0)) (1000) 26 (0)) (1000) 29 (0)) (1000) 30 (0)) (1000) 31 (0)) 1039 = I 1039 from by funext zz; simp [u2_v])) ((show (u2 (u2 (u2 (u2 (u2 (u2 I (1000) 27 (I (1000) 28)) (1000) 25 (0)) (1000) 26 (0)) (1000) 29 (0)) (1000) 30 (0)) (1000) 31 (0)) 1040 = I 1040 from by funext zz; simp [u2_v])) ((show (u2 (u2 (u2 (u2 (u2 (u2 I (1000) 27 (I (1000) 28)) (1000) 25 (0)) (1000) 26 (0)) (1000) 29 (0)) (1000) 30 (0)) (1000) 31 (0)) 1041 = I 1041 from by funext zz; simp [u2_v]))
    have loop48 : ∀ (n : Nat) (x2_48 : Int32) (x1_48 : Int32) (Ia48 : MI) (La48 : ML) (H : Heap) (locs : List Loc) (ls : Array Slot), INV Ia48 → Kp [(1035, 1043)] [(1000, 24), (1000, 25), (1000, 26), (1000, 27), (1000, 28), (1000, 29), (1000, 30), (1000, 31), (1000, 32)] I Ia48 → (0 ≤ x2_48.toInt ∧ x2_48.toInt ≤ 1) → (0 ≤ x1_48.toInt ∧ x1_48.toInt ≤ 13) → ((Ia48 1000 27).toInt = (I 1000 28).toInt ∧ (Ia48 1000 28).toInt = (I 1000 28).toInt ∧ (Ia48 1000 25).toInt ≤ 402) → (Imp ((x2_48).toInt ≠ 0) ((Ia48 1000 26).toInt = 0 ∧ (Ia48 1000 25).toInt ≤ 400)) → (Imp ((Ia48 1000 26).toInt = 0) (0 ≤ (Ia48 1000 31).toInt ∧ (Ia48 1000 31).toInt ≤ 60 ∧ 3 * (Ia48 1000 29).toInt ≤ 6 * (Ia48 1000 31).toInt + (Ia48 1000 25).toInt ∧ (x1_48).toInt ≤ 12)) → (∀ r : Nat, (r : Int) < (I 1000 28).toInt → LWR Ia48 r) → (Imp ((Ia48 1000 26).toInt = 0) (LWn Ia48 (x1_48).toNatClampNeg)) → (403 - (Ia48 1000 25).toInt).toNat < n → Mem D A ad ns Ia48 La48 G H → va_S A s.heap H locs → lv_has ls 3 [(2, .int (x2_48)), (1, .int (x1_48)), (0, .ref (ad (1000)))] → W p l e ({ frames := 12, cells := 0, slots := 0, locals := 262 } : Room) s m args below meth c H locs 0 0 (MQ below (va_Qi (fun r u => ∃ I2 L2, u = (ad, ns, I2, L2, G) ∧ INV I2 ∧ Kp [(1035, 1043)] [(1000, 24), (1000, 25), (1000, 26), (1000, 27), (1000, 28), (1000, 29), (1000, 30), (1000, 31), (1000, 32)] I I2 ∧ (LWM I2)) (BM D A) A) args s 0 0 A) (F0 m 48 ls []) := by
      intro n
      induction n with
      | zero =>
        intro x2_48 x1_48 Ia48 La48 H locs ls hI hK hr2_48 hr1_48 hlin hon hcn hLo hLn hmu
        exact absurd hmu (Nat.not_lt_zero _)
      | succ n ih48 =>
        intro x2_48 x1_48 Ia48 La48 H locs ls hI hK hr2_48 hr1_48 hlin hon hcn hLo hLn hmu48 hM hS hl
        have hIa := hI
        refine lv_iload_n hx hb dX10_law_48 rfl (lv_at hl 0 rfl) ?_
        refine lv_if_eq (tgt := 137) hx hb dX10_law_49 (by decide) (fun c17 => ?_) (fun c17 => ?_)
        · have hc17 := c17
          have q17 := q_eq hc17
          refine lv_aload_n hx hb dX10_law_137 rfl (lv_at hl 2 rfl) ?_
          refine lv_iconst (v := (0)) hx hb dX10_law_138 (by decide) ?_
          refine m_puti (1000) 24 hx hb hts hown hE oc10 hM hS hJ.1 rfl (by decide) rfl rfl rfl rfl tb_1201 dX10_law_139 (fun H locs I18 eI18 hM hS => ?_)
          subst eI18
          have hI := hI.put (n := 1000) (k := 24) (v := 0) (lo := 0) (hi := 400) rfl (by first | omega | decide)
          have hK := hK.put (n := 1000) (k := 24) (v := 0) (by first | rfl | simp [inR])
          refine lv_aload_n hx hb dX10_law_142 rfl (lv_at hl 2 rfl) ?_
          refine m_getr (1000) 37 (1037) hx hb hts hown hE oc10 hM hJ.1 rfl (by decide) rfl (hJ.2 37 (by decide)).2 (by decide) tb_1214 dX10_law_143 ?_
          refine lv_aload_n hx hb dX10_law_146 rfl (lv_at hl 2 rfl) ?_
          refine m_geti (1000) 27 hx hb hts hown hE oc10 hM hJ.1 rfl (by decide) rfl tb_1204 dX10_law_147 ?_
          have g19 := hI.get (1000) 27 (lo := 0) (hi := 5) rfl
          have z20 : (u2 Ia48 (1000) 24 (0)) (1000) 27 = Ia48 (1000) 27 := (show (u2 Ia48 (1000) 24 (0)) (1000) 27 = Ia48 (1000) 27 from by simp [u2_v])
          rw [z20] at g19 ⊢
          refine lv_iload_n hx hb dX10_law_150 rfl (lv_at hl 1 rfl) ?_
          refine m_iast (1037) hx hb hE hM hS (hJ.2 37 (by decide)).1 rfl (vp_in_iff.mpr (by omega)) dX10_law_151 (fun H locs I21 eI21 hM hS => ?_)
          subst eI21
          have hI := hI.putF (n := 1037) (k := ((Ia48 (1000) 27).toNatClampNeg)) (v := x1_48) rfl
          have hK := hK.put (n := 1037) (k := ((Ia48 (1000) 27).toNatClampNeg)) (v := x1_48) (by first | rfl | simp [inR])
          refine lv_aload_n hx hb dX10_law_152 rfl (lv_at hl 2 rfl) ?_
          refine lv_dup hx hb dX10_law_153 rfl ?_
          refine m_geti (1000) 28 hx hb hts hown hE oc10 hM hJ.1 rfl (by decide) rfl tb_1205 dX10_law_154 ?_
          have g22 := hI.get (1000) 28 (lo := 0) (hi := 6) rfl
          have z23 : (u2 (u2 Ia48 (1000) 24 (0)) (1037) ((Ia48 (1000) 27).toNatClampNeg) (x1_48)) (1000) 28 = Ia48 (1000) 28 := (show (u2 (u2 Ia48 (1000) 24 (0)) (1037) ((Ia48 (1000) 27).toNatClampNeg) (x1_48)) (1000) 28 = Ia48 (1000) 28 from by simp [u2_v])
          rw [z23] at g22 ⊢
          refine lv_aload_n hx hb dX10_law_157 rfl (lv_at hl 2 rfl) ?_
          refine m_geti (1000) 26 hx hb hts hown hE oc10 hM hJ.1 rfl (by decide) rfl tb_1203 dX10_law_158 ?_
          have z24 : (u2 (u2 Ia48 (1000) 24 (0)) (1037) ((Ia48 (1000) 27).toNatClampNeg) (x1_48)) (1000) 26 = Ia48 (1000) 26 := (show (u2 (u2 Ia48 (1000) 24 (0)) (1037) ((Ia48 (1000) 27).toNatClampNeg) (x1_48)) (1000) 26 = Ia48 (1000) 26 from by simp [u2_v])
          rw [z24]
          refine lv_if_ne (tgt := 168) hx hb dX10_law_161 (by decide) (fun c25 => ?_) (fun c25 => ?_)
          · have hc25 := c25
            have q25 := q_ne hc25
            refine lv_iconst (v := (0)) hx hb dX10_law_168 (by decide) ?_
            refine lv_iadd hx hb dX10_law_169 ?_
            refine lv_topi (fun v26 ev26 => ?_)
            have tv26 := a_add ev26 (by omega) (by omega)
            refine m_puti (1000) 28 hx hb hts hown hE oc10 hM hS hJ.1 rfl (by decide) rfl rfl rfl rfl tb_1205 dX10_law_170 (fun H locs I27 eI27 hM hS => ?_)
            subst eI27
            have hI := hI.put (n := 1000) (k := 28) (v := v26) (lo := 0) (hi := 6) rfl (by first | omega | decide)
            have hK := hK.put (n := 1000) (k := 28) (v := v26) (by first | rfl | simp [inR])
            refine lv_aload_n hx hb dX10_law_173 rfl (lv_at hl 2 rfl) ?_
            refine m_geti (1000) 26 hx hb hts hown hE oc10 hM hJ.1 rfl (by decide) rfl tb_1203 dX10_law_174 ?_
            have z28 : (u2 (u2 (u2 Ia48 (1000) 24 (0)) (1037) ((Ia48 (1000) 27).toNatClampNeg) (x1_48)) (1000) 28 (v26)) (1000) 26 = Ia48 (1000) 26 := (show (u2 (u2 (u2 Ia48 (1000) 24 (0)) (1037) ((Ia48 (1000) 27).toNatClampNeg) (x1_48)) (1000) 28 (v26)) (1000) 26 = Ia48 (1000) 26 from by simp [u2_v])
            rw [z28]
            refine lv_if_le (tgt := 190) hx hb dX10_law_177 (by decide) (fun c29 => ?_) (fun c29 => ?_)
            · have hc29 := c29
              have q29 := q_le hc29
              refine lv_aload_n hx hb dX10_law_190 rfl (lv_at hl 2 rfl) ?_
              refine m_geti (1000) 28 hx hb hts hown hE oc10 hM hJ.1 rfl (by decide) rfl tb_1205 dX10_law_191 ?_
              have g30 := hI.get (1000) 28 (lo := 0) (hi := 6) rfl
              have z31 : (u2 (u2 (u2 Ia48 (1000) 24 (0)) (1037) ((Ia48 (1000) 27).toNatClampNeg) (x1_48)) (1000) 28 (v26)) (1000) 28 = v26 := (show (u2 (u2 (u2 Ia48 (1000) 24 (0)) (1037) ((Ia48 (1000) 27).toNatClampNeg) (x1_48)) (1000) 28 (v26)) (1000) 28 = v26 from by simp [u2_v])
              rw [z31] at g30 ⊢
              refine lv_iconst (v := (1)) hx hb dX10_law_194 (by decide) ?_
              refine lv_isub hx hb dX10_law_195 ?_
              refine lv_topi (fun v32 ev32 => ?_)
              have tv32 := a_sub ev32 (by omega) (by omega)
              have pw33 : ((u2 (u2 (u2 Ia48 (1000) 24 (0)) (1037) ((Ia48 (1000) 27).toNatClampNeg) (x1_48)) (1000) 28 (v26)) (1000) 24).toInt = (0 : Int32).toInt := congrArg Int32.toInt ((show (u2 (u2 (u2 Ia48 (1000) 24 (0)) (1037) ((Ia48 (1000) 27).toNatClampNeg) (x1_48)) (1000) 28 (v26)) (1000) 24 = 0 from by simp [u2_v]))
              have pw34 : ((u2 (u2 (u2 Ia48 (1000) 24 (0)) (1037) ((Ia48 (1000) 27).toNatClampNeg) (x1_48)) (1000) 28 (v26)) (1000) 25).toInt = (Ia48 (1000) 25 : Int32).toInt := congrArg Int32.toInt ((show (u2 (u2 (u2 Ia48 (1000) 24 (0)) (1037) ((Ia48 (1000) 27).toNatClampNeg) (x1_48)) (1000) 28 (v26)) (1000) 25 = Ia48 (1000) 25 from by simp [u2_v]))
              have pw35 : ((u2 (u2 (u2 Ia48 (1000) 24 (0)) (1037) ((Ia48 (1000) 27).toNatClampNeg) (x1_48)) (1000) 28 (v26)) (1000) 26).toInt = (Ia48 (1000) 26 : Int32).toInt := congrArg Int32.toInt ((show (u2 (u2 (u2 Ia48 (1000) 24 (0)) (1037) ((Ia48 (1000) 27).toNatClampNeg) (x1_48)) (1000) 28 (v26)) (1000) 26 = Ia48 (1000) 26 from by simp [u2_v]))
              have pw36 : ((u2 (u2 (u2 Ia48 (1000) 24 (0)) (1037) ((Ia48 (1000) 27).toNatClampNeg) (x1_48)) (1000) 28 (v26)) (1000) 27).toInt = (Ia48 (1000) 27 : Int32).toInt := congrArg Int32.toInt ((show (u2 (u2 (u2 Ia48 (1000) 24 (0)) (1037) ((Ia48 (1000) 27).toNatClampNeg) (x1_48)) (1000) 28 (v26)) (1000) 27 = Ia48 (1000) 27 from by simp [u2_v]))
              have pw37 : ((u2 (u2 (u2 Ia48 (1000) 24 (0)) (1037) ((Ia48 (1000) 27).toNatClampNeg) (x1_48)) (1000) 28 (v26)) (1000) 29).toInt = (Ia48 (1000) 29 : Int32).toInt := congrArg Int32.toInt ((show (u2 (u2 (u2 Ia48 (1000) 24 (0)) (1037) ((Ia48 (1000) 27).toNatClampNeg) (x1_48)) (1000) 28 (v26)) (1000) 29 = Ia48 (1000) 29 from by simp [u2_v]))
              have pw38 : ((u2 (u2 (u2 Ia48 (1000) 24 (0)) (1037) ((Ia48 (1000) 27).toNatClampNeg) (x1_48)) (1000) 28 (v26)) (1000) 31).toInt = (Ia48 (1000) 31 : Int32).toInt := congrArg Int32.toInt ((show (u2 (u2 (u2 Ia48 (1000) 24 (0)) (1037) ((Ia48 (1000) 27).toNatClampNeg) (x1_48)) (1000) 28 (v26)) (1000) 31 = Ia48 (1000) 31 from by simp [u2_v]))
              have pw39 : ((u2 (u2 (u2 Ia48 (1000) 24 (0)) (1037) ((Ia48 (1000) 27).toNatClampNeg) (x1_48)) (1000) 28 (v26)) (1000) 32).toInt = (Ia48 (1000) 32 : Int32).toInt := congrArg Int32.toInt ((show (u2 (u2 (u2 Ia48 (1000) 24 (0)) (1037) ((Ia48 (1000) 27).toNatClampNeg) (x1_48)) (1000) 28 (v26)) (1000) 32 = Ia48 (1000) 32 from by simp [u2_v]))
              have pw40 : ((u2 (u2 (u2 Ia48 (1000) 24 (0)) (1037) ((Ia48 (1000) 27).toNatClampNeg) (x1_48)) (1000) 28 (v26)) (1000) 28).toInt = (v26 : Int32).toInt := congrArg Int32.toInt ((show (u2 (u2 (u2 Ia48 (1000) 24 (0)) (1037) ((Ia48 (1000) 27).toNatClampNeg) (x1_48)) (1000) 28 (v26)) (1000) 28 = v26 from by simp [u2_v]))
              have hz37 : (u2 (u2 (u2 Ia48 (1000) 24 (0)) (1037) ((Ia48 (1000) 27).toNatClampNeg) (x1_48)) (1000) 28 (v26)) 1037 = (u2 (u2 Ia48 (1000) 24 (0)) (1037) ((Ia48 (1000) 27).toNatClampNeg) (x1_48)) 1037 := (show (u2 (u2 (u2 Ia48 (1000) 24 (0)) (1037) ((Ia48 (1000) 27).toNatClampNeg) (x1_48)) (1000) 28 (v26)) 1037 = (u2 (u2 Ia48 (1000) 24 (0)) (1037) ((Ia48 (1000) 27).toNatClampNeg) (x1_48)) 1037 from by funext zz; simp [u2_v])
              have hq37 : (u2 Ia48 (1000) 24 (0)) 1037 = Ia48 1037 := (show (u2 Ia48 (1000) 24 (0)) 1037 = Ia48 1037 from by funext zz; simp [u2_v])
              have hs27 := tn (i := Ia48 1000 27) (by omega)
              have hold : ∀ r : Nat, (r : Int) < (I 1000 28).toInt → LWR (u2 (u2 (u2 Ia48 (1000) 24 (0)) (1037) ((Ia48 (1000) 27).toNatClampNeg) (x1_48)) (1000) 28 (v26)) r := fun r hr => (hLo r hr).of1 ((show (u2 (u2 (u2 Ia48 (1000) 24 (0)) (1037) ((Ia48 (1000) 27).toNatClampNeg) (x1_48)) (1000) 28 (v26)) 1035 = Ia48 1035 from by funext zz; simp [u2_v])) ((show (u2 (u2 (u2 Ia48 (1000) 24 (0)) (1037) ((Ia48 (1000) 27).toNatClampNeg) (x1_48)) (1000) 28 (v26)) 1036 = Ia48 1036 from by funext zz; simp [u2_v])) ((show (u2 (u2 (u2 Ia48 (1000) 24 (0)) (1037) ((Ia48 (1000) 27).toNatClampNeg) (x1_48)) (1000) 28 (v26)) 1039 = Ia48 1039 from by funext zz; simp [u2_v])) ((show (u2 (u2 (u2 Ia48 (1000) 24 (0)) (1037) ((Ia48 (1000) 27).toNatClampNeg) (x1_48)) (1000) 28 (v26)) 1040 = Ia48 1040 from by funext zz; simp [u2_v])) ((show (u2 (u2 (u2 Ia48 (1000) 24 (0)) (1037) ((Ia48 (1000) 27).toNatClampNeg) (x1_48)) (1000) 28 (v26)) 1041 = Ia48 1041 from by funext zz; simp [u2_v])) (by rw [hz37, u2_v, if_neg (by rintro ⟨-, hj⟩; omega)]; exact congrFun hq37 r)
              exact m_iret hx hb hr hlocks hM hS (Nat.le_of_ble_eq_true rfl) (Nat.le_of_ble_eq_true rfl) ⟨_, _, rfl, hI, hK, (fun r hr => hold r (by omega))⟩ dX10_law_196
            · have hc29 := c29
              have q29 := q_nle hc29
              refine lv_bipush (v := (-2)) hx hb dX10_law_180 (by decide) ?_
              refine lv_aload_n hx hb dX10_law_182 rfl (lv_at hl 2 rfl) ?_
              refine m_geti (1000) 26 hx hb hts hown hE oc10 hM hJ.1 rfl (by decide) rfl tb_1203 dX10_law_183 ?_
              have z41 : (u2 (u2 (u2 Ia48 (1000) 24 (0)) (1037) ((Ia48 (1000) 27).toNatClampNeg) (x1_48)) (1000) 28 (v26)) (1000) 26 = Ia48 (1000) 26 := (show (u2 (u2 (u2 Ia48 (1000) 24 (0)) (1037) ((Ia48 (1000) 27).toNatClampNeg) (x1_48)) (1000) 28 (v26)) (1000) 26 = Ia48 (1000) 26 from by simp [u2_v])
              rw [z41]
              refine lv_isub hx hb dX10_law_186 ?_
              refine lv_topi (fun v42 ev42 => ?_)
              refine lv_goto (tgt := 196) hx hb dX10_law_187 (by decide) ?_
              have pw43 : ((u2 (u2 (u2 Ia48 (1000) 24 (0)) (1037) ((Ia48 (1000) 27).toNatClampNeg) (x1_48)) (1000) 28 (v26)) (1000) 24).toInt = (0 : Int32).toInt := congrArg Int32.toInt ((show (u2 (u2 (u2 Ia48 (1000) 24 (0)) (1037) ((Ia48 (1000) 27).toNatClampNeg) (x1_48)) (1000) 28 (v26)) (1000) 24 = 0 from by simp [u2_v]))
              have pw44 : ((u2 (u2 (u2 Ia48 (1000) 24 (0)) (1037) ((Ia48 (1000) 27).toNatClampNeg) (x1_48)) (1000) 28 (v26)) (1000) 25).toInt = (Ia48 (1000) 25 : Int32).toInt := congrArg Int32.toInt ((show (u2 (u2 (u2 Ia48 (1000) 24 (0)) (1037) ((Ia48 (1000) 27).toNatClampNeg) (x1_48)) (1000) 28 (v26)) (1000) 25 = Ia48 (1000) 25 from by simp [u2_v]))
              have pw45 : ((u2 (u2 (u2 Ia48 (1000) 24 (0)) (1037) ((Ia48 (1000) 27).toNatClampNeg) (x1_48)) (1000) 28 (v26)) (1000) 26).toInt = (Ia48 (1000) 26 : Int32).toInt := congrArg Int32.toInt ((show (u2 (u2 (u2 Ia48 (1000) 24 (0)) (1037) ((Ia48 (1000) 27).toNatClampNeg) (x1_48)) (1000) 28 (v26)) (1000) 26 = Ia48 (1000) 26 from by simp [u2_v]))
              have pw46 : ((u2 (u2 (u2 Ia48 (1000) 24 (0)) (1037) ((Ia48 (1000) 27).toNatClampNeg) (x1_48)) (1000) 28 (v26)) (1000) 27).toInt = (Ia48 (1000) 27 : Int32).toInt := congrArg Int32.toInt ((show (u2 (u2 (u2 Ia48 (1000) 24 (0)) (1037) ((Ia48 (1000) 27).toNatClampNeg) (x1_48)) (1000) 28 (v26)) (1000) 27 = Ia48 (1000) 27 from by simp [u2_v]))
              have pw47 : ((u2 (u2 (u2 Ia48 (1000) 24 (0)) (1037) ((Ia48 (1000) 27).toNatClampNeg) (x1_48)) (1000) 28 (v26)) (1000) 29).toInt = (Ia48 (1000) 29 : Int32).toInt := congrArg Int32.toInt ((show (u2 (u2 (u2 Ia48 (1000) 24 (0)) (1037) ((Ia48 (1000) 27).toNatClampNeg) (x1_48)) (1000) 28 (v26)) (1000) 29 = Ia48 (1000) 29 from by simp [u2_v]))
              have pw48 : ((u2 (u2 (u2 Ia48 (1000) 24 (0)) (1037) ((Ia48 (1000) 27).toNatClampNeg) (x1_48)) (1000) 28 (v26)) (1000) 31).toInt = (Ia48 (1000) 31 : Int32).toInt := congrArg Int32.toInt ((show (u2 (u2 (u2 Ia48 (1000) 24 (0)) (1037) ((Ia48 (1000) 27).toNatClampNeg) (x1_48)) (1000) 28 (v26)) (1000) 31 = Ia48 (1000) 31 from by simp [u2_v]))
              have pw49 : ((u2 (u2 (u2 Ia48 (1000) 24 (0)) (1037) ((Ia48 (1000) 27).toNatClampNeg) (x1_48)) (1000) 28 (v26)) (1000) 32).toInt = (Ia48 (1000) 32 : Int32).toInt := congrArg Int32.toInt ((show (u2 (u2 (u2 Ia48 (1000) 24 (0)) (1037) ((Ia48 (1000) 27).toNatClampNeg) (x1_48)) (1000) 28 (v26)) (1000) 32 = Ia48 (1000) 32 from by simp [u2_v]))
              have pw50 : ((u2 (u2 (u2 Ia48 (1000) 24 (0)) (1037) ((Ia48 (1000) 27).toNatClampNeg) (x1_48)) (1000) 28 (v26)) (1000) 28).toInt = (v26 : Int32).toInt := congrArg Int32.toInt ((show (u2 (u2 (u2 Ia48 (1000) 24 (0)) (1037) ((Ia48 (1000) 27).toNatClampNeg) (x1_48)) (1000) 28 (v26)) (1000) 28 = v26 from by simp [u2_v]))
              have hz37 : (u2 (u2 (u2 Ia48 (1000) 24 (0)) (1037) ((Ia48 (1000) 27).toNatClampNeg) (x1_48)) (1000) 28 (v26)) 1037 = (u2 (u2 Ia48 (1000) 24 (0)) (1037) ((Ia48 (1000) 27).toNatClampNeg) (x1_48)) 1037 := (show (u2 (u2 (u2 Ia48 (1000) 24 (0)) (1037) ((Ia48 (1000) 27).toNatClampNeg) (x1_48)) (1000) 28 (v26)) 1037 = (u2 (u2 Ia48 (1000) 24 (0)) (1037) ((Ia48 (1000) 27).toNatClampNeg) (x1_48)) 1037 from by funext zz; simp [u2_v])
              have hq37 : (u2 Ia48 (1000) 24 (0)) 1037 = Ia48 1037 := (show (u2 Ia48 (1000) 24 (0)) 1037 = Ia48 1037 from by funext zz; simp [u2_v])
              have hs27 := tn (i := Ia48 1000 27) (by omega)
              have hold : ∀ r : Nat, (r : Int) < (I 1000 28).toInt → LWR (u2 (u2 (u2 Ia48 (1000) 24 (0)) (1037) ((Ia48 (1000) 27).toNatClampNeg) (x1_48)) (1000) 28 (v26)) r := fun r hr => (hLo r hr).of1 ((show (u2 (u2 (u2 Ia48 (1000) 24 (0)) (1037) ((Ia48 (1000) 27).toNatClampNeg) (x1_48)) (1000) 28 (v26)) 1035 = Ia48 1035 from by funext zz; simp [u2_v])) ((show (u2 (u2 (u2 Ia48 (1000) 24 (0)) (1037) ((Ia48 (1000) 27).toNatClampNeg) (x1_48)) (1000) 28 (v26)) 1036 = Ia48 1036 from by funext zz; simp [u2_v])) ((show (u2 (u2 (u2 Ia48 (1000) 24 (0)) (1037) ((Ia48 (1000) 27).toNatClampNeg) (x1_48)) (1000) 28 (v26)) 1039 = Ia48 1039 from by funext zz; simp [u2_v])) ((show (u2 (u2 (u2 Ia48 (1000) 24 (0)) (1037) ((Ia48 (1000) 27).toNatClampNeg) (x1_48)) (1000) 28 (v26)) 1040 = Ia48 1040 from by funext zz; simp [u2_v])) ((show (u2 (u2 (u2 Ia48 (1000) 24 (0)) (1037) ((Ia48 (1000) 27).toNatClampNeg) (x1_48)) (1000) 28 (v26)) 1041 = Ia48 1041 from by funext zz; simp [u2_v])) (by rw [hz37, u2_v, if_neg (by rintro ⟨-, hj⟩; omega)]; exact congrFun hq37 r)
              exact m_iret hx hb hr hlocks hM hS (Nat.le_of_ble_eq_true rfl) (Nat.le_of_ble_eq_true rfl) ⟨_, _, rfl, hI, hK, (fun r hr => hold r (by omega))⟩ dX10_law_196
          · have hc25 := c25
            have q25 := q_eq hc25
            have w51 := hcn (by omega)
            refine lv_iconst (v := (1)) hx hb dX10_law_164 (by decide) ?_
            refine lv_goto (tgt := 169) hx hb dX10_law_165 (by decide) ?_
            refine lv_iadd hx hb dX10_law_169 ?_
            refine lv_topi (fun v52 ev52 => ?_)
            have tv52 := a_add ev52 (by omega) (by omega)
            refine m_puti (1000) 28 hx hb hts hown hE oc10 hM hS hJ.1 rfl (by decide) rfl rfl rfl rfl tb_1205 dX10_law_170 (fun H locs I53 eI53 hM hS => ?_)
            subst eI53
            have hI := hI.put (n := 1000) (k := 28) (v := v52) (lo := 0) (hi := 6) rfl (by first | omega | decide)
            have hK := hK.put (n := 1000) (k := 28) (v := v52) (by first | rfl | simp [inR])
            refine lv_aload_n hx hb dX10_law_173 rfl (lv_at hl 2 rfl) ?_
            refine m_geti (1000) 26 hx hb hts hown hE oc10 hM hJ.1 rfl (by decide) rfl tb_1203 dX10_law_174 ?_
            have z54 : (u2 (u2 (u2 Ia48 (1000) 24 (0)) (1037) ((Ia48 (1000) 27).toNatClampNeg) (x1_48)) (1000) 28 (v52)) (1000) 26 = Ia48 (1000) 26 := (show (u2 (u2 (u2 Ia48 (1000) 24 (0)) (1037) ((Ia48 (1000) 27).toNatClampNeg) (x1_48)) (1000) 28 (v52)) (1000) 26 = Ia48 (1000) 26 from by simp [u2_v])
            rw [z54]
            refine lv_if_le (tgt := 190) hx hb dX10_law_177 (by decide) (fun c55 => ?_) (fun c55 => ?_)
            · have hc55 := c55
              have q55 := q_le hc55
              refine lv_aload_n hx hb dX10_law_190 rfl (lv_at hl 2 rfl) ?_
              refine m_geti (1000) 28 hx hb hts hown hE oc10 hM hJ.1 rfl (by decide) rfl tb_1205 dX10_law_191 ?_
              have g56 := hI.get (1000) 28 (lo := 0) (hi := 6) rfl
              have z57 : (u2 (u2 (u2 Ia48 (1000) 24 (0)) (1037) ((Ia48 (1000) 27).toNatClampNeg) (x1_48)) (1000) 28 (v52)) (1000) 28 = v52 := (show (u2 (u2 (u2 Ia48 (1000) 24 (0)) (1037) ((Ia48 (1000) 27).toNatClampNeg) (x1_48)) (1000) 28 (v52)) (1000) 28 = v52 from by simp [u2_v])
              rw [z57] at g56 ⊢
              refine lv_iconst (v := (1)) hx hb dX10_law_194 (by decide) ?_
              refine lv_isub hx hb dX10_law_195 ?_
              refine lv_topi (fun v58 ev58 => ?_)
              have tv58 := a_sub ev58 (by omega) (by omega)
              have pw59 : ((u2 (u2 (u2 Ia48 (1000) 24 (0)) (1037) ((Ia48 (1000) 27).toNatClampNeg) (x1_48)) (1000) 28 (v52)) (1000) 24).toInt = (0 : Int32).toInt := congrArg Int32.toInt ((show (u2 (u2 (u2 Ia48 (1000) 24 (0)) (1037) ((Ia48 (1000) 27).toNatClampNeg) (x1_48)) (1000) 28 (v52)) (1000) 24 = 0 from by simp [u2_v]))
              have pw60 : ((u2 (u2 (u2 Ia48 (1000) 24 (0)) (1037) ((Ia48 (1000) 27).toNatClampNeg) (x1_48)) (1000) 28 (v52)) (1000) 25).toInt = (Ia48 (1000) 25 : Int32).toInt := congrArg Int32.toInt ((show (u2 (u2 (u2 Ia48 (1000) 24 (0)) (1037) ((Ia48 (1000) 27).toNatClampNeg) (x1_48)) (1000) 28 (v52)) (1000) 25 = Ia48 (1000) 25 from by simp [u2_v]))
              have pw61 : ((u2 (u2 (u2 Ia48 (1000) 24 (0)) (1037) ((Ia48 (1000) 27).toNatClampNeg) (x1_48)) (1000) 28 (v52)) (1000) 26).toInt = (Ia48 (1000) 26 : Int32).toInt := congrArg Int32.toInt ((show (u2 (u2 (u2 Ia48 (1000) 24 (0)) (1037) ((Ia48 (1000) 27).toNatClampNeg) (x1_48)) (1000) 28 (v52)) (1000) 26 = Ia48 (1000) 26 from by simp [u2_v]))
              have pw62 : ((u2 (u2 (u2 Ia48 (1000) 24 (0)) (1037) ((Ia48 (1000) 27).toNatClampNeg) (x1_48)) (1000) 28 (v52)) (1000) 27).toInt = (Ia48 (1000) 27 : Int32).toInt := congrArg Int32.toInt ((show (u2 (u2 (u2 Ia48 (1000) 24 (0)) (1037) ((Ia48 (1000) 27).toNatClampNeg) (x1_48)) (1000) 28 (v52)) (1000) 27 = Ia48 (1000) 27 from by simp [u2_v]))
              have pw63 : ((u2 (u2 (u2 Ia48 (1000) 24 (0)) (1037) ((Ia48 (1000) 27).toNatClampNeg) (x1_48)) (1000) 28 (v52)) (1000) 29).toInt = (Ia48 (1000) 29 : Int32).toInt := congrArg Int32.toInt ((show (u2 (u2 (u2 Ia48 (1000) 24 (0)) (1037) ((Ia48 (1000) 27).toNatClampNeg) (x1_48)) (1000) 28 (v52)) (1000) 29 = Ia48 (1000) 29 from by simp [u2_v]))
              have pw64 : ((u2 (u2 (u2 Ia48 (1000) 24 (0)) (1037) ((Ia48 (1000) 27).toNatClampNeg) (x1_48)) (1000) 28 (v52)) (1000) 31).toInt = (Ia48 (1000) 31 : Int32).toInt := congrArg Int32.toInt ((show (u2 (u2 (u2 Ia48 (1000) 24 (0)) (1037) ((Ia48 (1000) 27).toNatClampNeg) (x1_48)) (1000) 28 (v52)) (1000) 31 = Ia48 (1000) 31 from by simp [u2_v]))
              have pw65 : ((u2 (u2 (u2 Ia48 (1000) 24 (0)) (1037) ((Ia48 (1000) 27).toNatClampNeg) (x1_48)) (1000) 28 (v52)) (1000) 32).toInt = (Ia48 (1000) 32 : Int32).toInt := congrArg Int32.toInt ((show (u2 (u2 (u2 Ia48 (1000) 24 (0)) (1037) ((Ia48 (1000) 27).toNatClampNeg) (x1_48)) (1000) 28 (v52)) (1000) 32 = Ia48 (1000) 32 from by simp [u2_v]))
              have pw66 : ((u2 (u2 (u2 Ia48 (1000) 24 (0)) (1037) ((Ia48 (1000) 27).toNatClampNeg) (x1_48)) (1000) 28 (v52)) (1000) 28).toInt = (v52 : Int32).toInt := congrArg Int32.toInt ((show (u2 (u2 (u2 Ia48 (1000) 24 (0)) (1037) ((Ia48 (1000) 27).toNatClampNeg) (x1_48)) (1000) 28 (v52)) (1000) 28 = v52 from by simp [u2_v]))
              have hz37 : (u2 (u2 (u2 Ia48 (1000) 24 (0)) (1037) ((Ia48 (1000) 27).toNatClampNeg) (x1_48)) (1000) 28 (v52)) 1037 = (u2 (u2 Ia48 (1000) 24 (0)) (1037) ((Ia48 (1000) 27).toNatClampNeg) (x1_48)) 1037 := (show (u2 (u2 (u2 Ia48 (1000) 24 (0)) (1037) ((Ia48 (1000) 27).toNatClampNeg) (x1_48)) (1000) 28 (v52)) 1037 = (u2 (u2 Ia48 (1000) 24 (0)) (1037) ((Ia48 (1000) 27).toNatClampNeg) (x1_48)) 1037 from by funext zz; simp [u2_v])
              have hq37 : (u2 Ia48 (1000) 24 (0)) 1037 = Ia48 1037 := (show (u2 Ia48 (1000) 24 (0)) 1037 = Ia48 1037 from by funext zz; simp [u2_v])
              have hs27 := tn (i := Ia48 1000 27) (by omega)
              have hold : ∀ r : Nat, (r : Int) < (I 1000 28).toInt → LWR (u2 (u2 (u2 Ia48 (1000) 24 (0)) (1037) ((Ia48 (1000) 27).toNatClampNeg) (x1_48)) (1000) 28 (v52)) r := fun r hr => (hLo r hr).of1 ((show (u2 (u2 (u2 Ia48 (1000) 24 (0)) (1037) ((Ia48 (1000) 27).toNatClampNeg) (x1_48)) (1000) 28 (v52)) 1035 = Ia48 1035 from by funext zz; simp [u2_v])) ((show (u2 (u2 (u2 Ia48 (1000) 24 (0)) (1037) ((Ia48 (1000) 27).toNatClampNeg) (x1_48)) (1000) 28 (v52)) 1036 = Ia48 1036 from by funext zz; simp [u2_v])) ((show (u2 (u2 (u2 Ia48 (1000) 24 (0)) (1037) ((Ia48 (1000) 27).toNatClampNeg) (x1_48)) (1000) 28 (v52)) 1039 = Ia48 1039 from by funext zz; simp [u2_v])) ((show (u2 (u2 (u2 Ia48 (1000) 24 (0)) (1037) ((Ia48 (1000) 27).toNatClampNeg) (x1_48)) (1000) 28 (v52)) 1040 = Ia48 1040 from by funext zz; simp [u2_v])) ((show (u2 (u2 (u2 Ia48 (1000) 24 (0)) (1037) ((Ia48 (1000) 27).toNatClampNeg) (x1_48)) (1000) 28 (v52)) 1041 = Ia48 1041 from by funext zz; simp [u2_v])) (by rw [hz37, u2_v, if_neg (by rintro ⟨-, hj⟩; omega)]; exact congrFun hq37 r)
              have hz1 := tn (i := x1_48) (by omega)
              have hnew := LWn.fin (Z := (u2 (u2 (u2 Ia48 (1000) 24 (0)) (1037) ((Ia48 (1000) 27).toNatClampNeg) (x1_48)) (1000) 28 (v52))) (n := (x1_48).toNatClampNeg) (r := (Ia48 1000 27).toNatClampNeg) (hLn (by omega)) hIa (by omega) (by omega) ((show (u2 (u2 (u2 Ia48 (1000) 24 (0)) (1037) ((Ia48 (1000) 27).toNatClampNeg) (x1_48)) (1000) 28 (v52)) 1035 = Ia48 1035 from by funext zz; simp [u2_v])) ((show (u2 (u2 (u2 Ia48 (1000) 24 (0)) (1037) ((Ia48 (1000) 27).toNatClampNeg) (x1_48)) (1000) 28 (v52)) 1036 = Ia48 1036 from by funext zz; simp [u2_v])) ((show (u2 (u2 (u2 Ia48 (1000) 24 (0)) (1037) ((Ia48 (1000) 27).toNatClampNeg) (x1_48)) (1000) 28 (v52)) 1039 = Ia48 1039 from by funext zz; simp [u2_v])) ((show (u2 (u2 (u2 Ia48 (1000) 24 (0)) (1037) ((Ia48 (1000) 27).toNatClampNeg) (x1_48)) (1000) 28 (v52)) 1040 = Ia48 1040 from by funext zz; simp [u2_v])) ((show (u2 (u2 (u2 Ia48 (1000) 24 (0)) (1037) ((Ia48 (1000) 27).toNatClampNeg) (x1_48)) (1000) 28 (v52)) 1041 = Ia48 1041 from by funext zz; simp [u2_v])) (by rw [hz37, u2_self]; omega) (by omega)
              exact m_iret hx hb hr hlocks hM hS (Nat.le_of_ble_eq_true rfl) (Nat.le_of_ble_eq_true rfl) ⟨_, _, rfl, hI, hK, (fun r hr => by by_cases hq : (r : Int) < (I 1000 28).toInt; exact hold r hq; rw [show r = (Ia48 1000 27).toNatClampNeg from by omega]; exact hnew)⟩ dX10_law_196
            · have hc55 := c55
              have q55 := q_nle hc55
              refine lv_bipush (v := (-2)) hx hb dX10_law_180 (by decide) ?_
              refine lv_aload_n hx hb dX10_law_182 rfl (lv_at hl 2 rfl) ?_
              refine m_geti (1000) 26 hx hb hts hown hE oc10 hM hJ.1 rfl (by decide) rfl tb_1203 dX10_law_183 ?_
              have z67 : (u2 (u2 (u2 Ia48 (1000) 24 (0)) (1037) ((Ia48 (1000) 27).toNatClampNeg) (x1_48)) (1000) 28 (v52)) (1000) 26 = Ia48 (1000) 26 := (show (u2 (u2 (u2 Ia48 (1000) 24 (0)) (1037) ((Ia48 (1000) 27).toNatClampNeg) (x1_48)) (1000) 28 (v52)) (1000) 26 = Ia48 (1000) 26 from by simp [u2_v])
              rw [z67]
              refine lv_isub hx hb dX10_law_186 ?_
              refine lv_topi (fun v68 ev68 => ?_)
              refine lv_goto (tgt := 196) hx hb dX10_law_187 (by decide) ?_
              have pw69 : ((u2 (u2 (u2 Ia48 (1000) 24 (0)) (1037) ((Ia48 (1000) 27).toNatClampNeg) (x1_48)) (1000) 28 (v52)) (1000) 24).toInt = (0 : Int32).toInt := congrArg Int32.toInt ((show (u2 (u2 (u2 Ia48 (1000) 24 (0)) (1037) ((Ia48 (1000) 27).toNatClampNeg) (x1_48)) (1000) 28 (v52)) (1000) 24 = 0 from by simp [u2_v]))
              have pw70 : ((u2 (u2 (u2 Ia48 (1000) 24 (0)) (1037) ((Ia48 (1000) 27).toNatClampNeg) (x1_48)) (1000) 28 (v52)) (1000) 25).toInt = (Ia48 (1000) 25 : Int32).toInt := congrArg Int32.toInt ((show (u2 (u2 (u2 Ia48 (1000) 24 (0)) (1037) ((Ia48 (1000) 27).toNatClampNeg) (x1_48)) (1000) 28 (v52)) (1000) 25 = Ia48 (1000) 25 from by simp [u2_v]))
              have pw71 : ((u2 (u2 (u2 Ia48 (1000) 24 (0)) (1037) ((Ia48 (1000) 27).toNatClampNeg) (x1_48)) (1000) 28 (v52)) (1000) 26).toInt = (Ia48 (1000) 26 : Int32).toInt := congrArg Int32.toInt ((show (u2 (u2 (u2 Ia48 (1000) 24 (0)) (1037) ((Ia48 (1000) 27).toNatClampNeg) (x1_48)) (1000) 28 (v52)) (1000) 26 = Ia48 (1000) 26 from by simp [u2_v]))
              have pw72 : ((u2 (u2 (u2 Ia48 (1000) 24 (0)) (1037) ((Ia48 (1000) 27).toNatClampNeg) (x1_48)) (1000) 28 (v52)) (1000) 27).toInt = (Ia48 (1000) 27 : Int32).toInt := congrArg Int32.toInt ((show (u2 (u2 (u2 Ia48 (1000) 24 (0)) (1037) ((Ia48 (1000) 27).toNatClampNeg) (x1_48)) (1000) 28 (v52)) (1000) 27 = Ia48 (1000) 27 from by simp [u2_v]))
              have pw73 : ((u2 (u2 (u2 Ia48 (1000) 24 (0)) (1037) ((Ia48 (1000) 27).toNatClampNeg) (x1_48)) (1000) 28 (v52)) (1000) 29).toInt = (Ia48 (1000) 29 : Int32).toInt := congrArg Int32.toInt ((show (u2 (u2 (u2 Ia48 (1000) 24 (0)) (1037) ((Ia48 (1000) 27).toNatClampNeg) (x1_48)) (1000) 28 (v52)) (1000) 29 = Ia48 (1000) 29 from by simp [u2_v]))
              have pw74 : ((u2 (u2 (u2 Ia48 (1000) 24 (0)) (1037) ((Ia48 (1000) 27).toNatClampNeg) (x1_48)) (1000) 28 (v52)) (1000) 31).toInt = (Ia48 (1000) 31 : Int32).toInt := congrArg Int32.toInt ((show (u2 (u2 (u2 Ia48 (1000) 24 (0)) (1037) ((Ia48 (1000) 27).toNatClampNeg) (x1_48)) (1000) 28 (v52)) (1000) 31 = Ia48 (1000) 31 from by simp [u2_v]))
              have pw75 : ((u2 (u2 (u2 Ia48 (1000) 24 (0)) (1037) ((Ia48 (1000) 27).toNatClampNeg) (x1_48)) (1000) 28 (v52)) (1000) 32).toInt = (Ia48 (1000) 32 : Int32).toInt := congrArg Int32.toInt ((show (u2 (u2 (u2 Ia48 (1000) 24 (0)) (1037) ((Ia48 (1000) 27).toNatClampNeg) (x1_48)) (1000) 28 (v52)) (1000) 32 = Ia48 (1000) 32 from by simp [u2_v]))
              have pw76 : ((u2 (u2 (u2 Ia48 (1000) 24 (0)) (1037) ((Ia48 (1000) 27).toNatClampNeg) (x1_48)) (1000) 28 (v52)) (1000) 28).toInt = (v52 : Int32).toInt := congrArg Int32.toInt ((show (u2 (u2 (u2 Ia48 (1000) 24 (0)) (1037) ((Ia48 (1000) 27).toNatClampNeg) (x1_48)) (1000) 28 (v52)) (1000) 28 = v52 from by simp [u2_v]))
              have hz37 : (u2 (u2 (u2 Ia48 (1000) 24 (0)) (1037) ((Ia48 (1000) 27).toNatClampNeg) (x1_48)) (1000) 28 (v52)) 1037 = (u2 (u2 Ia48 (1000) 24 (0)) (1037) ((Ia48 (1000) 27).toNatClampNeg) (x1_48)) 1037 := (show (u2 (u2 (u2 Ia48 (1000) 24 (0)) (1037) ((Ia48 (1000) 27).toNatClampNeg) (x1_48)) (1000) 28 (v52)) 1037 = (u2 (u2 Ia48 (1000) 24 (0)) (1037) ((Ia48 (1000) 27).toNatClampNeg) (x1_48)) 1037 from by funext zz; simp [u2_v])
              have hq37 : (u2 Ia48 (1000) 24 (0)) 1037 = Ia48 1037 := (show (u2 Ia48 (1000) 24 (0)) 1037 = Ia48 1037 from by funext zz; simp [u2_v])
              have hs27 := tn (i := Ia48 1000 27) (by omega)
              have hold : ∀ r : Nat, (r : Int) < (I 1000 28).toInt → LWR (u2 (u2 (u2 Ia48 (1000) 24 (0)) (1037) ((Ia48 (1000) 27).toNatClampNeg) (x1_48)) (1000) 28 (v52)) r := fun r hr => (hLo r hr).of1 ((show (u2 (u2 (u2 Ia48 (1000) 24 (0)) (1037) ((Ia48 (1000) 27).toNatClampNeg) (x1_48)) (1000) 28 (v52)) 1035 = Ia48 1035 from by funext zz; simp [u2_v])) ((show (u2 (u2 (u2 Ia48 (1000) 24 (0)) (1037) ((Ia48 (1000) 27).toNatClampNeg) (x1_48)) (1000) 28 (v52)) 1036 = Ia48 1036 from by funext zz; simp [u2_v])) ((show (u2 (u2 (u2 Ia48 (1000) 24 (0)) (1037) ((Ia48 (1000) 27).toNatClampNeg) (x1_48)) (1000) 28 (v52)) 1039 = Ia48 1039 from by funext zz; simp [u2_v])) ((show (u2 (u2 (u2 Ia48 (1000) 24 (0)) (1037) ((Ia48 (1000) 27).toNatClampNeg) (x1_48)) (1000) 28 (v52)) 1040 = Ia48 1040 from by funext zz; simp [u2_v])) ((show (u2 (u2 (u2 Ia48 (1000) 24 (0)) (1037) ((Ia48 (1000) 27).toNatClampNeg) (x1_48)) (1000) 28 (v52)) 1041 = Ia48 1041 from by funext zz; simp [u2_v])) (by rw [hz37, u2_v, if_neg (by rintro ⟨-, hj⟩; omega)]; exact congrFun hq37 r)
              have hz1 := tn (i := x1_48) (by omega)
              have hnew := LWn.fin (Z := (u2 (u2 (u2 Ia48 (1000) 24 (0)) (1037) ((Ia48 (1000) 27).toNatClampNeg) (x1_48)) (1000) 28 (v52))) (n := (x1_48).toNatClampNeg) (r := (Ia48 1000 27).toNatClampNeg) (hLn (by omega)) hIa (by omega) (by omega) ((show (u2 (u2 (u2 Ia48 (1000) 24 (0)) (1037) ((Ia48 (1000) 27).toNatClampNeg) (x1_48)) (1000) 28 (v52)) 1035 = Ia48 1035 from by funext zz; simp [u2_v])) ((show (u2 (u2 (u2 Ia48 (1000) 24 (0)) (1037) ((Ia48 (1000) 27).toNatClampNeg) (x1_48)) (1000) 28 (v52)) 1036 = Ia48 1036 from by funext zz; simp [u2_v])) ((show (u2 (u2 (u2 Ia48 (1000) 24 (0)) (1037) ((Ia48 (1000) 27).toNatClampNeg) (x1_48)) (1000) 28 (v52)) 1039 = Ia48 1039 from by funext zz; simp [u2_v])) ((show (u2 (u2 (u2 Ia48 (1000) 24 (0)) (1037) ((Ia48 (1000) 27).toNatClampNeg) (x1_48)) (1000) 28 (v52)) 1040 = Ia48 1040 from by funext zz; simp [u2_v])) ((show (u2 (u2 (u2 Ia48 (1000) 24 (0)) (1037) ((Ia48 (1000) 27).toNatClampNeg) (x1_48)) (1000) 28 (v52)) 1041 = Ia48 1041 from by funext zz; simp [u2_v])) (by rw [hz37, u2_self]; omega) (by omega)
              exact m_iret hx hb hr hlocks hM hS (Nat.le_of_ble_eq_true rfl) (Nat.le_of_ble_eq_true rfl) ⟨_, _, rfl, hI, hK, (fun r hr => by by_cases hq : (r : Int) < (I 1000 28).toInt; exact hold r hq; rw [show r = (Ia48 1000 27).toNatClampNeg from by omega]; exact hnew)⟩ dX10_law_196
        · have hc17 := c17
          have q17 := q_ne hc17
          have wo := hon (by omega)
          have wc := hcn (by omega)
          refine lv_aload_n hx hb dX10_law_52 rfl (lv_at hl 2 rfl) ?_
          refine lv_iload_n hx hb dX10_law_53 rfl (lv_at hl 1 rfl) ?_
          refine m_callv (m_runV (1000) (As := [.int (x1_48)]) (rest := []) hx hb hml hown hts hE hM hS hA ce_X10_clause tb_1502 (V_X10_clause l D A ad ns Ia48 La48 G (x1_48) hJ hI (by omega) (fun hz => by omega) (by first | omega | decide)) rfl rfl ⟨Nat.le_of_ble_eq_true rfl, Nat.le_of_ble_eq_true rfl⟩ hJ.1 rfl rfl (by decide) rfl hl.1 rfl (Nat.le_of_ble_eq_true rfl) dX10_law_54 ⟨Nat.le_of_ble_eq_true rfl, Nat.le_of_ble_eq_true rfl⟩) hS (fun u H locs hw hM hS => ?_)
          obtain ⟨I77, L78, rfl, hI, hkI77, xI77⟩ := hw
          have hM : Mem D A ad ns I77 L78 G H := hM
          have hK := hK.trans hkI77 rfl
          have pw79 : (I77 (1000) 24).toInt = (Ia48 (1000) 24 : Int32).toInt := congrArg Int32.toInt ((hkI77.get (1000) 24 rfl))
          have pw80 : (I77 (1000) 27).toInt = (Ia48 (1000) 27 : Int32).toInt := congrArg Int32.toInt ((hkI77.get (1000) 27 rfl))
          have pw81 : (I77 (1000) 28).toInt = (Ia48 (1000) 28 : Int32).toInt := congrArg Int32.toInt ((hkI77.get (1000) 28 rfl))
          have g82 := hIa.get 1000 27 (lo := 0) (hi := 5) rfl
          have g83 := hIa.get 1000 29 (lo := 0) (hi := 300) rfl
          replace hLo := fun (r : Nat) (hr : (r : Int) < (I 1000 28).toInt) => (hLo r hr).clause hIa xI77.2.2.2.2.2 (hkI77.getA 1037 rfl) (by omega)
          replace hLn : Imp ((I77 1000 26).toInt = 0) (LWn I77 ((x1_48).toNatClampNeg + 1)) := fun hz => LWn.clause (hLn ((xI77.2.2.2.1 hz).1)) hIa xI77.2.2.2.2.2 (xI77.2.2.2.2.1 hz) (by omega) (by omega) (by omega)
          obtain ⟨v84, ev84⟩ : ∃ z : Int32, z = x1_48 + Int32.ofInt (1) := ⟨_, rfl⟩
          have tv84 := a_inc ev84 (by decide) (by omega) (by omega)
          refine lv_iinc (v := v84) (lv' := [(1, .int (v84)), (2, .int (x2_48)), (0, .ref (ad (1000)))]) hx hb dX10_law_57 hl (k := 1) rfl ev84.symm (by decide) rfl (fun ls hl => ?_)
          refine lv_aload_n hx hb dX10_law_60 rfl (lv_at hl 2 rfl) ?_
          refine m_callv (m_runV (1000) (As := []) (rest := []) hx hb hml hown hts hE hM hS hA ce_X10_blanks tb_1506 (V_X10_blanks_w l D A ad ns I77 L78 G hJ hI (by omega)) rfl rfl ⟨Nat.le_of_ble_eq_true rfl, Nat.le_of_ble_eq_true rfl⟩ hJ.1 rfl rfl (by decide) rfl hl.1 rfl (Nat.le_of_ble_eq_true rfl) dX10_law_61 ⟨Nat.le_of_ble_eq_true rfl, Nat.le_of_ble_eq_true rfl⟩) hS (fun u H locs hw hM hS => ?_)
          obtain ⟨I85, L86, rfl, hI, hkI85, xI85⟩ := hw
          have hM : Mem D A ad ns I85 L86 G H := hM
          have hK := hK.trans hkI85 rfl
          have pw87 : (I85 (1000) 24).toInt = (Ia48 (1000) 24 : Int32).toInt := congrArg Int32.toInt (((hkI85.get (1000) 24 rfl)).trans (hkI77.get (1000) 24 rfl))
          have pw88 : (I85 (1000) 26).toInt = (I77 (1000) 26 : Int32).toInt := congrArg Int32.toInt ((hkI85.get (1000) 26 rfl))
          have pw89 : (I85 (1000) 27).toInt = (Ia48 (1000) 27 : Int32).toInt := congrArg Int32.toInt (((hkI85.get (1000) 27 rfl)).trans (hkI77.get (1000) 27 rfl))
          have pw90 : (I85 (1000) 29).toInt = (I77 (1000) 29 : Int32).toInt := congrArg Int32.toInt ((hkI85.get (1000) 29 rfl))
          have pw91 : (I85 (1000) 31).toInt = (I77 (1000) 31 : Int32).toInt := congrArg Int32.toInt ((hkI85.get (1000) 31 rfl))
          have pw92 : (I85 (1000) 32).toInt = (I77 (1000) 32 : Int32).toInt := congrArg Int32.toInt ((hkI85.get (1000) 32 rfl))
          refine lv_aload_n hx hb dX10_law_64 rfl (lv_at hl 2 rfl) ?_
          refine m_geti (1000) 26 hx hb hts hown hE oc10 hM hJ.1 rfl (by decide) rfl tb_1203 dX10_law_65 ?_
          have z93 : I85 (1000) 26 = I77 (1000) 26 := (hkI85.get (1000) 26 rfl)
          rw [z93]
          refine lv_if_ne (tgt := 100) hx hb dX10_law_68 (by decide) (fun c94 => ?_) (fun c94 => ?_)
          · have hc94 := c94
            have q94 := q_ne hc94
            refine lv_aload_n hx hb dX10_law_100 rfl (lv_at hl 2 rfl) ?_
            refine m_geti (1000) 26 hx hb hts hown hE oc10 hM hJ.1 rfl (by decide) rfl tb_1203 dX10_law_101 ?_
            have z95 : I85 (1000) 26 = I77 (1000) 26 := (hkI85.get (1000) 26 rfl)
            rw [z95]
            refine lv_if_ne (tgt := 122) hx hb dX10_law_104 (by decide) (fun c96 => ?_) (fun c96 => ?_)
            · have hc96 := c96
              have q96 := q_ne hc96
              refine lv_iconst (v := (0)) hx hb dX10_law_122 (by decide) ?_
              refine lv_istore_n (lv' := [(2, .int (0)), (1, .int (v84)), (0, .ref (ad (1000)))]) hx hb dX10_law_123 rfl hl (by decide) rfl (fun ls hl => ?_)
              refine lv_aload_n hx hb dX10_law_124 rfl (lv_at hl 2 rfl) ?_
              refine lv_dup hx hb dX10_law_125 rfl ?_
              refine m_geti (1000) 25 hx hb hts hown hE oc10 hM hJ.1 rfl (by decide) rfl tb_1202 dX10_law_126 ?_
              have g97 := hI.get (1000) 25 (lo := 0) (hi := 100000) rfl
              refine lv_iconst (v := (1)) hx hb dX10_law_129 (by decide) ?_
              refine lv_iadd hx hb dX10_law_130 ?_
              refine lv_topi (fun v98 ev98 => ?_)
              have tv98 := a_add ev98 (by omega) (by omega)
              refine m_puti (1000) 25 hx hb hts hown hE oc10 hM hS hJ.1 rfl (by decide) rfl rfl rfl rfl tb_1202 dX10_law_131 (fun H locs I99 eI99 hM hS => ?_)
              subst eI99
              have hI := hI.put (n := 1000) (k := 25) (v := v98) (lo := 0) (hi := 100000) rfl (by first | omega | decide)
              have hK := hK.put (n := 1000) (k := 25) (v := v98) (by first | rfl | simp [inR])
              refine lv_goto (tgt := 48) hx hb dX10_law_134 (by decide) ?_
              have pw100 : ((u2 I85 (1000) 25 (v98)) (1000) 24).toInt = (Ia48 (1000) 24 : Int32).toInt := congrArg Int32.toInt ((((show (u2 I85 (1000) 25 (v98)) (1000) 24 = I85 (1000) 24 from by simp [u2_v])).trans (hkI85.get (1000) 24 rfl)).trans (hkI77.get (1000) 24 rfl))
              have pw101 : ((u2 I85 (1000) 25 (v98)) (1000) 25).toInt = (v98 : Int32).toInt := congrArg Int32.toInt ((show (u2 I85 (1000) 25 (v98)) (1000) 25 = v98 from by simp [u2_v]))
              have pw102 : ((u2 I85 (1000) 25 (v98)) (1000) 26).toInt = (I77 (1000) 26 : Int32).toInt := congrArg Int32.toInt (((show (u2 I85 (1000) 25 (v98)) (1000) 26 = I85 (1000) 26 from by simp [u2_v])).trans (hkI85.get (1000) 26 rfl))
              have pw103 : ((u2 I85 (1000) 25 (v98)) (1000) 27).toInt = (Ia48 (1000) 27 : Int32).toInt := congrArg Int32.toInt ((((show (u2 I85 (1000) 25 (v98)) (1000) 27 = I85 (1000) 27 from by simp [u2_v])).trans (hkI85.get (1000) 27 rfl)).trans (hkI77.get (1000) 27 rfl))
              have pw104 : ((u2 I85 (1000) 25 (v98)) (1000) 29).toInt = (I77 (1000) 29 : Int32).toInt := congrArg Int32.toInt (((show (u2 I85 (1000) 25 (v98)) (1000) 29 = I85 (1000) 29 from by simp [u2_v])).trans (hkI85.get (1000) 29 rfl))
              have pw105 : ((u2 I85 (1000) 25 (v98)) (1000) 31).toInt = (I77 (1000) 31 : Int32).toInt := congrArg Int32.toInt (((show (u2 I85 (1000) 25 (v98)) (1000) 31 = I85 (1000) 31 from by simp [u2_v])).trans (hkI85.get (1000) 31 rfl))
              have pw106 : ((u2 I85 (1000) 25 (v98)) (1000) 32).toInt = (I77 (1000) 32 : Int32).toInt := congrArg Int32.toInt (((show (u2 I85 (1000) 25 (v98)) (1000) 32 = I85 (1000) 32 from by simp [u2_v])).trans (hkI85.get (1000) 32 rfl))
              have pw107 : ((u2 I85 (1000) 25 (v98)) (1000) 28).toInt = (Ia48 (1000) 28 : Int32).toInt := congrArg Int32.toInt ((((show (u2 I85 (1000) 25 (v98)) (1000) 28 = I85 (1000) 28 from by simp [u2_v])).trans (hkI85.get (1000) 28 rfl)).trans (hkI77.get (1000) 28 rfl))
              have hz1 : (v84).toNatClampNeg = (x1_48).toNatClampNeg + 1 := by have z1 := tn (i := v84) (by omega); have z2 := tn (i := x1_48) (by omega); omega
              exact ih48 (0) (v84) (u2 I85 (1000) 25 (v98)) L86 _ _ ls hI hK (by first | omega | decide) (by first | omega | decide) (by omega) (fun hz => by omega) (fun hz => by have w0 := xI77.2.2.2.1 (by omega); omega) (fun r hr => (hLo r hr).of (((show (u2 I85 (1000) 25 (v98)) 1035 = I85 1035 from by funext zz; simp [u2_v])).trans (hkI85.getA 1035 rfl)) (((show (u2 I85 (1000) 25 (v98)) 1036 = I85 1036 from by funext zz; simp [u2_v])).trans (hkI85.getA 1036 rfl)) (((show (u2 I85 (1000) 25 (v98)) 1037 = I85 1037 from by funext zz; simp [u2_v])).trans (hkI85.getA 1037 rfl)) (((show (u2 I85 (1000) 25 (v98)) 1039 = I85 1039 from by funext zz; simp [u2_v])).trans (hkI85.getA 1039 rfl)) (((show (u2 I85 (1000) 25 (v98)) 1040 = I85 1040 from by funext zz; simp [u2_v])).trans (hkI85.getA 1040 rfl)) (((show (u2 I85 (1000) 25 (v98)) 1041 = I85 1041 from by funext zz; simp [u2_v])).trans (hkI85.getA 1041 rfl))) (fun hz => by rw [hz1]; have w0 := xI77.2.2.2.1 (by omega); exact (hLn (by omega)).of (((show (u2 I85 (1000) 25 (v98)) 1035 = I85 1035 from by funext zz; simp [u2_v])).trans (hkI85.getA 1035 rfl)) (((show (u2 I85 (1000) 25 (v98)) 1036 = I85 1036 from by funext zz; simp [u2_v])).trans (hkI85.getA 1036 rfl)) (((show (u2 I85 (1000) 25 (v98)) 1039 = I85 1039 from by funext zz; simp [u2_v])).trans (hkI85.getA 1039 rfl)) (((show (u2 I85 (1000) 25 (v98)) 1040 = I85 1040 from by funext zz; simp [u2_v])).trans (hkI85.getA 1040 rfl)) (((show (u2 I85 (1000) 25 (v98)) 1041 = I85 1041 from by funext zz; simp [u2_v])).trans (hkI85.getA 1041 rfl)) (by omega) (by omega)) (by omega) hM hS (lv_sub hl [0, 1, 2] rfl)
            · have hc96 := c96
              have q96 := q_eq hc96
              have w108 := xI77.2.2.2.1 (by omega)
              refine lv_aload_n hx hb dX10_law_107 rfl (lv_at hl 2 rfl) ?_
              refine m_geti (1000) 25 hx hb hts hown hE oc10 hM hJ.1 rfl (by decide) rfl tb_1202 dX10_law_108 ?_
              have g109 := hI.get (1000) 25 (lo := 0) (hi := 100000) rfl
              refine lv_aload_n hx hb dX10_law_111 rfl (lv_at hl 2 rfl) ?_
              refine m_geti (1000) 24 hx hb hts hown hE oc10 hM hJ.1 rfl (by decide) rfl tb_1201 dX10_law_112 ?_
              have g110 := hI.get (1000) 24 (lo := 0) (hi := 400) rfl
              have z111 : I85 (1000) 24 = Ia48 (1000) 24 := ((hkI85.get (1000) 24 rfl)).trans (hkI77.get (1000) 24 rfl)
              rw [z111] at g110 ⊢
              refine lv_icmp_ge (tgt := 122) hx hb dX10_law_115 (by decide) (fun c112 => ?_) (fun c112 => ?_)
              · have hc112 := c112
                have q112 := q_le hc112
                refine lv_iconst (v := (0)) hx hb dX10_law_122 (by decide) ?_
                refine lv_istore_n (lv' := [(2, .int (0)), (1, .int (v84)), (0, .ref (ad (1000)))]) hx hb dX10_law_123 rfl hl (by decide) rfl (fun ls hl => ?_)
                refine lv_aload_n hx hb dX10_law_124 rfl (lv_at hl 2 rfl) ?_
                refine lv_dup hx hb dX10_law_125 rfl ?_
                refine m_geti (1000) 25 hx hb hts hown hE oc10 hM hJ.1 rfl (by decide) rfl tb_1202 dX10_law_126 ?_
                refine lv_iconst (v := (1)) hx hb dX10_law_129 (by decide) ?_
                refine lv_iadd hx hb dX10_law_130 ?_
                refine lv_topi (fun v113 ev113 => ?_)
                have tv113 := a_add ev113 (by omega) (by omega)
                refine m_puti (1000) 25 hx hb hts hown hE oc10 hM hS hJ.1 rfl (by decide) rfl rfl rfl rfl tb_1202 dX10_law_131 (fun H locs I114 eI114 hM hS => ?_)
                subst eI114
                have hI := hI.put (n := 1000) (k := 25) (v := v113) (lo := 0) (hi := 100000) rfl (by first | omega | decide)
                have hK := hK.put (n := 1000) (k := 25) (v := v113) (by first | rfl | simp [inR])
                refine lv_goto (tgt := 48) hx hb dX10_law_134 (by decide) ?_
                have pw115 : ((u2 I85 (1000) 25 (v113)) (1000) 24).toInt = (Ia48 (1000) 24 : Int32).toInt := congrArg Int32.toInt ((((show (u2 I85 (1000) 25 (v113)) (1000) 24 = I85 (1000) 24 from by simp [u2_v])).trans (hkI85.get (1000) 24 rfl)).trans (hkI77.get (1000) 24 rfl))
                have pw116 : ((u2 I85 (1000) 25 (v113)) (1000) 25).toInt = (v113 : Int32).toInt := congrArg Int32.toInt ((show (u2 I85 (1000) 25 (v113)) (1000) 25 = v113 from by simp [u2_v]))
                have pw117 : ((u2 I85 (1000) 25 (v113)) (1000) 26).toInt = (I77 (1000) 26 : Int32).toInt := congrArg Int32.toInt (((show (u2 I85 (1000) 25 (v113)) (1000) 26 = I85 (1000) 26 from by simp [u2_v])).trans (hkI85.get (1000) 26 rfl))
                have pw118 : ((u2 I85 (1000) 25 (v113)) (1000) 27).toInt = (Ia48 (1000) 27 : Int32).toInt := congrArg Int32.toInt ((((show (u2 I85 (1000) 25 (v113)) (1000) 27 = I85 (1000) 27 from by simp [u2_v])).trans (hkI85.get (1000) 27 rfl)).trans (hkI77.get (1000) 27 rfl))
                have pw119 : ((u2 I85 (1000) 25 (v113)) (1000) 29).toInt = (I77 (1000) 29 : Int32).toInt := congrArg Int32.toInt (((show (u2 I85 (1000) 25 (v113)) (1000) 29 = I85 (1000) 29 from by simp [u2_v])).trans (hkI85.get (1000) 29 rfl))
                have pw120 : ((u2 I85 (1000) 25 (v113)) (1000) 31).toInt = (I77 (1000) 31 : Int32).toInt := congrArg Int32.toInt (((show (u2 I85 (1000) 25 (v113)) (1000) 31 = I85 (1000) 31 from by simp [u2_v])).trans (hkI85.get (1000) 31 rfl))
                have pw121 : ((u2 I85 (1000) 25 (v113)) (1000) 32).toInt = (I77 (1000) 32 : Int32).toInt := congrArg Int32.toInt (((show (u2 I85 (1000) 25 (v113)) (1000) 32 = I85 (1000) 32 from by simp [u2_v])).trans (hkI85.get (1000) 32 rfl))
                have pw122 : ((u2 I85 (1000) 25 (v113)) (1000) 28).toInt = (Ia48 (1000) 28 : Int32).toInt := congrArg Int32.toInt ((((show (u2 I85 (1000) 25 (v113)) (1000) 28 = I85 (1000) 28 from by simp [u2_v])).trans (hkI85.get (1000) 28 rfl)).trans (hkI77.get (1000) 28 rfl))
                have hz1 : (v84).toNatClampNeg = (x1_48).toNatClampNeg + 1 := by have z1 := tn (i := v84) (by omega); have z2 := tn (i := x1_48) (by omega); omega
                exact ih48 (0) (v84) (u2 I85 (1000) 25 (v113)) L86 _ _ ls hI hK (by first | omega | decide) (by first | omega | decide) (by omega) (fun hz => by omega) (fun hz => by omega) (fun r hr => (hLo r hr).of (((show (u2 I85 (1000) 25 (v113)) 1035 = I85 1035 from by funext zz; simp [u2_v])).trans (hkI85.getA 1035 rfl)) (((show (u2 I85 (1000) 25 (v113)) 1036 = I85 1036 from by funext zz; simp [u2_v])).trans (hkI85.getA 1036 rfl)) (((show (u2 I85 (1000) 25 (v113)) 1037 = I85 1037 from by funext zz; simp [u2_v])).trans (hkI85.getA 1037 rfl)) (((show (u2 I85 (1000) 25 (v113)) 1039 = I85 1039 from by funext zz; simp [u2_v])).trans (hkI85.getA 1039 rfl)) (((show (u2 I85 (1000) 25 (v113)) 1040 = I85 1040 from by funext zz; simp [u2_v])).trans (hkI85.getA 1040 rfl)) (((show (u2 I85 (1000) 25 (v113)) 1041 = I85 1041 from by funext zz; simp [u2_v])).trans (hkI85.getA 1041 rfl))) (fun hz => by rw [hz1]; exact (hLn (by omega)).of (((show (u2 I85 (1000) 25 (v113)) 1035 = I85 1035 from by funext zz; simp [u2_v])).trans (hkI85.getA 1035 rfl)) (((show (u2 I85 (1000) 25 (v113)) 1036 = I85 1036 from by funext zz; simp [u2_v])).trans (hkI85.getA 1036 rfl)) (((show (u2 I85 (1000) 25 (v113)) 1039 = I85 1039 from by funext zz; simp [u2_v])).trans (hkI85.getA 1039 rfl)) (((show (u2 I85 (1000) 25 (v113)) 1040 = I85 1040 from by funext zz; simp [u2_v])).trans (hkI85.getA 1040 rfl)) (((show (u2 I85 (1000) 25 (v113)) 1041 = I85 1041 from by funext zz; simp [u2_v])).trans (hkI85.getA 1041 rfl)) (by omega) (by omega)) (by omega) hM hS (lv_sub hl [0, 1, 2] rfl)
              · have hc112 := c112
                have q112 := q_nle hc112
                refine lv_iconst (v := (1)) hx hb dX10_law_118 (by decide) ?_
                refine lv_goto (tgt := 123) hx hb dX10_law_119 (by decide) ?_
                refine lv_istore_n (lv' := [(2, .int (1)), (1, .int (v84)), (0, .ref (ad (1000)))]) hx hb dX10_law_123 rfl hl (by decide) rfl (fun ls hl => ?_)
                refine lv_aload_n hx hb dX10_law_124 rfl (lv_at hl 2 rfl) ?_
                refine lv_dup hx hb dX10_law_125 rfl ?_
                refine m_geti (1000) 25 hx hb hts hown hE oc10 hM hJ.1 rfl (by decide) rfl tb_1202 dX10_law_126 ?_
                refine lv_iconst (v := (1)) hx hb dX10_law_129 (by decide) ?_
                refine lv_iadd hx hb dX10_law_130 ?_
                refine lv_topi (fun v123 ev123 => ?_)
                have tv123 := a_add ev123 (by omega) (by omega)
                refine m_puti (1000) 25 hx hb hts hown hE oc10 hM hS hJ.1 rfl (by decide) rfl rfl rfl rfl tb_1202 dX10_law_131 (fun H locs I124 eI124 hM hS => ?_)
                subst eI124
                have hI := hI.put (n := 1000) (k := 25) (v := v123) (lo := 0) (hi := 100000) rfl (by first | omega | decide)
                have hK := hK.put (n := 1000) (k := 25) (v := v123) (by first | rfl | simp [inR])
                refine lv_goto (tgt := 48) hx hb dX10_law_134 (by decide) ?_
                have pw125 : ((u2 I85 (1000) 25 (v123)) (1000) 24).toInt = (Ia48 (1000) 24 : Int32).toInt := congrArg Int32.toInt ((((show (u2 I85 (1000) 25 (v123)) (1000) 24 = I85 (1000) 24 from by simp [u2_v])).trans (hkI85.get (1000) 24 rfl)).trans (hkI77.get (1000) 24 rfl))
                have pw126 : ((u2 I85 (1000) 25 (v123)) (1000) 25).toInt = (v123 : Int32).toInt := congrArg Int32.toInt ((show (u2 I85 (1000) 25 (v123)) (1000) 25 = v123 from by simp [u2_v]))
                have pw127 : ((u2 I85 (1000) 25 (v123)) (1000) 26).toInt = (I77 (1000) 26 : Int32).toInt := congrArg Int32.toInt (((show (u2 I85 (1000) 25 (v123)) (1000) 26 = I85 (1000) 26 from by simp [u2_v])).trans (hkI85.get (1000) 26 rfl))
                have pw128 : ((u2 I85 (1000) 25 (v123)) (1000) 27).toInt = (Ia48 (1000) 27 : Int32).toInt := congrArg Int32.toInt ((((show (u2 I85 (1000) 25 (v123)) (1000) 27 = I85 (1000) 27 from by simp [u2_v])).trans (hkI85.get (1000) 27 rfl)).trans (hkI77.get (1000) 27 rfl))
                have pw129 : ((u2 I85 (1000) 25 (v123)) (1000) 29).toInt = (I77 (1000) 29 : Int32).toInt := congrArg Int32.toInt (((show (u2 I85 (1000) 25 (v123)) (1000) 29 = I85 (1000) 29 from by simp [u2_v])).trans (hkI85.get (1000) 29 rfl))
                have pw130 : ((u2 I85 (1000) 25 (v123)) (1000) 31).toInt = (I77 (1000) 31 : Int32).toInt := congrArg Int32.toInt (((show (u2 I85 (1000) 25 (v123)) (1000) 31 = I85 (1000) 31 from by simp [u2_v])).trans (hkI85.get (1000) 31 rfl))
                have pw131 : ((u2 I85 (1000) 25 (v123)) (1000) 32).toInt = (I77 (1000) 32 : Int32).toInt := congrArg Int32.toInt (((show (u2 I85 (1000) 25 (v123)) (1000) 32 = I85 (1000) 32 from by simp [u2_v])).trans (hkI85.get (1000) 32 rfl))
                have pw132 : ((u2 I85 (1000) 25 (v123)) (1000) 28).toInt = (Ia48 (1000) 28 : Int32).toInt := congrArg Int32.toInt ((((show (u2 I85 (1000) 25 (v123)) (1000) 28 = I85 (1000) 28 from by simp [u2_v])).trans (hkI85.get (1000) 28 rfl)).trans (hkI77.get (1000) 28 rfl))
                have hz1 : (v84).toNatClampNeg = (x1_48).toNatClampNeg + 1 := by have z1 := tn (i := v84) (by omega); have z2 := tn (i := x1_48) (by omega); omega
                exact ih48 (1) (v84) (u2 I85 (1000) 25 (v123)) L86 _ _ ls hI hK (by first | omega | decide) (by first | omega | decide) (by omega) (fun hz => by omega) (fun hz => by omega) (fun r hr => (hLo r hr).of (((show (u2 I85 (1000) 25 (v123)) 1035 = I85 1035 from by funext zz; simp [u2_v])).trans (hkI85.getA 1035 rfl)) (((show (u2 I85 (1000) 25 (v123)) 1036 = I85 1036 from by funext zz; simp [u2_v])).trans (hkI85.getA 1036 rfl)) (((show (u2 I85 (1000) 25 (v123)) 1037 = I85 1037 from by funext zz; simp [u2_v])).trans (hkI85.getA 1037 rfl)) (((show (u2 I85 (1000) 25 (v123)) 1039 = I85 1039 from by funext zz; simp [u2_v])).trans (hkI85.getA 1039 rfl)) (((show (u2 I85 (1000) 25 (v123)) 1040 = I85 1040 from by funext zz; simp [u2_v])).trans (hkI85.getA 1040 rfl)) (((show (u2 I85 (1000) 25 (v123)) 1041 = I85 1041 from by funext zz; simp [u2_v])).trans (hkI85.getA 1041 rfl))) (fun hz => by rw [hz1]; exact (hLn (by omega)).of (((show (u2 I85 (1000) 25 (v123)) 1035 = I85 1035 from by funext zz; simp [u2_v])).trans (hkI85.getA 1035 rfl)) (((show (u2 I85 (1000) 25 (v123)) 1036 = I85 1036 from by funext zz; simp [u2_v])).trans (hkI85.getA 1036 rfl)) (((show (u2 I85 (1000) 25 (v123)) 1039 = I85 1039 from by funext zz; simp [u2_v])).trans (hkI85.getA 1039 rfl)) (((show (u2 I85 (1000) 25 (v123)) 1040 = I85 1040 from by funext zz; simp [u2_v])).trans (hkI85.getA 1040 rfl)) (((show (u2 I85 (1000) 25 (v123)) 1041 = I85 1041 from by funext zz; simp [u2_v])).trans (hkI85.getA 1041 rfl)) (by omega) (by omega)) (by omega) hM hS (lv_sub hl [0, 1, 2] rfl)
          · have hc94 := c94
            have q94 := q_eq hc94
            have w133 := xI77.2.2.2.1 (by omega)
            refine lv_aload_n hx hb dX10_law_71 rfl (lv_at hl 2 rfl) ?_
            refine m_geti (1000) 25 hx hb hts hown hE oc10 hM hJ.1 rfl (by decide) rfl tb_1202 dX10_law_72 ?_
            have g134 := hI.get (1000) 25 (lo := 0) (hi := 100000) rfl
            refine lv_aload_n hx hb dX10_law_75 rfl (lv_at hl 2 rfl) ?_
            refine m_geti (1000) 24 hx hb hts hown hE oc10 hM hJ.1 rfl (by decide) rfl tb_1201 dX10_law_76 ?_
            have g135 := hI.get (1000) 24 (lo := 0) (hi := 400) rfl
            have z136 : I85 (1000) 24 = Ia48 (1000) 24 := ((hkI85.get (1000) 24 rfl)).trans (hkI77.get (1000) 24 rfl)
            rw [z136] at g135 ⊢
            refine lv_icmp_ge (tgt := 100) hx hb dX10_law_79 (by decide) (fun c137 => ?_) (fun c137 => ?_)
            · have hc137 := c137
              have q137 := q_le hc137
              refine lv_aload_n hx hb dX10_law_100 rfl (lv_at hl 2 rfl) ?_
              refine m_geti (1000) 26 hx hb hts hown hE oc10 hM hJ.1 rfl (by decide) rfl tb_1203 dX10_law_101 ?_
              have z138 : I85 (1000) 26 = I77 (1000) 26 := (hkI85.get (1000) 26 rfl)
              rw [z138]
              refine lv_if_ne (tgt := 122) hx hb dX10_law_104 (by decide) (fun c139 => ?_) (fun c139 => ?_)
              · have hc139 := c139
                have q139 := q_ne hc139
                refine lv_iconst (v := (0)) hx hb dX10_law_122 (by decide) ?_
                refine lv_istore_n (lv' := [(2, .int (0)), (1, .int (v84)), (0, .ref (ad (1000)))]) hx hb dX10_law_123 rfl hl (by decide) rfl (fun ls hl => ?_)
                refine lv_aload_n hx hb dX10_law_124 rfl (lv_at hl 2 rfl) ?_
                refine lv_dup hx hb dX10_law_125 rfl ?_
                refine m_geti (1000) 25 hx hb hts hown hE oc10 hM hJ.1 rfl (by decide) rfl tb_1202 dX10_law_126 ?_
                refine lv_iconst (v := (1)) hx hb dX10_law_129 (by decide) ?_
                refine lv_iadd hx hb dX10_law_130 ?_
                refine lv_topi (fun v140 ev140 => ?_)
                have tv140 := a_add ev140 (by omega) (by omega)
                refine m_puti (1000) 25 hx hb hts hown hE oc10 hM hS hJ.1 rfl (by decide) rfl rfl rfl rfl tb_1202 dX10_law_131 (fun H locs I141 eI141 hM hS => ?_)
                subst eI141
                have hI := hI.put (n := 1000) (k := 25) (v := v140) (lo := 0) (hi := 100000) rfl (by first | omega | decide)
                have hK := hK.put (n := 1000) (k := 25) (v := v140) (by first | rfl | simp [inR])
                refine lv_goto (tgt := 48) hx hb dX10_law_134 (by decide) ?_
                have pw142 : ((u2 I85 (1000) 25 (v140)) (1000) 24).toInt = (Ia48 (1000) 24 : Int32).toInt := congrArg Int32.toInt ((((show (u2 I85 (1000) 25 (v140)) (1000) 24 = I85 (1000) 24 from by simp [u2_v])).trans (hkI85.get (1000) 24 rfl)).trans (hkI77.get (1000) 24 rfl))
                have pw143 : ((u2 I85 (1000) 25 (v140)) (1000) 25).toInt = (v140 : Int32).toInt := congrArg Int32.toInt ((show (u2 I85 (1000) 25 (v140)) (1000) 25 = v140 from by simp [u2_v]))
                have pw144 : ((u2 I85 (1000) 25 (v140)) (1000) 26).toInt = (I77 (1000) 26 : Int32).toInt := congrArg Int32.toInt (((show (u2 I85 (1000) 25 (v140)) (1000) 26 = I85 (1000) 26 from by simp [u2_v])).trans (hkI85.get (1000) 26 rfl))
                have pw145 : ((u2 I85 (1000) 25 (v140)) (1000) 27).toInt = (Ia48 (1000) 27 : Int32).toInt := congrArg Int32.toInt ((((show (u2 I85 (1000) 25 (v140)) (1000) 27 = I85 (1000) 27 from by simp [u2_v])).trans (hkI85.get (1000) 27 rfl)).trans (hkI77.get (1000) 27 rfl))
                have pw146 : ((u2 I85 (1000) 25 (v140)) (1000) 29).toInt = (I77 (1000) 29 : Int32).toInt := congrArg Int32.toInt (((show (u2 I85 (1000) 25 (v140)) (1000) 29 = I85 (1000) 29 from by simp [u2_v])).trans (hkI85.get (1000) 29 rfl))
                have pw147 : ((u2 I85 (1000) 25 (v140)) (1000) 31).toInt = (I77 (1000) 31 : Int32).toInt := congrArg Int32.toInt (((show (u2 I85 (1000) 25 (v140)) (1000) 31 = I85 (1000) 31 from by simp [u2_v])).trans (hkI85.get (1000) 31 rfl))
                have pw148 : ((u2 I85 (1000) 25 (v140)) (1000) 32).toInt = (I77 (1000) 32 : Int32).toInt := congrArg Int32.toInt (((show (u2 I85 (1000) 25 (v140)) (1000) 32 = I85 (1000) 32 from by simp [u2_v])).trans (hkI85.get (1000) 32 rfl))
                have pw149 : ((u2 I85 (1000) 25 (v140)) (1000) 28).toInt = (Ia48 (1000) 28 : Int32).toInt := congrArg Int32.toInt ((((show (u2 I85 (1000) 25 (v140)) (1000) 28 = I85 (1000) 28 from by simp [u2_v])).trans (hkI85.get (1000) 28 rfl)).trans (hkI77.get (1000) 28 rfl))
                have hz1 : (v84).toNatClampNeg = (x1_48).toNatClampNeg + 1 := by have z1 := tn (i := v84) (by omega); have z2 := tn (i := x1_48) (by omega); omega
                exact ih48 (0) (v84) (u2 I85 (1000) 25 (v140)) L86 _ _ ls hI hK (by first | omega | decide) (by first | omega | decide) (by omega) (fun hz => by omega) (fun hz => by omega) (fun r hr => (hLo r hr).of (((show (u2 I85 (1000) 25 (v140)) 1035 = I85 1035 from by funext zz; simp [u2_v])).trans (hkI85.getA 1035 rfl)) (((show (u2 I85 (1000) 25 (v140)) 1036 = I85 1036 from by funext zz; simp [u2_v])).trans (hkI85.getA 1036 rfl)) (((show (u2 I85 (1000) 25 (v140)) 1037 = I85 1037 from by funext zz; simp [u2_v])).trans (hkI85.getA 1037 rfl)) (((show (u2 I85 (1000) 25 (v140)) 1039 = I85 1039 from by funext zz; simp [u2_v])).trans (hkI85.getA 1039 rfl)) (((show (u2 I85 (1000) 25 (v140)) 1040 = I85 1040 from by funext zz; simp [u2_v])).trans (hkI85.getA 1040 rfl)) (((show (u2 I85 (1000) 25 (v140)) 1041 = I85 1041 from by funext zz; simp [u2_v])).trans (hkI85.getA 1041 rfl))) (fun hz => by rw [hz1]; exact (hLn (by omega)).of (((show (u2 I85 (1000) 25 (v140)) 1035 = I85 1035 from by funext zz; simp [u2_v])).trans (hkI85.getA 1035 rfl)) (((show (u2 I85 (1000) 25 (v140)) 1036 = I85 1036 from by funext zz; simp [u2_v])).trans (hkI85.getA 1036 rfl)) (((show (u2 I85 (1000) 25 (v140)) 1039 = I85 1039 from by funext zz; simp [u2_v])).trans (hkI85.getA 1039 rfl)) (((show (u2 I85 (1000) 25 (v140)) 1040 = I85 1040 from by funext zz; simp [u2_v])).trans (hkI85.getA 1040 rfl)) (((show (u2 I85 (1000) 25 (v140)) 1041 = I85 1041 from by funext zz; simp [u2_v])).trans (hkI85.getA 1041 rfl)) (by omega) (by omega)) (by omega) hM hS (lv_sub hl [0, 1, 2] rfl)
              · have hc139 := c139
                have q139 := q_eq hc139
                refine lv_aload_n hx hb dX10_law_107 rfl (lv_at hl 2 rfl) ?_
                refine m_geti (1000) 25 hx hb hts hown hE oc10 hM hJ.1 rfl (by decide) rfl tb_1202 dX10_law_108 ?_
                refine lv_aload_n hx hb dX10_law_111 rfl (lv_at hl 2 rfl) ?_
                refine m_geti (1000) 24 hx hb hts hown hE oc10 hM hJ.1 rfl (by decide) rfl tb_1201 dX10_law_112 ?_
                have z150 : I85 (1000) 24 = Ia48 (1000) 24 := ((hkI85.get (1000) 24 rfl)).trans (hkI77.get (1000) 24 rfl)
                rw [z150]
                refine lv_icmp_ge (tgt := 122) hx hb dX10_law_115 (by decide) (fun c151 => ?_) (fun c151 => ?_)
                · have hc151 := c151
                  have q151 := q_le hc151
                  refine lv_iconst (v := (0)) hx hb dX10_law_122 (by decide) ?_
                  refine lv_istore_n (lv' := [(2, .int (0)), (1, .int (v84)), (0, .ref (ad (1000)))]) hx hb dX10_law_123 rfl hl (by decide) rfl (fun ls hl => ?_)
                  refine lv_aload_n hx hb dX10_law_124 rfl (lv_at hl 2 rfl) ?_
                  refine lv_dup hx hb dX10_law_125 rfl ?_
                  refine m_geti (1000) 25 hx hb hts hown hE oc10 hM hJ.1 rfl (by decide) rfl tb_1202 dX10_law_126 ?_
                  refine lv_iconst (v := (1)) hx hb dX10_law_129 (by decide) ?_
                  refine lv_iadd hx hb dX10_law_130 ?_
                  refine lv_topi (fun v152 ev152 => ?_)
                  have tv152 := a_add ev152 (by omega) (by omega)
                  refine m_puti (1000) 25 hx hb hts hown hE oc10 hM hS hJ.1 rfl (by decide) rfl rfl rfl rfl tb_1202 dX10_law_131 (fun H locs I153 eI153 hM hS => ?_)
                  subst eI153
                  have hI := hI.put (n := 1000) (k := 25) (v := v152) (lo := 0) (hi := 100000) rfl (by first | omega | decide)
                  have hK := hK.put (n := 1000) (k := 25) (v := v152) (by first | rfl | simp [inR])
                  refine lv_goto (tgt := 48) hx hb dX10_law_134 (by decide) ?_
                  have pw154 : ((u2 I85 (1000) 25 (v152)) (1000) 24).toInt = (Ia48 (1000) 24 : Int32).toInt := congrArg Int32.toInt ((((show (u2 I85 (1000) 25 (v152)) (1000) 24 = I85 (1000) 24 from by simp [u2_v])).trans (hkI85.get (1000) 24 rfl)).trans (hkI77.get (1000) 24 rfl))
                  have pw155 : ((u2 I85 (1000) 25 (v152)) (1000) 25).toInt = (v152 : Int32).toInt := congrArg Int32.toInt ((show (u2 I85 (1000) 25 (v152)) (1000) 25 = v152 from by simp [u2_v]))
                  have pw156 : ((u2 I85 (1000) 25 (v152)) (1000) 26).toInt = (I77 (1000) 26 : Int32).toInt := congrArg Int32.toInt (((show (u2 I85 (1000) 25 (v152)) (1000) 26 = I85 (1000) 26 from by simp [u2_v])).trans (hkI85.get (1000) 26 rfl))
                  have pw157 : ((u2 I85 (1000) 25 (v152)) (1000) 27).toInt = (Ia48 (1000) 27 : Int32).toInt := congrArg Int32.toInt ((((show (u2 I85 (1000) 25 (v152)) (1000) 27 = I85 (1000) 27 from by simp [u2_v])).trans (hkI85.get (1000) 27 rfl)).trans (hkI77.get (1000) 27 rfl))
                  have pw158 : ((u2 I85 (1000) 25 (v152)) (1000) 29).toInt = (I77 (1000) 29 : Int32).toInt := congrArg Int32.toInt (((show (u2 I85 (1000) 25 (v152)) (1000) 29 = I85 (1000) 29 from by simp [u2_v])).trans (hkI85.get (1000) 29 rfl))
                  have pw159 : ((u2 I85 (1000) 25 (v152)) (1000) 31).toInt = (I77 (1000) 31 : Int32).toInt := congrArg Int32.toInt (((show (u2 I85 (1000) 25 (v152)) (1000) 31 = I85 (1000) 31 from by simp [u2_v])).trans (hkI85.get (1000) 31 rfl))
                  have pw160 : ((u2 I85 (1000) 25 (v152)) (1000) 32).toInt = (I77 (1000) 32 : Int32).toInt := congrArg Int32.toInt (((show (u2 I85 (1000) 25 (v152)) (1000) 32 = I85 (1000) 32 from by simp [u2_v])).trans (hkI85.get (1000) 32 rfl))
                  have pw161 : ((u2 I85 (1000) 25 (v152)) (1000) 28).toInt = (Ia48 (1000) 28 : Int32).toInt := congrArg Int32.toInt ((((show (u2 I85 (1000) 25 (v152)) (1000) 28 = I85 (1000) 28 from by simp [u2_v])).trans (hkI85.get (1000) 28 rfl)).trans (hkI77.get (1000) 28 rfl))
                  have hz1 : (v84).toNatClampNeg = (x1_48).toNatClampNeg + 1 := by have z1 := tn (i := v84) (by omega); have z2 := tn (i := x1_48) (by omega); omega
                  exact ih48 (0) (v84) (u2 I85 (1000) 25 (v152)) L86 _ _ ls hI hK (by first | omega | decide) (by first | omega | decide) (by omega) (fun hz => by omega) (fun hz => by omega) (fun r hr => (hLo r hr).of (((show (u2 I85 (1000) 25 (v152)) 1035 = I85 1035 from by funext zz; simp [u2_v])).trans (hkI85.getA 1035 rfl)) (((show (u2 I85 (1000) 25 (v152)) 1036 = I85 1036 from by funext zz; simp [u2_v])).trans (hkI85.getA 1036 rfl)) (((show (u2 I85 (1000) 25 (v152)) 1037 = I85 1037 from by funext zz; simp [u2_v])).trans (hkI85.getA 1037 rfl)) (((show (u2 I85 (1000) 25 (v152)) 1039 = I85 1039 from by funext zz; simp [u2_v])).trans (hkI85.getA 1039 rfl)) (((show (u2 I85 (1000) 25 (v152)) 1040 = I85 1040 from by funext zz; simp [u2_v])).trans (hkI85.getA 1040 rfl)) (((show (u2 I85 (1000) 25 (v152)) 1041 = I85 1041 from by funext zz; simp [u2_v])).trans (hkI85.getA 1041 rfl))) (fun hz => by rw [hz1]; exact (hLn (by omega)).of (((show (u2 I85 (1000) 25 (v152)) 1035 = I85 1035 from by funext zz; simp [u2_v])).trans (hkI85.getA 1035 rfl)) (((show (u2 I85 (1000) 25 (v152)) 1036 = I85 1036 from by funext zz; simp [u2_v])).trans (hkI85.getA 1036 rfl)) (((show (u2 I85 (1000) 25 (v152)) 1039 = I85 1039 from by funext zz; simp [u2_v])).trans (hkI85.getA 1039 rfl)) (((show (u2 I85 (1000) 25 (v152)) 1040 = I85 1040 from by funext zz; simp [u2_v])).trans (hkI85.getA 1040 rfl)) (((show (u2 I85 (1000) 25 (v152)) 1041 = I85 1041 from by funext zz; simp [u2_v])).trans (hkI85.getA 1041 rfl)) (by omega) (by omega)) (by omega) hM hS (lv_sub hl [0, 1, 2] rfl)
                · have hc151 := c151
                  have q151 := q_nle hc151
                  refine lv_iconst (v := (1)) hx hb dX10_law_118 (by decide) ?_
                  refine lv_goto (tgt := 123) hx hb dX10_law_119 (by decide) ?_
                  refine lv_istore_n (lv' := [(2, .int (1)), (1, .int (v84)), (0, .ref (ad (1000)))]) hx hb dX10_law_123 rfl hl (by decide) rfl (fun ls hl => ?_)
                  refine lv_aload_n hx hb dX10_law_124 rfl (lv_at hl 2 rfl) ?_
                  refine lv_dup hx hb dX10_law_125 rfl ?_
                  refine m_geti (1000) 25 hx hb hts hown hE oc10 hM hJ.1 rfl (by decide) rfl tb_1202 dX10_law_126 ?_
                  refine lv_iconst (v := (1)) hx hb dX10_law_129 (by decide) ?_
                  refine lv_iadd hx hb dX10_law_130 ?_
                  refine lv_topi (fun v162 ev162 => ?_)
                  have tv162 := a_add ev162 (by omega) (by omega)
                  refine m_puti (1000) 25 hx hb hts hown hE oc10 hM hS hJ.1 rfl (by decide) rfl rfl rfl rfl tb_1202 dX10_law_131 (fun H locs I163 eI163 hM hS => ?_)
                  subst eI163
                  have hI := hI.put (n := 1000) (k := 25) (v := v162) (lo := 0) (hi := 100000) rfl (by first | omega | decide)
                  have hK := hK.put (n := 1000) (k := 25) (v := v162) (by first | rfl | simp [inR])
                  refine lv_goto (tgt := 48) hx hb dX10_law_134 (by decide) ?_
                  have pw164 : ((u2 I85 (1000) 25 (v162)) (1000) 24).toInt = (Ia48 (1000) 24 : Int32).toInt := congrArg Int32.toInt ((((show (u2 I85 (1000) 25 (v162)) (1000) 24 = I85 (1000) 24 from by simp [u2_v])).trans (hkI85.get (1000) 24 rfl)).trans (hkI77.get (1000) 24 rfl))
                  have pw165 : ((u2 I85 (1000) 25 (v162)) (1000) 25).toInt = (v162 : Int32).toInt := congrArg Int32.toInt ((show (u2 I85 (1000) 25 (v162)) (1000) 25 = v162 from by simp [u2_v]))
                  have pw166 : ((u2 I85 (1000) 25 (v162)) (1000) 26).toInt = (I77 (1000) 26 : Int32).toInt := congrArg Int32.toInt (((show (u2 I85 (1000) 25 (v162)) (1000) 26 = I85 (1000) 26 from by simp [u2_v])).trans (hkI85.get (1000) 26 rfl))
                  have pw167 : ((u2 I85 (1000) 25 (v162)) (1000) 27).toInt = (Ia48 (1000) 27 : Int32).toInt := congrArg Int32.toInt ((((show (u2 I85 (1000) 25 (v162)) (1000) 27 = I85 (1000) 27 from by simp [u2_v])).trans (hkI85.get (1000) 27 rfl)).trans (hkI77.get (1000) 27 rfl))
                  have pw168 : ((u2 I85 (1000) 25 (v162)) (1000) 29).toInt = (I77 (1000) 29 : Int32).toInt := congrArg Int32.toInt (((show (u2 I85 (1000) 25 (v162)) (1000) 29 = I85 (1000) 29 from by simp [u2_v])).trans (hkI85.get (1000) 29 rfl))
                  have pw169 : ((u2 I85 (1000) 25 (v162)) (1000) 31).toInt = (I77 (1000) 31 : Int32).toInt := congrArg Int32.toInt (((show (u2 I85 (1000) 25 (v162)) (1000) 31 = I85 (1000) 31 from by simp [u2_v])).trans (hkI85.get (1000) 31 rfl))
                  have pw170 : ((u2 I85 (1000) 25 (v162)) (1000) 32).toInt = (I77 (1000) 32 : Int32).toInt := congrArg Int32.toInt (((show (u2 I85 (1000) 25 (v162)) (1000) 32 = I85 (1000) 32 from by simp [u2_v])).trans (hkI85.get (1000) 32 rfl))
                  have pw171 : ((u2 I85 (1000) 25 (v162)) (1000) 28).toInt = (Ia48 (1000) 28 : Int32).toInt := congrArg Int32.toInt ((((show (u2 I85 (1000) 25 (v162)) (1000) 28 = I85 (1000) 28 from by simp [u2_v])).trans (hkI85.get (1000) 28 rfl)).trans (hkI77.get (1000) 28 rfl))
                  have hz1 : (v84).toNatClampNeg = (x1_48).toNatClampNeg + 1 := by have z1 := tn (i := v84) (by omega); have z2 := tn (i := x1_48) (by omega); omega
                  exact ih48 (1) (v84) (u2 I85 (1000) 25 (v162)) L86 _ _ ls hI hK (by first | omega | decide) (by first | omega | decide) (by omega) (fun hz => by omega) (fun hz => by omega) (fun r hr => (hLo r hr).of (((show (u2 I85 (1000) 25 (v162)) 1035 = I85 1035 from by funext zz; simp [u2_v])).trans (hkI85.getA 1035 rfl)) (((show (u2 I85 (1000) 25 (v162)) 1036 = I85 1036 from by funext zz; simp [u2_v])).trans (hkI85.getA 1036 rfl)) (((show (u2 I85 (1000) 25 (v162)) 1037 = I85 1037 from by funext zz; simp [u2_v])).trans (hkI85.getA 1037 rfl)) (((show (u2 I85 (1000) 25 (v162)) 1039 = I85 1039 from by funext zz; simp [u2_v])).trans (hkI85.getA 1039 rfl)) (((show (u2 I85 (1000) 25 (v162)) 1040 = I85 1040 from by funext zz; simp [u2_v])).trans (hkI85.getA 1040 rfl)) (((show (u2 I85 (1000) 25 (v162)) 1041 = I85 1041 from by funext zz; simp [u2_v])).trans (hkI85.getA 1041 rfl))) (fun hz => by rw [hz1]; exact (hLn (by omega)).of (((show (u2 I85 (1000) 25 (v162)) 1035 = I85 1035 from by funext zz; simp [u2_v])).trans (hkI85.getA 1035 rfl)) (((show (u2 I85 (1000) 25 (v162)) 1036 = I85 1036 from by funext zz; simp [u2_v])).trans (hkI85.getA 1036 rfl)) (((show (u2 I85 (1000) 25 (v162)) 1039 = I85 1039 from by funext zz; simp [u2_v])).trans (hkI85.getA 1039 rfl)) (((show (u2 I85 (1000) 25 (v162)) 1040 = I85 1040 from by funext zz; simp [u2_v])).trans (hkI85.getA 1040 rfl)) (((show (u2 I85 (1000) 25 (v162)) 1041 = I85 1041 from by funext zz; simp [u2_v])).trans (hkI85.getA 1041 rfl)) (by omega) (by omega)) (by omega) hM hS (lv_sub hl [0, 1, 2] rfl)
            · have hc137 := c137
              have q137 := q_nle hc137
              refine lv_aload_n hx hb dX10_law_82 rfl (lv_at hl 2 rfl) ?_
              have pw172 : (I85 (1000) 28).toInt = (Ia48 (1000) 28 : Int32).toInt := congrArg Int32.toInt (((hkI85.get (1000) 28 rfl)).trans (hkI77.get (1000) 28 rfl))
              refine m_calli (m_runV (1000) (As := []) (rest := []) hx hb hml hown hts hE hM hS hA ce_X10_sign tb_1510 (V_X10_sign l D A ad ns I85 L86 G hJ hI) rfl rfl ⟨Nat.le_of_ble_eq_true rfl, Nat.le_of_ble_eq_true rfl⟩ hJ.1 rfl rfl (by decide) rfl hl.1 rfl (Nat.le_of_ble_eq_true rfl) dX10_law_83 ⟨Nat.le_of_ble_eq_true rfl, Nat.le_of_ble_eq_true rfl⟩) hS (fun r173 u H locs hw hM hS => ?_)
              obtain ⟨rfl, xr173⟩ := hw
              have hM : Mem D A ad ns I85 L86 G H := hM
              have g174 := hI.get 1000 24 (lo := 0) (hi := 400) rfl
              have g175 := hI.get 1000 25 (lo := 0) (hi := 100000) rfl
              refine lv_bipush (v := (59)) hx hb dX10_law_86 (by decide) ?_
              refine lv_icmp_eq (tgt := 100) hx hb dX10_law_88 (by decide) (fun c176 => ?_) (fun c176 => ?_)
              · have hc176 := c176
                have q176 := q_eq hc176
                have sg177 := xr173.2.2 (by omega)
                refine lv_aload_n hx hb dX10_law_100 rfl (lv_at hl 2 rfl) ?_
                refine m_geti (1000) 26 hx hb hts hown hE oc10 hM hJ.1 rfl (by decide) rfl tb_1203 dX10_law_101 ?_
                have z178 : I85 (1000) 26 = I77 (1000) 26 := (hkI85.get (1000) 26 rfl)
                rw [z178]
                refine lv_if_ne (tgt := 122) hx hb dX10_law_104 (by decide) (fun c179 => ?_) (fun c179 => ?_)
                · have hc179 := c179
                  have q179 := q_ne hc179
                  refine lv_iconst (v := (0)) hx hb dX10_law_122 (by decide) ?_
                  refine lv_istore_n (lv' := [(2, .int (0)), (1, .int (v84)), (0, .ref (ad (1000)))]) hx hb dX10_law_123 rfl hl (by decide) rfl (fun ls hl => ?_)
                  refine lv_aload_n hx hb dX10_law_124 rfl (lv_at hl 2 rfl) ?_
                  refine lv_dup hx hb dX10_law_125 rfl ?_
                  refine m_geti (1000) 25 hx hb hts hown hE oc10 hM hJ.1 rfl (by decide) rfl tb_1202 dX10_law_126 ?_
                  refine lv_iconst (v := (1)) hx hb dX10_law_129 (by decide) ?_
                  refine lv_iadd hx hb dX10_law_130 ?_
                  refine lv_topi (fun v180 ev180 => ?_)
                  have tv180 := a_add ev180 (by omega) (by omega)
                  refine m_puti (1000) 25 hx hb hts hown hE oc10 hM hS hJ.1 rfl (by decide) rfl rfl rfl rfl tb_1202 dX10_law_131 (fun H locs I181 eI181 hM hS => ?_)
                  subst eI181
                  have hI := hI.put (n := 1000) (k := 25) (v := v180) (lo := 0) (hi := 100000) rfl (by first | omega | decide)
                  have hK := hK.put (n := 1000) (k := 25) (v := v180) (by first | rfl | simp [inR])
                  refine lv_goto (tgt := 48) hx hb dX10_law_134 (by decide) ?_
                  have pw182 : ((u2 I85 (1000) 25 (v180)) (1000) 24).toInt = (Ia48 (1000) 24 : Int32).toInt := congrArg Int32.toInt ((((show (u2 I85 (1000) 25 (v180)) (1000) 24 = I85 (1000) 24 from by simp [u2_v])).trans (hkI85.get (1000) 24 rfl)).trans (hkI77.get (1000) 24 rfl))
                  have pw183 : ((u2 I85 (1000) 25 (v180)) (1000) 25).toInt = (v180 : Int32).toInt := congrArg Int32.toInt ((show (u2 I85 (1000) 25 (v180)) (1000) 25 = v180 from by simp [u2_v]))
                  have pw184 : ((u2 I85 (1000) 25 (v180)) (1000) 26).toInt = (I77 (1000) 26 : Int32).toInt := congrArg Int32.toInt (((show (u2 I85 (1000) 25 (v180)) (1000) 26 = I85 (1000) 26 from by simp [u2_v])).trans (hkI85.get (1000) 26 rfl))
                  have pw185 : ((u2 I85 (1000) 25 (v180)) (1000) 27).toInt = (Ia48 (1000) 27 : Int32).toInt := congrArg Int32.toInt ((((show (u2 I85 (1000) 25 (v180)) (1000) 27 = I85 (1000) 27 from by simp [u2_v])).trans (hkI85.get (1000) 27 rfl)).trans (hkI77.get (1000) 27 rfl))
                  have pw186 : ((u2 I85 (1000) 25 (v180)) (1000) 29).toInt = (I77 (1000) 29 : Int32).toInt := congrArg Int32.toInt (((show (u2 I85 (1000) 25 (v180)) (1000) 29 = I85 (1000) 29 from by simp [u2_v])).trans (hkI85.get (1000) 29 rfl))
                  have pw187 : ((u2 I85 (1000) 25 (v180)) (1000) 31).toInt = (I77 (1000) 31 : Int32).toInt := congrArg Int32.toInt (((show (u2 I85 (1000) 25 (v180)) (1000) 31 = I85 (1000) 31 from by simp [u2_v])).trans (hkI85.get (1000) 31 rfl))
                  have pw188 : ((u2 I85 (1000) 25 (v180)) (1000) 32).toInt = (I77 (1000) 32 : Int32).toInt := congrArg Int32.toInt (((show (u2 I85 (1000) 25 (v180)) (1000) 32 = I85 (1000) 32 from by simp [u2_v])).trans (hkI85.get (1000) 32 rfl))
                  have pw189 : ((u2 I85 (1000) 25 (v180)) (1000) 28).toInt = (Ia48 (1000) 28 : Int32).toInt := congrArg Int32.toInt ((((show (u2 I85 (1000) 25 (v180)) (1000) 28 = I85 (1000) 28 from by simp [u2_v])).trans (hkI85.get (1000) 28 rfl)).trans (hkI77.get (1000) 28 rfl))
                  have hz1 : (v84).toNatClampNeg = (x1_48).toNatClampNeg + 1 := by have z1 := tn (i := v84) (by omega); have z2 := tn (i := x1_48) (by omega); omega
                  exact ih48 (0) (v84) (u2 I85 (1000) 25 (v180)) L86 _ _ ls hI hK (by first | omega | decide) (by first | omega | decide) (by omega) (fun hz => by omega) (fun hz => by omega) (fun r hr => (hLo r hr).of (((show (u2 I85 (1000) 25 (v180)) 1035 = I85 1035 from by funext zz; simp [u2_v])).trans (hkI85.getA 1035 rfl)) (((show (u2 I85 (1000) 25 (v180)) 1036 = I85 1036 from by funext zz; simp [u2_v])).trans (hkI85.getA 1036 rfl)) (((show (u2 I85 (1000) 25 (v180)) 1037 = I85 1037 from by funext zz; simp [u2_v])).trans (hkI85.getA 1037 rfl)) (((show (u2 I85 (1000) 25 (v180)) 1039 = I85 1039 from by funext zz; simp [u2_v])).trans (hkI85.getA 1039 rfl)) (((show (u2 I85 (1000) 25 (v180)) 1040 = I85 1040 from by funext zz; simp [u2_v])).trans (hkI85.getA 1040 rfl)) (((show (u2 I85 (1000) 25 (v180)) 1041 = I85 1041 from by funext zz; simp [u2_v])).trans (hkI85.getA 1041 rfl))) (fun hz => by rw [hz1]; exact (hLn (by omega)).of (((show (u2 I85 (1000) 25 (v180)) 1035 = I85 1035 from by funext zz; simp [u2_v])).trans (hkI85.getA 1035 rfl)) (((show (u2 I85 (1000) 25 (v180)) 1036 = I85 1036 from by funext zz; simp [u2_v])).trans (hkI85.getA 1036 rfl)) (((show (u2 I85 (1000) 25 (v180)) 1039 = I85 1039 from by funext zz; simp [u2_v])).trans (hkI85.getA 1039 rfl)) (((show (u2 I85 (1000) 25 (v180)) 1040 = I85 1040 from by funext zz; simp [u2_v])).trans (hkI85.getA 1040 rfl)) (((show (u2 I85 (1000) 25 (v180)) 1041 = I85 1041 from by funext zz; simp [u2_v])).trans (hkI85.getA 1041 rfl)) (by omega) (by omega)) (by omega) hM hS (lv_sub hl [0, 1, 2] rfl)
                · have hc179 := c179
                  have q179 := q_eq hc179
                  refine lv_aload_n hx hb dX10_law_107 rfl (lv_at hl 2 rfl) ?_
                  refine m_geti (1000) 25 hx hb hts hown hE oc10 hM hJ.1 rfl (by decide) rfl tb_1202 dX10_law_108 ?_
                  refine lv_aload_n hx hb dX10_law_111 rfl (lv_at hl 2 rfl) ?_
                  refine m_geti (1000) 24 hx hb hts hown hE oc10 hM hJ.1 rfl (by decide) rfl tb_1201 dX10_law_112 ?_
                  have z190 : I85 (1000) 24 = Ia48 (1000) 24 := ((hkI85.get (1000) 24 rfl)).trans (hkI77.get (1000) 24 rfl)
                  rw [z190]
                  refine lv_icmp_ge (tgt := 122) hx hb dX10_law_115 (by decide) (fun c191 => ?_) (fun c191 => ?_)
                  · have hc191 := c191
                    have q191 := q_le hc191
                    refine lv_iconst (v := (0)) hx hb dX10_law_122 (by decide) ?_
                    refine lv_istore_n (lv' := [(2, .int (0)), (1, .int (v84)), (0, .ref (ad (1000)))]) hx hb dX10_law_123 rfl hl (by decide) rfl (fun ls hl => ?_)
                    refine lv_aload_n hx hb dX10_law_124 rfl (lv_at hl 2 rfl) ?_
                    refine lv_dup hx hb dX10_law_125 rfl ?_
                    refine m_geti (1000) 25 hx hb hts hown hE oc10 hM hJ.1 rfl (by decide) rfl tb_1202 dX10_law_126 ?_
                    refine lv_iconst (v := (1)) hx hb dX10_law_129 (by decide) ?_
                    refine lv_iadd hx hb dX10_law_130 ?_
                    refine lv_topi (fun v192 ev192 => ?_)
                    have tv192 := a_add ev192 (by omega) (by omega)
                    refine m_puti (1000) 25 hx hb hts hown hE oc10 hM hS hJ.1 rfl (by decide) rfl rfl rfl rfl tb_1202 dX10_law_131 (fun H locs I193 eI193 hM hS => ?_)
                    subst eI193
                    have hI := hI.put (n := 1000) (k := 25) (v := v192) (lo := 0) (hi := 100000) rfl (by first | omega | decide)
                    have hK := hK.put (n := 1000) (k := 25) (v := v192) (by first | rfl | simp [inR])
                    refine lv_goto (tgt := 48) hx hb dX10_law_134 (by decide) ?_
                    have pw194 : ((u2 I85 (1000) 25 (v192)) (1000) 24).toInt = (Ia48 (1000) 24 : Int32).toInt := congrArg Int32.toInt ((((show (u2 I85 (1000) 25 (v192)) (1000) 24 = I85 (1000) 24 from by simp [u2_v])).trans (hkI85.get (1000) 24 rfl)).trans (hkI77.get (1000) 24 rfl))
                    have pw195 : ((u2 I85 (1000) 25 (v192)) (1000) 25).toInt = (v192 : Int32).toInt := congrArg Int32.toInt ((show (u2 I85 (1000) 25 (v192)) (1000) 25 = v192 from by simp [u2_v]))
                    have pw196 : ((u2 I85 (1000) 25 (v192)) (1000) 26).toInt = (I77 (1000) 26 : Int32).toInt := congrArg Int32.toInt (((show (u2 I85 (1000) 25 (v192)) (1000) 26 = I85 (1000) 26 from by simp [u2_v])).trans (hkI85.get (1000) 26 rfl))
                    have pw197 : ((u2 I85 (1000) 25 (v192)) (1000) 27).toInt = (Ia48 (1000) 27 : Int32).toInt := congrArg Int32.toInt ((((show (u2 I85 (1000) 25 (v192)) (1000) 27 = I85 (1000) 27 from by simp [u2_v])).trans (hkI85.get (1000) 27 rfl)).trans (hkI77.get (1000) 27 rfl))
                    have pw198 : ((u2 I85 (1000) 25 (v192)) (1000) 29).toInt = (I77 (1000) 29 : Int32).toInt := congrArg Int32.toInt (((show (u2 I85 (1000) 25 (v192)) (1000) 29 = I85 (1000) 29 from by simp [u2_v])).trans (hkI85.get (1000) 29 rfl))
                    have pw199 : ((u2 I85 (1000) 25 (v192)) (1000) 31).toInt = (I77 (1000) 31 : Int32).toInt := congrArg Int32.toInt (((show (u2 I85 (1000) 25 (v192)) (1000) 31 = I85 (1000) 31 from by simp [u2_v])).trans (hkI85.get (1000) 31 rfl))
                    have pw200 : ((u2 I85 (1000) 25 (v192)) (1000) 32).toInt = (I77 (1000) 32 : Int32).toInt := congrArg Int32.toInt (((show (u2 I85 (1000) 25 (v192)) (1000) 32 = I85 (1000) 32 from by simp [u2_v])).trans (hkI85.get (1000) 32 rfl))
                    have pw201 : ((u2 I85 (1000) 25 (v192)) (1000) 28).toInt = (Ia48 (1000) 28 : Int32).toInt := congrArg Int32.toInt ((((show (u2 I85 (1000) 25 (v192)) (1000) 28 = I85 (1000) 28 from by simp [u2_v])).trans (hkI85.get (1000) 28 rfl)).trans (hkI77.get (1000) 28 rfl))
                    have hz1 : (v84).toNatClampNeg = (x1_48).toNatClampNeg + 1 := by have z1 := tn (i := v84) (by omega); have z2 := tn (i := x1_48) (by omega); omega
                    exact ih48 (0) (v84) (u2 I85 (1000) 25 (v192)) L86 _ _ ls hI hK (by first | omega | decide) (by first | omega | decide) (by omega) (fun hz => by omega) (fun hz => by omega) (fun r hr => (hLo r hr).of (((show (u2 I85 (1000) 25 (v192)) 1035 = I85 1035 from by funext zz; simp [u2_v])).trans (hkI85.getA 1035 rfl)) (((show (u2 I85 (1000) 25 (v192)) 1036 = I85 1036 from by funext zz; simp [u2_v])).trans (hkI85.getA 1036 rfl)) (((show (u2 I85 (1000) 25 (v192)) 1037 = I85 1037 from by funext zz; simp [u2_v])).trans (hkI85.getA 1037 rfl)) (((show (u2 I85 (1000) 25 (v192)) 1039 = I85 1039 from by funext zz; simp [u2_v])).trans (hkI85.getA 1039 rfl)) (((show (u2 I85 (1000) 25 (v192)) 1040 = I85 1040 from by funext zz; simp [u2_v])).trans (hkI85.getA 1040 rfl)) (((show (u2 I85 (1000) 25 (v192)) 1041 = I85 1041 from by funext zz; simp [u2_v])).trans (hkI85.getA 1041 rfl))) (fun hz => by rw [hz1]; exact (hLn (by omega)).of (((show (u2 I85 (1000) 25 (v192)) 1035 = I85 1035 from by funext zz; simp [u2_v])).trans (hkI85.getA 1035 rfl)) (((show (u2 I85 (1000) 25 (v192)) 1036 = I85 1036 from by funext zz; simp [u2_v])).trans (hkI85.getA 1036 rfl)) (((show (u2 I85 (1000) 25 (v192)) 1039 = I85 1039 from by funext zz; simp [u2_v])).trans (hkI85.getA 1039 rfl)) (((show (u2 I85 (1000) 25 (v192)) 1040 = I85 1040 from by funext zz; simp [u2_v])).trans (hkI85.getA 1040 rfl)) (((show (u2 I85 (1000) 25 (v192)) 1041 = I85 1041 from by funext zz; simp [u2_v])).trans (hkI85.getA 1041 rfl)) (by omega) (by omega)) (by omega) hM hS (lv_sub hl [0, 1, 2] rfl)
                  · have hc191 := c191
                    have q191 := q_nle hc191
                    refine lv_iconst (v := (1)) hx hb dX10_law_118 (by decide) ?_
                    refine lv_goto (tgt := 123) hx hb dX10_law_119 (by decide) ?_
                    refine lv_istore_n (lv' := [(2, .int (1)), (1, .int (v84)), (0, .ref (ad (1000)))]) hx hb dX10_law_123 rfl hl (by decide) rfl (fun ls hl => ?_)
                    refine lv_aload_n hx hb dX10_law_124 rfl (lv_at hl 2 rfl) ?_
                    refine lv_dup hx hb dX10_law_125 rfl ?_
                    refine m_geti (1000) 25 hx hb hts hown hE oc10 hM hJ.1 rfl (by decide) rfl tb_1202 dX10_law_126 ?_
                    refine lv_iconst (v := (1)) hx hb dX10_law_129 (by decide) ?_
                    refine lv_iadd hx hb dX10_law_130 ?_
                    refine lv_topi (fun v202 ev202 => ?_)
                    have tv202 := a_add ev202 (by omega) (by omega)
                    refine m_puti (1000) 25 hx hb hts hown hE oc10 hM hS hJ.1 rfl (by decide) rfl rfl rfl rfl tb_1202 dX10_law_131 (fun H locs I203 eI203 hM hS => ?_)
                    subst eI203
                    have hI := hI.put (n := 1000) (k := 25) (v := v202) (lo := 0) (hi := 100000) rfl (by first | omega | decide)
                    have hK := hK.put (n := 1000) (k := 25) (v := v202) (by first | rfl | simp [inR])
                    refine lv_goto (tgt := 48) hx hb dX10_law_134 (by decide) ?_
                    have pw204 : ((u2 I85 (1000) 25 (v202)) (1000) 24).toInt = (Ia48 (1000) 24 : Int32).toInt := congrArg Int32.toInt ((((show (u2 I85 (1000) 25 (v202)) (1000) 24 = I85 (1000) 24 from by simp [u2_v])).trans (hkI85.get (1000) 24 rfl)).trans (hkI77.get (1000) 24 rfl))
                    have pw205 : ((u2 I85 (1000) 25 (v202)) (1000) 25).toInt = (v202 : Int32).toInt := congrArg Int32.toInt ((show (u2 I85 (1000) 25 (v202)) (1000) 25 = v202 from by simp [u2_v]))
                    have pw206 : ((u2 I85 (1000) 25 (v202)) (1000) 26).toInt = (I77 (1000) 26 : Int32).toInt := congrArg Int32.toInt (((show (u2 I85 (1000) 25 (v202)) (1000) 26 = I85 (1000) 26 from by simp [u2_v])).trans (hkI85.get (1000) 26 rfl))
                    have pw207 : ((u2 I85 (1000) 25 (v202)) (1000) 27).toInt = (Ia48 (1000) 27 : Int32).toInt := congrArg Int32.toInt ((((show (u2 I85 (1000) 25 (v202)) (1000) 27 = I85 (1000) 27 from by simp [u2_v])).trans (hkI85.get (1000) 27 rfl)).trans (hkI77.get (1000) 27 rfl))
                    have pw208 : ((u2 I85 (1000) 25 (v202)) (1000) 29).toInt = (I77 (1000) 29 : Int32).toInt := congrArg Int32.toInt (((show (u2 I85 (1000) 25 (v202)) (1000) 29 = I85 (1000) 29 from by simp [u2_v])).trans (hkI85.get (1000) 29 rfl))
                    have pw209 : ((u2 I85 (1000) 25 (v202)) (1000) 31).toInt = (I77 (1000) 31 : Int32).toInt := congrArg Int32.toInt (((show (u2 I85 (1000) 25 (v202)) (1000) 31 = I85 (1000) 31 from by simp [u2_v])).trans (hkI85.get (1000) 31 rfl))
                    have pw210 : ((u2 I85 (1000) 25 (v202)) (1000) 32).toInt = (I77 (1000) 32 : Int32).toInt := congrArg Int32.toInt (((show (u2 I85 (1000) 25 (v202)) (1000) 32 = I85 (1000) 32 from by simp [u2_v])).trans (hkI85.get (1000) 32 rfl))
                    have pw211 : ((u2 I85 (1000) 25 (v202)) (1000) 28).toInt = (Ia48 (1000) 28 : Int32).toInt := congrArg Int32.toInt ((((show (u2 I85 (1000) 25 (v202)) (1000) 28 = I85 (1000) 28 from by simp [u2_v])).trans (hkI85.get (1000) 28 rfl)).trans (hkI77.get (1000) 28 rfl))
                    have hz1 : (v84).toNatClampNeg = (x1_48).toNatClampNeg + 1 := by have z1 := tn (i := v84) (by omega); have z2 := tn (i := x1_48) (by omega); omega
                    exact ih48 (1) (v84) (u2 I85 (1000) 25 (v202)) L86 _ _ ls hI hK (by first | omega | decide) (by first | omega | decide) (by omega) (fun hz => by omega) (fun hz => by omega) (fun r hr => (hLo r hr).of (((show (u2 I85 (1000) 25 (v202)) 1035 = I85 1035 from by funext zz; simp [u2_v])).trans (hkI85.getA 1035 rfl)) (((show (u2 I85 (1000) 25 (v202)) 1036 = I85 1036 from by funext zz; simp [u2_v])).trans (hkI85.getA 1036 rfl)) (((show (u2 I85 (1000) 25 (v202)) 1037 = I85 1037 from by funext zz; simp [u2_v])).trans (hkI85.getA 1037 rfl)) (((show (u2 I85 (1000) 25 (v202)) 1039 = I85 1039 from by funext zz; simp [u2_v])).trans (hkI85.getA 1039 rfl)) (((show (u2 I85 (1000) 25 (v202)) 1040 = I85 1040 from by funext zz; simp [u2_v])).trans (hkI85.getA 1040 rfl)) (((show (u2 I85 (1000) 25 (v202)) 1041 = I85 1041 from by funext zz; simp [u2_v])).trans (hkI85.getA 1041 rfl))) (fun hz => by rw [hz1]; exact (hLn (by omega)).of (((show (u2 I85 (1000) 25 (v202)) 1035 = I85 1035 from by funext zz; simp [u2_v])).trans (hkI85.getA 1035 rfl)) (((show (u2 I85 (1000) 25 (v202)) 1036 = I85 1036 from by funext zz; simp [u2_v])).trans (hkI85.getA 1036 rfl)) (((show (u2 I85 (1000) 25 (v202)) 1039 = I85 1039 from by funext zz; simp [u2_v])).trans (hkI85.getA 1039 rfl)) (((show (u2 I85 (1000) 25 (v202)) 1040 = I85 1040 from by funext zz; simp [u2_v])).trans (hkI85.getA 1040 rfl)) (((show (u2 I85 (1000) 25 (v202)) 1041 = I85 1041 from by funext zz; simp [u2_v])).trans (hkI85.getA 1041 rfl)) (by omega) (by omega)) (by omega) hM hS (lv_sub hl [0, 1, 2] rfl)
              · have hc176 := c176
                have q176 := q_ne hc176
                refine lv_aload_n hx hb dX10_law_91 rfl (lv_at hl 2 rfl) ?_
                refine lv_iconst (v := (0)) hx hb dX10_law_92 (by decide) ?_
                refine lv_aload_n hx hb dX10_law_93 rfl (lv_at hl 2 rfl) ?_
                refine m_geti (1000) 25 hx hb hts hown hE oc10 hM hJ.1 rfl (by decide) rfl tb_1202 dX10_law_94 ?_
                refine m_callv (m_runV (1000) (As := [.int (0), .int (I85 (1000) 25)]) (rest := []) hx hb hml hown hts hE hM hS hA ce_X10_fails tb_1521 (V_X10_fails l D A ad ns I85 L86 G (0) (I85 (1000) 25) hJ hI (by first | omega | decide) (by first | omega | decide)) rfl rfl ⟨Nat.le_of_ble_eq_true rfl, Nat.le_of_ble_eq_true rfl⟩ hJ.1 rfl rfl (by decide) rfl hl.1 rfl (Nat.le_of_ble_eq_true rfl) dX10_law_97 ⟨Nat.le_of_ble_eq_true rfl, Nat.le_of_ble_eq_true rfl⟩) hS (fun u H locs hw hM hS => ?_)
                obtain ⟨I212, L213, rfl, hI, hkI212, xI212⟩ := hw
                have hM : Mem D A ad ns I212 L213 G H := hM
                have hK := hK.trans hkI212 rfl
                have pw214 : (I212 (1000) 24).toInt = (Ia48 (1000) 24 : Int32).toInt := congrArg Int32.toInt ((((hkI212.get (1000) 24 rfl)).trans (hkI85.get (1000) 24 rfl)).trans (hkI77.get (1000) 24 rfl))
                have pw215 : (I212 (1000) 25).toInt = (I85 (1000) 25 : Int32).toInt := congrArg Int32.toInt ((hkI212.get (1000) 25 rfl))
                have pw216 : (I212 (1000) 27).toInt = (Ia48 (1000) 27 : Int32).toInt := congrArg Int32.toInt ((((hkI212.get (1000) 27 rfl)).trans (hkI85.get (1000) 27 rfl)).trans (hkI77.get (1000) 27 rfl))
                have pw217 : (I212 (1000) 29).toInt = (I77 (1000) 29 : Int32).toInt := congrArg Int32.toInt (((hkI212.get (1000) 29 rfl)).trans (hkI85.get (1000) 29 rfl))
                have pw218 : (I212 (1000) 31).toInt = (I77 (1000) 31 : Int32).toInt := congrArg Int32.toInt (((hkI212.get (1000) 31 rfl)).trans (hkI85.get (1000) 31 rfl))
                have pw219 : (I212 (1000) 32).toInt = (I77 (1000) 32 : Int32).toInt := congrArg Int32.toInt (((hkI212.get (1000) 32 rfl)).trans (hkI85.get (1000) 32 rfl))
                refine lv_aload_n hx hb dX10_law_100 rfl (lv_at hl 2 rfl) ?_
                refine m_geti (1000) 26 hx hb hts hown hE oc10 hM hJ.1 rfl (by decide) rfl tb_1203 dX10_law_101 ?_
                refine lv_if_ne (tgt := 122) hx hb dX10_law_104 (by decide) (fun c220 => ?_) (fun c220 => ?_)
                · have hc220 := c220
                  have q220 := q_ne hc220
                  refine lv_iconst (v := (0)) hx hb dX10_law_122 (by decide) ?_
                  refine lv_istore_n (lv' := [(2, .int (0)), (1, .int (v84)), (0, .ref (ad (1000)))]) hx hb dX10_law_123 rfl hl (by decide) rfl (fun ls hl => ?_)
                  refine lv_aload_n hx hb dX10_law_124 rfl (lv_at hl 2 rfl) ?_
                  refine lv_dup hx hb dX10_law_125 rfl ?_
                  refine m_geti (1000) 25 hx hb hts hown hE oc10 hM hJ.1 rfl (by decide) rfl tb_1202 dX10_law_126 ?_
                  have g221 := hI.get (1000) 25 (lo := 0) (hi := 100000) rfl
                  have z222 : I212 (1000) 25 = I85 (1000) 25 := (hkI212.get (1000) 25 rfl)
                  rw [z222] at g221 ⊢
                  refine lv_iconst (v := (1)) hx hb dX10_law_129 (by decide) ?_
                  refine lv_iadd hx hb dX10_law_130 ?_
                  refine lv_topi (fun v223 ev223 => ?_)
                  have tv223 := a_add ev223 (by omega) (by omega)
                  refine m_puti (1000) 25 hx hb hts hown hE oc10 hM hS hJ.1 rfl (by decide) rfl rfl rfl rfl tb_1202 dX10_law_131 (fun H locs I224 eI224 hM hS => ?_)
                  subst eI224
                  have hI := hI.put (n := 1000) (k := 25) (v := v223) (lo := 0) (hi := 100000) rfl (by first | omega | decide)
                  have hK := hK.put (n := 1000) (k := 25) (v := v223) (by first | rfl | simp [inR])
                  refine lv_goto (tgt := 48) hx hb dX10_law_134 (by decide) ?_
                  have pw225 : ((u2 I212 (1000) 25 (v223)) (1000) 24).toInt = (Ia48 (1000) 24 : Int32).toInt := congrArg Int32.toInt (((((show (u2 I212 (1000) 25 (v223)) (1000) 24 = I212 (1000) 24 from by simp [u2_v])).trans (hkI212.get (1000) 24 rfl)).trans (hkI85.get (1000) 24 rfl)).trans (hkI77.get (1000) 24 rfl))
                  have pw226 : ((u2 I212 (1000) 25 (v223)) (1000) 25).toInt = (v223 : Int32).toInt := congrArg Int32.toInt ((show (u2 I212 (1000) 25 (v223)) (1000) 25 = v223 from by simp [u2_v]))
                  have pw227 : ((u2 I212 (1000) 25 (v223)) (1000) 26).toInt = (I212 (1000) 26 : Int32).toInt := congrArg Int32.toInt ((show (u2 I212 (1000) 25 (v223)) (1000) 26 = I212 (1000) 26 from by simp [u2_v]))
                  have pw228 : ((u2 I212 (1000) 25 (v223)) (1000) 27).toInt = (Ia48 (1000) 27 : Int32).toInt := congrArg Int32.toInt (((((show (u2 I212 (1000) 25 (v223)) (1000) 27 = I212 (1000) 27 from by simp [u2_v])).trans (hkI212.get (1000) 27 rfl)).trans (hkI85.get (1000) 27 rfl)).trans (hkI77.get (1000) 27 rfl))
                  have pw229 : ((u2 I212 (1000) 25 (v223)) (1000) 29).toInt = (I77 (1000) 29 : Int32).toInt := congrArg Int32.toInt ((((show (u2 I212 (1000) 25 (v223)) (1000) 29 = I212 (1000) 29 from by simp [u2_v])).trans (hkI212.get (1000) 29 rfl)).trans (hkI85.get (1000) 29 rfl))
                  have pw230 : ((u2 I212 (1000) 25 (v223)) (1000) 31).toInt = (I77 (1000) 31 : Int32).toInt := congrArg Int32.toInt ((((show (u2 I212 (1000) 25 (v223)) (1000) 31 = I212 (1000) 31 from by simp [u2_v])).trans (hkI212.get (1000) 31 rfl)).trans (hkI85.get (1000) 31 rfl))
                  have pw231 : ((u2 I212 (1000) 25 (v223)) (1000) 32).toInt = (I77 (1000) 32 : Int32).toInt := congrArg Int32.toInt ((((show (u2 I212 (1000) 25 (v223)) (1000) 32 = I212 (1000) 32 from by simp [u2_v])).trans (hkI212.get (1000) 32 rfl)).trans (hkI85.get (1000) 32 rfl))
                  have pw232 : ((u2 I212 (1000) 25 (v223)) (1000) 28).toInt = (Ia48 (1000) 28 : Int32).toInt := congrArg Int32.toInt (((((show (u2 I212 (1000) 25 (v223)) (1000) 28 = I212 (1000) 28 from by simp [u2_v])).trans (hkI212.get (1000) 28 rfl)).trans (hkI85.get (1000) 28 rfl)).trans (hkI77.get (1000) 28 rfl))
                  have hz1 : (v84).toNatClampNeg = (x1_48).toNatClampNeg + 1 := by have z1 := tn (i := v84) (by omega); have z2 := tn (i := x1_48) (by omega); omega
                  exact ih48 (0) (v84) (u2 I212 (1000) 25 (v223)) L213 _ _ ls hI hK (by first | omega | decide) (by first | omega | decide) (by omega) (fun hz => by omega) (fun hz => by have w0 := xI212.1 (by omega); exact w0.elim) (fun r hr => (hLo r hr).of ((((show (u2 I212 (1000) 25 (v223)) 1035 = I212 1035 from by funext zz; simp [u2_v])).trans (hkI212.getA 1035 rfl)).trans (hkI85.getA 1035 rfl)) ((((show (u2 I212 (1000) 25 (v223)) 1036 = I212 1036 from by funext zz; simp [u2_v])).trans (hkI212.getA 1036 rfl)).trans (hkI85.getA 1036 rfl)) ((((show (u2 I212 (1000) 25 (v223)) 1037 = I212 1037 from by funext zz; simp [u2_v])).trans (hkI212.getA 1037 rfl)).trans (hkI85.getA 1037 rfl)) ((((show (u2 I212 (1000) 25 (v223)) 1039 = I212 1039 from by funext zz; simp [u2_v])).trans (hkI212.getA 1039 rfl)).trans (hkI85.getA 1039 rfl)) ((((show (u2 I212 (1000) 25 (v223)) 1040 = I212 1040 from by funext zz; simp [u2_v])).trans (hkI212.getA 1040 rfl)).trans (hkI85.getA 1040 rfl)) ((((show (u2 I212 (1000) 25 (v223)) 1041 = I212 1041 from by funext zz; simp [u2_v])).trans (hkI212.getA 1041 rfl)).trans (hkI85.getA 1041 rfl))) (fun hz => by rw [hz1]; have w0 := xI212.1 (by omega); exact w0.elim) (by omega) hM hS (lv_sub hl [0, 1, 2] rfl)
                · have hc220 := c220
                  have q220 := q_eq hc220
                  have w233 := xI212.1 (by omega)
                  exact w233.elim
    exact loop48 (_ + 1) (1) (0) (u2 (u2 (u2 (u2 (u2 (u2 I (1000) 27 (I (1000) 28)) (1000) 25 (0)) (1000) 26 (0)) (1000) 29 (0)) (1000) 30 (0)) (1000) 31 (0)) L _ _ ls hI hK (by first | omega | decide) (by first | omega | decide) (by omega) (fun hz => by omega) (fun hz => by omega) hfr (fun _ i hi => absurd hi (Nat.not_lt_zero i)) (Nat.lt_succ_self _) hM hS (lv_sub hl [0, 1, 2] rfl)
  · have hc2 := c2
    have q2 := q_eq hc2
    refine lv_iconst (v := (-1)) hx hb dX10_law_9 (by decide) ?_
    exact m_iret hx hb hr hlocks hM hS (Nat.le_of_ble_eq_true rfl) (Nat.le_of_ble_eq_true rfl) ⟨_, _, rfl, hI, hK, hLM⟩ dX10_law_10
