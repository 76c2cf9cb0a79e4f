theorem shv (a : BitVec 32) (k : Nat) (hk : k ≤ 24) : (a >>> k).setWidth 8 = (a.sshiftRight k).setWidth 8 := by
  apply BitVec.eq_of_getLsbD_eq
  intro i hi
  rw [BitVec.getLsbD_setWidth, BitVec.getLsbD_setWidth, BitVec.getLsbD_ushiftRight, BitVec.getLsbD_sshiftRight]
  have h1 : ¬ (32 ≤ i) := by omega
  have h2 : k + i < 32 := by omega
  simp [h1, h2]
theorem usr (a k : Int32) (n : Nat) (hn : n ≤ 24) (h1 : ((k.toUInt32 &&& Int32.toUInt32 31).toBitVec % 32).toNat = n) (h2 : ((k &&& 31).toBitVec.smod 32).toNat = n) : (a.toUInt32 >>> (k.toUInt32 &&& Int32.toUInt32 31)).toInt32.toInt8 = (a >>> (k &&& 31)).toInt8 := by
  apply Int8.toBitVec_inj.mp
  show ((a.toBitVec >>> ((k.toUInt32 &&& Int32.toUInt32 31).toBitVec % 32).toNat)).signExtend 8 = ((a.toBitVec.sshiftRight ((k &&& 31).toBitVec.smod 32).toNat)).signExtend 8
  rw [h1, h2, BitVec.signExtend_eq_setWidth_of_le _ (by decide), BitVec.signExtend_eq_setWidth_of_le _ (by decide)]
  exact shv _ _ hn
def B4 (a k : Int32) : Int32 := vp_nar .byte ((a >>> (k &&& 31)).toInt8.toInt32)
theorem B4_u {a k v w : Int32} (n : Nat) (hv : v = (a.toUInt32 >>> (k.toUInt32 &&& Int32.toUInt32 31)).toInt32) (hw : w = v.toInt8.toInt32) (hn : n ≤ 24) (h1 : ((k.toUInt32 &&& Int32.toUInt32 31).toBitVec % 32).toNat = n) (h2 : ((k &&& 31).toBitVec.smod 32).toNat = n) : vp_nar .byte w = B4 a k := by
  unfold B4
  rw [hw, hv, usr a k n hn h1 h2]
theorem B4_s {a k v w : Int32} (hv : v = a >>> (k &&& 31)) (hw : w = v.toInt8.toInt32) : vp_nar .byte w = B4 a k := by
  unfold B4
  rw [hw, hv]
def PUT4 (f g : Nat → Int32) (n : Nat) (a : Int32) : Prop := ∀ j, g j = if j = n then B4 a 24 else if j = n + 1 then B4 a 16 else if j = n + 2 then B4 a 8 else if j = n + 3 then B4 a 0 else f j
theorem perm4 {x b0 b1 b2 b3 : Int32} {j n k0 k1 k2 k3 : Nat} (h0 : k0 = n) (h1 : k1 = n + 1) (h2 : k2 = n + 2) (h3 : k3 = n + 3) : (if j = k3 then b3 else if j = k2 then b2 else if j = k1 then b1 else if j = k0 then b0 else x) = (if j = n then b0 else if j = n + 1 then b1 else if j = n + 2 then b2 else if j = n + 3 then b3 else x) := by
  subst h0 h1 h2 h3
  by_cases e0 : j = k0
  · rw [if_pos e0, if_neg (by omega), if_neg (by omega), if_neg (by omega), if_pos e0]
  rw [if_neg e0, if_neg e0]
  by_cases e1 : j = k0 + 1
  · rw [if_pos e1, if_neg (by omega), if_neg (by omega), if_pos e1]
  rw [if_neg e1, if_neg e1]
  by_cases e2 : j = k0 + 2
  · rw [if_pos e2, if_neg (by omega), if_pos e2]
  rw [if_neg e2, if_neg e2]
theorem PUT4.same {f g f2 g2 : Nat → Int32} {n : Nat} {a : Int32} (h : PUT4 f g n a) (h2 : PUT4 f2 g2 n a) (e : ∀ j, j < n → f j = f2 j) : ∀ j, j < n + 4 → g j = g2 j := by
  intro j hj
  rw [h j, h2 j]
  by_cases e0 : j = n
  · rw [if_pos e0, if_pos e0]
  rw [if_neg e0, if_neg e0]
  by_cases e1 : j = n + 1
  · rw [if_pos e1, if_pos e1]
  rw [if_neg e1, if_neg e1]
  by_cases e2 : j = n + 2
  · rw [if_pos e2, if_pos e2]
  rw [if_neg e2, if_neg e2]
  by_cases e3 : j = n + 3
  · rw [if_pos e3, if_pos e3]
  rw [if_neg e3, if_neg e3]
  exact e j (by omega)
def PUT20 (f g : Nat → Int32) (n : Nat) (a b c d e : Int32) : Prop := ∃ f1 f2 f3 f4, PUT4 f f1 n a ∧ PUT4 f1 f2 (n + 4) b ∧ PUT4 f2 f3 (n + 8) c ∧ PUT4 f3 f4 (n + 12) d ∧ PUT4 f4 g (n + 16) e
theorem PUT20.same {f g f2 g2 : Nat → Int32} {n : Nat} {a b c d e : Int32} (h : PUT20 f g n a b c d e) (h2 : PUT20 f2 g2 n a b c d e) (q : ∀ j, j < n → f j = f2 j) : ∀ j, j < n + 20 → g j = g2 j := by
  obtain ⟨f1, f2', f3, f4, a1, a2, a3, a4, a5⟩ := h
  obtain ⟨g1, g2', g3, g4, b1, b2, b3, b4, b5⟩ := h2
  exact a5.same b5 (a4.same b4 (a3.same b3 (a2.same b2 (a1.same b1 q))))
def FEEDX (n n2 : Int32) (f g : Nat → Int32) (r a b c d e : Int32) : Prop := (380 < n.toInt ∧ r.toInt = -1 ∧ n2 = n ∧ g = f) ∨ (n.toInt ≤ 380 ∧ n2.toInt = n.toInt + 20 ∧ r = n2 ∧ PUT20 f g n.toNatClampNeg a b c d e)
def ENDX (n n2 : Int32) (r a : Int32) : Prop := ((0 ≤ a.toInt ∧ a.toInt ≤ n.toInt) ∧ r = a ∧ n2 = a) ∨ (¬ (0 ≤ a.toInt ∧ a.toInt ≤ n.toInt) ∧ r.toInt = -1 ∧ n2 = n)
