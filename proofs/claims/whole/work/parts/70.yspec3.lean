/-! ===== bits ===== -/
theorem b255 (i : Nat) (h : i < 32) : (255#32)[i] = decide (i < 8) := by
  rw [BitVec.getElem_eq_testBit_toNat]
  show (255 : Nat).testBit i = _
  clear h
  rcases Nat.lt_or_ge i 8 with q | q
  · rw [decide_eq_true q]
    rcases (show i = 0 ∨ i = 1 ∨ i = 2 ∨ i = 3 ∨ i = 4 ∨ i = 5 ∨ i = 6 ∨ i = 7 by omega) with rfl | rfl | rfl | rfl | rfl | rfl | rfl | rfl <;> decide
  · rw [decide_eq_false (by omega)]
    exact Nat.testBit_lt_two_pow (Nat.lt_of_lt_of_le (show 255 < 2 ^ 8 by decide) (Nat.pow_le_pow_right (by decide) q))
theorem bv_c8 (x : BitVec 32) : (x.setWidth 8).signExtend 32 = (x <<< 24).sshiftRight 24 := by
  ext i h
  rw [BitVec.getElem_signExtend, BitVec.getElem_sshiftRight]
  by_cases h8 : i < 8
  · simp [h8, show 24 + i < 32 by omega, show ¬ 24 + i < 24 by omega, BitVec.getLsbD_eq_getElem h]
  · simp [h8, show ¬ 24 + i < 32 by omega, BitVec.msb_eq_getLsbD_last]
theorem bv_c16 (x : BitVec 32) : (x.setWidth 16).signExtend 32 = (x <<< 16).sshiftRight 16 := by
  ext i h
  rw [BitVec.getElem_signExtend, BitVec.getElem_sshiftRight]
  by_cases h8 : i < 16
  · simp [h8, show 16 + i < 32 by omega, show ¬ 16 + i < 16 by omega, BitVec.getLsbD_eq_getElem h]
  · simp [h8, show ¬ 16 + i < 32 by omega, BitVec.msb_eq_getLsbD_last]
theorem bv_sh (x : BitVec 32) (k : Nat) (hk : k ≤ 24) : x.sshiftRight k &&& 255#32 = (x >>> k) &&& 255#32 := by
  ext i h
  rw [BitVec.getElem_and, BitVec.getElem_and, b255 i h]
  by_cases h8 : i < 8
  · rw [BitVec.getElem_sshiftRight]
    simp [h8, show k + i < 32 by omega]
  · simp [h8]
theorem cut8 (v : Int32) : v.toInt8.toInt32 = s_cut v 8 := by
  apply Int32.toBitVec_inj.mp
  show (v.toBitVec.signExtend 8).signExtend 32 = (v.toBitVec <<< 24).sshiftRight 24
  rw [BitVec.signExtend_eq_setWidth_of_le v.toBitVec (show 8 ≤ 32 by decide)]
  exact bv_c8 v.toBitVec
theorem cut16 (v : Int32) : v.toInt16.toInt32 = s_cut v 16 := by
  apply Int32.toBitVec_inj.mp
  show (v.toBitVec.signExtend 16).signExtend 32 = (v.toBitVec <<< 16).sshiftRight 16
  rw [BitVec.signExtend_eq_setWidth_of_le v.toBitVec (show 16 ≤ 32 by decide)]
  exact bv_c16 v.toBitVec
theorem cut32 (v : Int32) : v = s_cut v 32 := by
  apply Int32.toBitVec_inj.mp
  show v.toBitVec = (v.toBitVec <<< 0).sshiftRight 0
  simp
theorem sh_feed (x : Int32) {k : Nat} (hk : k < 4) : x >>> (8 * nI k &&& 31) &&& 255 = (x.toUInt32 >>> ((8 * nI k).toUInt32 &&& Int32.toUInt32 31)).toInt32 &&& 255 := by
  rcases (show k = 0 ∨ k = 1 ∨ k = 2 ∨ k = 3 by omega) with rfl | rfl | rfl | rfl
  · apply Int32.toBitVec_inj.mp; exact bv_sh x.toBitVec 0 (by decide)
  · apply Int32.toBitVec_inj.mp; exact bv_sh x.toBitVec 8 (by decide)
  · apply Int32.toBitVec_inj.mp; exact bv_sh x.toBitVec 16 (by decide)
  · apply Int32.toBitVec_inj.mp; exact bv_sh x.toBitVec 24 (by decide)
theorem and1 (x : Int32) : x &&& 1 = 0 ∨ x &&& 1 = 1 := by
  have h : (x &&& 1).toBitVec.toNat = x.toBitVec.toNat % 2 := by
    show (x.toBitVec &&& 1#32).toNat = _
    rw [BitVec.toNat_and]
    exact Nat.and_one_is_mod _
  rcases Nat.mod_two_eq_zero_or_one x.toBitVec.toNat with e | e
  · left; apply Int32.toBitVec_inj.mp; apply BitVec.eq_of_toNat_eq; rw [h, e]; rfl
  · right; apply Int32.toBitVec_inj.mp; apply BitVec.eq_of_toNat_eq; rw [h, e]; rfl
/-! ===== kinds under kinds, as the reference goes ===== -/
def m_ab (k : Int32) : Int32 := if k = 0 then -1 else if k = 3 then 2 else if k = 4 then 3 else if k = 6 then 1 else 0
def m_und (w : Int32) : Nat → Int32 → Bool
  | 0, _ => false
  | n + 1, k => if k < 0 then false else if k = w then true else m_und w n (m_ab k)
theorem und_all : ∀ a : Nat, a < 7 → ∀ c : Nat, c < 7 → m_und (nI c) 7 (nI a) = s_und (nI c) 7 (nI a) := by decide +kernel
theorem ab_all : ∀ a : Nat, a < 7 → m_ab (nI a) = -1 ∨ ∃ c : Nat, c < a ∧ m_ab (nI a) = nI c := by
  intro a h
  rcases (show a = 0 ∨ a = 1 ∨ a = 2 ∨ a = 3 ∨ a = 4 ∨ a = 5 ∨ a = 6 by omega) with rfl | rfl | rfl | rfl | rfl | rfl | rfl
  · exact Or.inl (by decide)
  · exact Or.inr ⟨0, by decide, by decide⟩
  · exact Or.inr ⟨0, by decide, by decide⟩
  · exact Or.inr ⟨2, by decide, by decide⟩
  · exact Or.inr ⟨3, by decide, by decide⟩
  · exact Or.inr ⟨0, by decide, by decide⟩
  · exact Or.inr ⟨1, by decide, by decide⟩
theorem und_neg {w : Int32} (n : Nat) : m_und w n (-1) = false := by
  cases n with
  | zero => rfl
  | succ n => exact if_pos (by decide)
