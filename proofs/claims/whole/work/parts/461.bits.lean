-- needs: 450
theorem bv_lo (w : BitVec 64) (s : Nat) (hs : s ≤ 56) : ((w.sshiftRight s) &&& 255#64).setWidth 32 = (w >>> s).setWidth 32 &&& 255#32 := by
  apply BitVec.eq_of_getLsbD_eq
  intro i hi
  have e255 : (255#64).getLsbD i = (255#32).getLsbD i := by
    have h : ∀ k, k < 32 → (255#64).getLsbD k = (255#32).getLsbD k := by decide
    exact h i hi
  simp only [BitVec.getLsbD_setWidth, BitVec.getLsbD_and, BitVec.getLsbD_sshiftRight, BitVec.getLsbD_ushiftRight, e255]
  by_cases h8 : i < 8
  · simp [hi, show ¬ 64 ≤ i by omega, show s + i < 64 by omega]
  · have : (255#32).getLsbD i = false := by
      have h : ∀ k, k < 32 → ¬ k < 8 → (255#32).getLsbD k = false := by decide
      exact h i hi h8
    simp [this]
theorem bv_lo2 (w : BitVec 64) (s : Nat) (hs : s ≤ 56) : ((w.sshiftRight s) &&& 255#64).signExtend 32 = (w >>> s).signExtend 32 &&& 255#32 := by
  rw [BitVec.signExtend_eq_setWidth_of_le _ (by decide), BitVec.signExtend_eq_setWidth_of_le _ (by decide)]
  exact bv_lo w s hs
theorem lo8_m (w : Int64) {j : Nat} (hj : j < 8) : (w >>> ((8 * nI j).toInt64 &&& 63) &&& 255).toInt32 = lo8 w j := by
  apply Int32.toBitVec_inj.mp
  rcases (show j = 0 ∨ j = 1 ∨ j = 2 ∨ j = 3 ∨ j = 4 ∨ j = 5 ∨ j = 6 ∨ j = 7 by omega) with rfl | rfl | rfl | rfl | rfl | rfl | rfl | rfl
  · exact bv_lo2 w.toBitVec 0 (by decide)
  · exact bv_lo2 w.toBitVec 8 (by decide)
  · exact bv_lo2 w.toBitVec 16 (by decide)
  · exact bv_lo2 w.toBitVec 24 (by decide)
  · exact bv_lo2 w.toBitVec 32 (by decide)
  · exact bv_lo2 w.toBitVec 40 (by decide)
  · exact bv_lo2 w.toBitVec 48 (by decide)
  · exact bv_lo2 w.toBitVec 56 (by decide)
