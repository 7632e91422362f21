-- needs: 450
/-! one round of the model's mix -/
theorem mix_rnd {Vr Vs V3 V4 : Vt} {k w x y : Int32} {s : Nat → Int32} (hs : ∀ i, i < 8 → Vr 585 i = s i) (h1 : ∀ i, 0 < i → i < 8 → Vs 585 i = Vr 585 (i - 1)) (e3 : up2 Vs 585 4 (Vs 585 4 + x) = V3) (e4 : up2 V3 585 0 (x + y) = V4) (hx : x = rX k w s) (hy : y = rY s) : ∀ i, i < 8 → V4 585 i = rnd k w s i := by
  subst e3; subst e4; subst hx; subst hy
  have o : ∀ i, i ≠ 0 → i ≠ 4 → i < 8 → up2 (up2 Vs 585 4 (Vs 585 4 + rX k w s)) 585 0 (rX k w s + rY s) 585 i = s (i - 1) := fun i h0 h4 h8 => by
    rw [up2_o _ _ h0, up2_o _ _ h4, h1 i (by omega) h8, hs _ (by omega)]
  intro i hi
  rcases (show i = 0 ∨ i = 1 ∨ i = 2 ∨ i = 3 ∨ i = 4 ∨ i = 5 ∨ i = 6 ∨ i = 7 by omega) with rfl | rfl | rfl | rfl | rfl | rfl | rfl | rfl
  · rw [up2_s]; rfl
  · exact o 1 (by decide) (by decide) (by decide)
  · exact o 2 (by decide) (by decide) (by decide)
  · exact o 3 (by decide) (by decide) (by decide)
  · rw [up2_o _ _ (by decide), up2_s, h1 4 (by decide) (by decide), hs 3 (by decide)]; rfl
  · exact o 5 (by decide) (by decide) (by decide)
  · exact o 6 (by decide) (by decide) (by decide)
  · exact o 7 (by decide) (by decide) (by decide)
/-- the bytes of the model's words are those of w4 -/
def b8 (x : Int32) (k : Nat) : Int32 := ush x (8 * (3 - nI k)) &&& 255
theorem ush24 (x : Int32) : ush x 24 &&& 255 = ush x 24 := by
  have h := pk_ushr x 24 24 (by decide)
  have hw : x.toBitVec.toNat < 2 ^ 32 := x.toBitVec.isLt
  have e : ush x 24 = nI (x.toBitVec.toNat / 2 ^ 24) := by
    apply Int32.toBitVec_inj.mp
    apply BitVec.eq_of_toNat_eq
    show (x.toUInt32 >>> ((24 : Int32).toUInt32 &&& Int32.toUInt32 31)).toInt32.toBitVec.toNat = _
    rw [h, pk_tn (by omega)]
  rw [e]
  have h2 := pk_and (nI (x.toBitVec.toNat / 2 ^ 24)) (m := 255) 8 (by decide)
  rw [h2, pk_tn (by omega)]
  congr 1
  omega
theorem ush0 (x : Int32) : ush x 0 = x := by
  unfold ush
  apply Int32.toBitVec_inj.mp
  simp
theorem b8_w4 (x : Int32) (k : Nat) (hk : k < 4) : b8 x k = (w4 x).getD k 0 := by
  rcases (show k = 0 ∨ k = 1 ∨ k = 2 ∨ k = 3 by omega) with rfl | rfl | rfl | rfl
  · show ush x 24 &&& 255 = ush x 24
    exact ush24 x
  · rfl
  · rfl
  · show ush x 0 &&& 255 = x &&& 255
    rw [ush0]
theorem w4_0 (k : Nat) (hk : k < 4) : (w4 0).getD k 0 = 0 := by
  rcases (show k = 0 ∨ k = 1 ∨ k = 2 ∨ k = 3 by omega) with rfl | rfl | rfl | rfl <;> decide
