theorem zN_raw {n : Nat} (h : n < 1000) {L : Int32} (hL : L = nI (n + 1)) : (120 - (L - L / 64 * 64)) - (120 - (L - L / 64 * 64)) / 64 * 64 = nI (zN n) := by
  subst hL
  have h1 : nI (n + 1) - nI (n + 1) / 64 * 64 = nI ((n + 1) % 64) := pk_rem (d := 64) (by omega) (by omega) (by omega)
  rw [h1]
  have h2 : 120 - nI ((n + 1) % 64) = nI (120 - (n + 1) % 64) := pk_sub (a := 120) (by omega)
  rw [h2]
  exact pk_rem (d := 64) (by omega) (by omega) (by omega)
theorem zN_lt (n : Nat) : zN n < 64 := by unfold zN; omega
theorem nI_8 {n : Nat} {x : Int32} (e : x = 8 * nI n) : x = nI (8 * n) := by rw [e]; exact pk_mul 8 n
theorem pad_eq {l0 : List Int32} {x : Int32} (e : x = nI (8 * l0.length)) : (((l0 ++ [128]) ++ List.replicate (zN l0.length) 0) ++ w4 0) ++ w4 x = padL l0 := by subst e; rfl
theorem cpy8 {V V1 : Vt} (e : va_up V 5 (va_cpy (fun j => sqT.getD j 0) (V 5) 0 0 8) = V1) : (∀ i, i < 8 → V1 5 i = sqT.getD i 0) ∧ ∀ j, j ≠ 5 → V1 j = V j := by
  subst e
  refine ⟨fun i hi => ?_, fun j hj => by simp [va_up, hj]⟩
  simp only [va_up, if_true]
  rw [pk_cpy_in (by omega) (by omega)]
  simp
theorem flat_s (f : Nat → List Int32) (j : Nat) : (List.range (j + 1)).flatMap f = (List.range j).flatMap f ++ f j := by
  rw [List.range_succ, List.flatMap_append]; simp
theorem flat_len (g : Nat → Int32) (j : Nat) : ((List.range j).flatMap (fun i => w4 (g i))).length = 4 * j := by
  induction j with
  | zero => rfl
  | succ j ih => rw [flat_s, List.length_append, ih, w4_len]; omega
/-- a block has been mixed in -/
theorem block_step {Va Vb Vc : Vt} {l0 : List Int32} {n : Nat} (h7 : rowIs Va 7 (padL l0)) (hn : 64 * n + 64 ≤ (padL l0).length) (hst : ∀ i, i < 8 → Va 5 i = shaH (fL (padL l0)) n i) (hb : (∀ t, t < 64 → Vb 6 t = sched (be32 (Va 8) (64 * n)) 48 t) ∧ ∀ j, j ≠ 6 → Vb j = Va j) (hc : (∀ i, i < 8 → Vc 5 i = Vb 5 i + rnds (Vb 6) (Vb 5) 64 i) ∧ ∀ j, j ≠ 5 → Vc j = Vb j) : (∀ i, i < 8 → Vc 5 i = shaH (fL (padL l0)) (n + 1) i) ∧ ∀ j, j ≠ 5 → j ≠ 6 → Vc j = Va j := by
  refine ⟨fun i hi => ?_, fun j h5 h6 => (hc.2 j h5).trans (hb.2 j h6)⟩
  have h5 : Vb 5 = Va 5 := hb.2 5 (by decide)
  rw [hc.1 i hi, h5]
  show _ = shaB _ _ i
  unfold shaB
  rw [hst i hi, rnds_congr (s' := shaH (fL (padL l0)) n) hst 64 (w' := sched (be32 (fL (padL l0)) (64 * n)) 48) (fun t ht => ?_) i hi]
  rw [hb.1 t ht]
  refine sched_congr (fun u hu => ?_) 48 t (by omega)
  have hv : ∀ z, z < (padL l0).length → Va 8 z = fL (padL l0) z := fun z hz => h7.2 z hz
  unfold be32
  rw [hv _ (by omega), hv _ (by omega), hv _ (by omega), hv _ (by omega)]
/-- bytes by bytes -/
def xorL (a b : List Int32) : List Int32 := List.zipWith (fun x y => x ^^^ y) a b
theorem xorL_len {a b : List Int32} (h : a.length = b.length) : (xorL a b).length = a.length := by simp [xorL, h]
/-- j bytes of a are turned -/
def xorJ (a b : List Int32) (j : Nat) : List Int32 := xorL (a.take j) (b.take j) ++ a.drop j
theorem xorJ_len {a b : List Int32} (h : a.length = b.length) (j : Nat) : (xorJ a b j).length = a.length := by
  simp [xorJ, xorL, h]; omega
theorem xorJ_s {a b : List Int32} (h : a.length = b.length) {j : Nat} (hj : j < a.length) : (xorJ a b j).set j ((xorJ a b j).getD j 0 ^^^ b.getD j 0) = xorJ a b (j + 1) := by
  apply List.ext_getElem?
  intro i
  have hl := xorJ_len h j
  have hv : (xorJ a b j).getD j 0 = a.getD j 0 := by
    rw [List.getD_eq_getElem?_getD, List.getD_eq_getElem?_getD]
    simp only [xorJ, xorL]
    rw [List.getElem?_append_right (by simp; omega)]
    simp only [List.getElem?_drop, List.length_zipWith, List.length_take]
    congr 2
    omega
  rw [hv, List.getElem?_set, hl]
  by_cases e : j = i
  · subst e
    simp only [if_true, hj, xorJ, xorL]
    rw [List.getElem?_append_left (by simp; omega)]
    simp [List.getElem?_zipWith, List.getElem?_take, List.getD_eq_getElem?_getD, List.getElem?_eq_getElem hj, List.getElem?_eq_getElem (show j < b.length by omega)]
  · simp only [e, if_false, xorJ, xorL]
    by_cases hi : i < j
    · rw [List.getElem?_append_left (by simp; omega), List.getElem?_append_left (by simp; omega)]
      simp [List.getElem?_zipWith, List.getElem?_take, hi, show i < j + 1 by omega]
    · rw [List.getElem?_append_right (by simp; omega), List.getElem?_append_right (by simp; omega)]
      simp only [List.getElem?_drop, List.length_zipWith, List.length_take]
      congr 1
      omega
theorem xorJ_0 (a b : List Int32) : xorJ a b 0 = a := by simp [xorJ, xorL]
theorem xorJ_all {a b : List Int32} (h : a.length = b.length) : xorJ a b a.length = xorL a b := by
  simp [xorJ]
  rw [List.take_of_length_le (by omega)]
theorem rem64 {n : Nat} (h : n < 100000) {L : Int32} (hL : L = nI n) : L - L / 64 * 64 = nI (n % 64) := by
  subst hL; exact pk_rem (d := 64) (by omega) (by omega) (by omega)
theorem sub120 {n : Nat} (h : n ≤ 120) : 120 - nI n = nI (120 - n) := pk_sub (a := 120) h
theorem sha_def (l : List Int32) : (List.range 8).flatMap (fun i => w4 (shaH (fL (padL l)) ((padL l).length / 64) i)) = sha l := rfl
