-- needs: 450 452
theorem flat_gd (g : Nat → Int32) : ∀ n j, j < 4 * n → ((List.range n).flatMap (fun i => w4 (g i))).getD j 0 = (w4 (g (j / 4))).getD (j % 4) 0 := by
  intro n
  induction n with
  | zero => intro j hj; omega
  | succ n ih =>
    intro j hj
    rw [flat_s]
    have hl := flat_len g n
    by_cases h : j < 4 * n
    · rw [gd_app (by omega)]; exact ih j h
    · obtain ⟨q, rfl⟩ : ∃ q, j = 4 * n + q := ⟨j - 4 * n, by omega⟩
      have := gd_app2 (l := (List.range n).flatMap (fun i => w4 (g i))) (m := w4 (g n)) (i := q)
      rw [hl] at this
      rw [this, show (4 * n + q) / 4 = n by omega, show (4 * n + q) % 4 = q by omega]
theorem sha_gd (l0 : List Int32) {j : Nat} (hj : j < 32) {h : Nat → Int32} (hh : ∀ i, i < 8 → h i = shaH (fL (padL l0)) ((padL l0).length / 64) i) : b8 (h (j / 4)) (j % 4) = (sha l0).getD j 0 := by
  rw [← sha_def, flat_gd _ 8 j (by omega), b8_w4 _ _ (by omega), hh _ (by omega)]
theorem len_gd (x : Int32) {j : Nat} (h4 : 4 ≤ j) (h8 : j < 8) : (x.toUInt32 >>> ((8 * (7 - nI j)).toUInt32 &&& Int32.toUInt32 31)).toInt32 &&& 255 = (w4 0 ++ w4 x).getD j 0 := by
  obtain ⟨q, rfl⟩ : ∃ q, j = 4 + q := ⟨j - 4, by omega⟩
  have := gd_app2 (l := w4 0) (m := w4 x) (i := q)
  rw [w4_len] at this
  rw [this, ← b8_w4 x q (by omega)]
  unfold b8 ush
  rw [show (7 : Int32) - nI (4 + q) = 3 - nI q from (nSub (x := 7) (a := 7) (b := 4 + q) rfl rfl (by omega)).trans ((congrArg nI (by omega)).trans (nSub (x := 3) (a := 3) (b := q) rfl rfl (by omega)).symm)]
theorem len_gd0 (x : Int32) {j : Nat} (h4 : j < 4) : (0 : Int32) = (w4 0 ++ w4 x).getD j 0 := by
  rw [gd_app (by rw [w4_len]; exact h4), w4_0 j h4]
theorem repl_s (n : Nat) : List.replicate (n + 1) (0 : Int32) = List.replicate n 0 ++ [0] := List.replicate_succ'
