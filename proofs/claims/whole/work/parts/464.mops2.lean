-- needs: 450 451 456 460 461 462
theorem lo8_n (w : Int64) {j : Nat} (hj : j < 8) : (w >>> ((nI (8 * j)).toInt64 &&& 63) &&& 255).toInt32 = lo8 w j := by
  rw [show nI (8 * j) = 8 * nI j from (pk_mul 8 j).symm]; exact lo8_m w hj
theorem seg.push {V V1 : Vt} {c b q : Nat} {l : List Int32} {x : Int32} (h : seg V c b l) (e : up2 V c q x = V1) (hq : q = b + l.length) : seg V1 c b (l ++ [x]) := by
  subst e; subst hq
  intro i hi
  by_cases k : i = l.length
  · subst k; rw [up2_s]; simp
  · simp at hi
    rw [up2_o _ _ (by omega), gd_app (by omega)]
    exact h i (by omega)
theorem gd_bset_ne {l : List Int32} {i j : Nat} {y : Int32} (h : i ≠ j) : (l.set i y).getD j 0 = l.getD j 0 := by
  rw [List.getD_eq_getElem?_getD, List.getD_eq_getElem?_getD, List.getElem?_set_ne h]
theorem gd_bset {l : List Int32} {i : Nat} {y : Int32} (h : i < l.length) : (l.set i y).getD i 0 = y := by
  rw [List.getD_eq_getElem?_getD, List.getElem?_set_self h]; rfl
theorem seg.set {V V1 : Vt} {c b i q : Nat} {l : List Int32} {y : Int32} (h : seg V c b l) (e : up2 V c q y = V1) (hq : q = b + i) (hi : i < l.length) : seg V1 c b (l.set i y) := by
  subst e; subst hq
  intro j hj
  rw [List.length_set] at hj
  by_cases k : j = i
  · subst k; rw [up2_s, gd_bset hi]
  · rw [up2_o _ _ (by omega), gd_bset_ne (Ne.symm k)]; exact h j hj
theorem repM.sgn1 {V V1 : Vt} {σ : St} {t i : Nat} {y : Int32} {T : Tk} (h : repM V σ) (ht : t < 8) (hT : σ.2.1 t = some T) (hi : i < 32) (hy : 0 ≤ y) (e : up2 V 604 (32 * t + i) y = V1) : repM V1 (sTok σ t (some (T.1, T.2.1.set i y, T.2.2))) ∧ frC V V1 := by
  have hk : ∀ k, k ≠ 604 → V1 k = V k := fun k a => by rw [← e, up2_k _ _ a]
  have hoT := h.1.2.1 t ht T hT
  have h0 := (h.2.2.2.1 t ht).s hT
  refine ⟨h.tok ht (o := some (T.1, T.2.1.set i y, T.2.2)) ⟨by rw [hk 596 (by decide)]; exact h0.1, by rw [hk 597 (by decide)]; exact h0.2.1, h0.2.2.1.keep (hk 598 (by decide)), by rw [hk 599 (by decide)]; exact h0.2.2.2.1, h0.2.2.2.2.1.set e rfl (by rw [hoT.2.1.1]; exact hi), fun j hj => ⟨by rw [hk 600 (by decide)]; exact (h0.2.2.2.2.2 j hj).1, (h0.2.2.2.2.2 j hj).2.1.keep (hk 601 (by decide)), by rw [hk 602 (by decide)]; exact (h0.2.2.2.2.2 j hj).2.2.1, (h0.2.2.2.2.2 j hj).2.2.2.keep (hk 603 (by decide))⟩⟩ (fun T2 h2 => by cases h2; exact ⟨hoT.1, ⟨by rw [List.length_set]; exact hoT.2.1.1, hoT.2.1.2.set hy⟩, hoT.2.2⟩) (fun u hu hne => ?_) (fun k a => hk k (by omega)) (fun i a => by rw [hk 580 (by decide)]), fun j a => hk j (by omega)⟩
  exact ⟨by rw [hk 596 (by decide)], by rw [hk 597 (by decide)], by rw [hk 599 (by decide)], fun i _ _ => by rw [hk 598 (by decide)], fun j a b => by rw [← e, up2_o _ _ (by omega)], fun i _ _ => by rw [hk 600 (by decide)], fun i _ _ => by rw [hk 602 (by decide)], fun i _ _ => by rw [hk 601 (by decide)], fun i _ _ => by rw [hk 603 (by decide)]⟩
theorem gd_lset_ne {l : List Lm} {i j : Nat} {y : Lm} (h : i ≠ j) : (l.set i y).getD j lz = l.getD j lz := by
  rw [List.getD_eq_getElem?_getD, List.getD_eq_getElem?_getD, List.getElem?_set_ne h]
theorem gd_lset {l : List Lm} {i : Nat} {y : Lm} (h : i < l.length) : (l.set i y).getD i lz = y := by
  rw [List.getD_eq_getElem?_getD, List.getElem?_set_self h]; rfl
theorem repM.txt1 {V V1 : Vt} {σ : St} {t j i : Nat} {y : Int32} {T : Tk} (h : repM V σ) (ht : t < 8) (hT : σ.2.1 t = some T) (hj : j < T.2.2.length) (hi : i < (T.2.2.getD j lz).1.length) (hy : 0 ≤ y) (e : up2 V 601 (60 * (10 * t + j) + i) y = V1) : repM V1 (sTok σ t (some (T.1, T.2.1, T.2.2.set j ((T.2.2.getD j lz).1.set i y, (T.2.2.getD j lz).2)))) ∧ frC V V1 := by
  have hk : ∀ k, k ≠ 601 → V1 k = V k := fun k a => by rw [← e, up2_k _ _ a]
  have hoT := h.1.2.1 t ht T hT
  have h0 := (h.2.2.2.1 t ht).s hT
  have hlj := hoT.2.2.2 j hj
  have hj10 : j < 10 := Nat.lt_of_lt_of_le hj hoT.2.2.1
  have hl60 := hlj.2.1
  have hok9 : okTk (T.1, T.2.1, T.2.2.set j ((T.2.2.getD j lz).1.set i y, (T.2.2.getD j lz).2)) := by
    refine ⟨hoT.1, hoT.2.1, by rw [List.length_set]; exact hoT.2.2.1, fun q hq => ?_⟩
    rw [List.length_set] at hq
    by_cases k : q = j
    · subst k
      rw [gd_lset hq]
      exact ⟨by rw [List.length_set]; exact hlj.1, by rw [List.length_set]; exact hlj.2.1, hlj.2.2.1, hlj.2.2.2.1.set hy, hlj.2.2.2.2⟩
    · rw [gd_lset_ne (Ne.symm k)]; exact hoT.2.2.2 q hq
  refine ⟨h.tok ht (o := some (T.1, T.2.1, T.2.2.set j ((T.2.2.getD j lz).1.set i y, (T.2.2.getD j lz).2))) ⟨by rw [hk 596 (by decide)]; exact h0.1, by rw [hk 597 (by decide)]; exact h0.2.1, h0.2.2.1.keep (hk 598 (by decide)), by rw [hk 599 (by decide), List.length_set]; exact h0.2.2.2.1, h0.2.2.2.2.1.keep (hk 604 (by decide)), fun q hq => ?_⟩ (fun T2 h2 => by cases h2; exact hok9) (fun u hu hne => ?_) (fun k a => hk k (by omega)) (fun i a => by rw [hk 580 (by decide)]), fun j a => hk j (by omega)⟩
  · rw [List.length_set] at hq
    have hm := h0.2.2.2.2.2 q hq
    have hoq := hoT.2.2.2 q hq
    have hl602 := hoq.2.1
    by_cases k : q = j
    · subst k
      rw [gd_lset hq]
      exact ⟨by rw [hk 600 (by decide), List.length_set]; exact hm.1, hm.2.1.set e rfl hi, by rw [hk 602 (by decide)]; exact hm.2.2.1, hm.2.2.2.keep (hk 603 (by decide))⟩
    · rw [gd_lset_ne (Ne.symm k)]
      exact ⟨by rw [hk 600 (by decide)]; exact hm.1, hm.2.1.fn (fun z a b => by rw [← e, up2_o _ _ (by omega)]), by rw [hk 602 (by decide)]; exact hm.2.2.1, hm.2.2.2.keep (hk 603 (by decide))⟩
  · exact ⟨by rw [hk 596 (by decide)], by rw [hk 597 (by decide)], by rw [hk 599 (by decide)], fun i _ _ => by rw [hk 598 (by decide)], fun i _ _ => by rw [hk 604 (by decide)], fun i _ _ => by rw [hk 600 (by decide)], fun i _ _ => by rw [hk 602 (by decide)], fun z a b => by rw [← e, up2_o _ _ (by omega)], fun i _ _ => by rw [hk 603 (by decide)]⟩
theorem rj_sub {w : Int32} {a : Nat} (h : w = nI (rj w)) (h1 : a ≤ rj w) (h2 : rj w < 2 ^ 31) {x : Int32} (hx : x = nI a) : w - x = nI (rj w - a) ∧ rj (w - x) = rj w - a := by
  have e := nSub h hx h1
  exact ⟨e, by rw [e]; exact nI_clampR (by omega)⟩
theorem b2i_dec {L : Lm} (h : b2i (decide (L.2 ≠ [])) = 0) : L.2 = [] := by
  by_cases q : L.2 = []
  · exact q
  · simp [b2i, q] at h
theorem b2i_decn {L : Lm} (h : ¬ b2i (decide (L.2 ≠ [])) = 0) : ¬ L.2 = [] := fun q => h (by simp [b2i, q])
