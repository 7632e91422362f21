-- needs: 450 451 456 460
theorem inR_n {a b x : Nat} (ha : a < 2 ^ 31) (hb : b < 2 ^ 31) (hx : x < 2 ^ 31) : inR (nI x) (nI a) (nI b) = (decide (a ≤ x) && decide (x ≤ b)) := by
  unfold inR
  congr 1
  · exact decide_eq_decide.mpr ⟨fun h => Nat.not_lt.mp (fun q => h ((nI_ltI hx ha).mpr q)), fun h q => by have := (nI_ltI hx ha).mp q; omega⟩
  · exact decide_eq_decide.mpr ⟨fun h => Nat.not_lt.mp (fun q => h ((nI_ltI hb hx).mpr q)), fun h q => by have := (nI_ltI hb hx).mp q; omega⟩
theorem okW1_m {l : List Int32} (h : l.length ≤ 1200) : inR (nI l.length) 1 60 = okW1 l := inR_n (a := 1) (b := 60) (by omega) (by omega) (by omega)
/-- within(i, 0, size - 1) -/
theorem inR_has {l : List Int32} (h : l.length < 2 ^ 30) (i : Int32) : inR i 0 (nI l.length - 1) = has l i := by
  unfold inR has
  congr 1
  · exact decide_eq_decide.mpr ⟨fun h => Int32.not_lt.mp h, fun h => Int32.not_lt.mpr h⟩
  · refine decide_eq_decide.mpr ?_
    cases hl : l.length with
    | zero =>
      have : nI 0 - 1 = (-1 : Int32) := by decide
      rw [this]
      constructor
      · intro q; have := Int32.not_lt.mp q; show i < 0; grind
      · intro q; have q : i < 0 := q; grind
    | succ n =>
      rw [show nI (n + 1) - 1 = nI n from (nSub (b := 1) rfl rfl (by omega)).trans (congrArg nI (by omega))]
      have e : nI n + 1 = nI (n + 1) := nI_1 n
      have hp : nI n < nI (n + 1) := (nI_ltI (by omega) (by omega)).mpr (by omega)
      constructor
      · intro q; exact Int32.lt_of_le_of_lt (Int32.not_lt.mp q) hp
      · intro q r
        have h1 : i.toInt < (nI (n + 1)).toInt := Int32.lt_iff_toInt_lt.mp q
        have h2 : (nI n).toInt < i.toInt := Int32.lt_iff_toInt_lt.mp r
        rw [nI_toInt (by omega)] at h1 h2
        omega
theorem bAt_has {l : List Int32} {i : Int32} (h : has l i = true) : bAt l i = l.getD (rj i) 0 := by
  simp only [has, Bool.and_eq_true, decide_eq_true_eq] at h
  unfold bAt rj
  rw [if_pos h]
theorem bAt_hasn {l : List Int32} {i : Int32} (h : has l i = false) : bAt l i = -1 := by
  unfold bAt
  rw [if_neg (fun q => by simp [has, q.1, q.2] at h)]
/-- a register takes over 32 bytes -/
theorem repM.regC {V V1 V2 : Vt} {σ : St} {ca r : Nat} {l : List Int32} (h : repM V σ) (hr : r < 8) (hl : l.length = 32) (hok : okL l) (hs : seg V ca 0 l) (hp : cpx V1 V 593 (100 * r) 32 (V ca)) (e : up2 V1 594 r 32 = V2) : repM V2 (sReg σ r l) ∧ frC V V2 := by
  have hk : ∀ k, k ≠ 593 → k ≠ 594 → V2 k = V k := fun k a b => by rw [← e, up2_k _ _ b]; exact hp.2.2 k a
  refine ⟨h.reg hr (by rw [← e, up2_s, hl]; rfl) ((cpx_seg2 hp hl hs).keep (by rw [← e, up2_k _ _ (by decide)])) (by omega) hok (fun i a => by rw [← e, up2_o _ _ a, hp.2.2 594 (by decide)]) (fun i a => by rw [← e, up2_k _ _ (by decide)]; exact hp.2.1 i (by omega)) (fun k a => hk k (by omega) (by omega)) (fun i a => by rw [hk 580 (by decide) (by decide)]), fun j a => hk j (by omega) (by omega)⟩
theorem tFr.rf {V : Vt} {t : Nat} : tFr V V t := tFr.of (fun _ _ _ => rfl)
/-- the signature of a token takes over 32 bytes -/
theorem repM.sgn {V V1 : Vt} {σ : St} {ca t : Nat} {l : List Int32} {T : Tk} (h : repM V σ) (ht : t < 8) (hT : σ.2.1 t = some T) (hl : l.length = 32) (hok : okL l) (hs : seg V ca 0 l) (hp : cpx V1 V 604 (32 * t) 32 (V ca)) : repM V1 (sTok σ t (some (T.1, l, T.2.2))) ∧ frC V V1 := by
  have hk : ∀ k, k ≠ 604 → V1 k = V k := hp.2.2
  have hoT := h.1.2.1 t ht T hT
  have h0 := (h.2.2.2.1 t ht).s hT
  refine ⟨h.tok ht (o := some (T.1, l, T.2.2)) ⟨by rw [hk 596 (by decide)]; exact h0.1, by rw [hk 597 (by decide)]; exact h0.2.1, h0.2.2.1.keep (hk 598 (by decide)), by rw [hk 599 (by decide)]; exact h0.2.2.2.1, cpx_seg2 hp hl hs, fun j hj => ⟨by rw [hk 600 (by decide)]; exact (h0.2.2.2.2.2 j hj).1, (h0.2.2.2.2.2 j hj).2.1.keep (hk 601 (by decide)), by rw [hk 602 (by decide)]; exact (h0.2.2.2.2.2 j hj).2.2.1, (h0.2.2.2.2.2 j hj).2.2.2.keep (hk 603 (by decide))⟩⟩ (fun T2 h2 => by cases h2; exact ⟨hoT.1, ⟨hl, hok⟩, hoT.2.2⟩) (fun u hu hne => ?_) (fun k a => hk k (by omega)) (fun i a => by rw [hk 580 (by decide)]), fun j a => hk j (by omega)⟩
  exact ⟨by rw [hk 596 (by decide)], by rw [hk 597 (by decide)], by rw [hk 599 (by decide)], fun i _ _ => by rw [hk 598 (by decide)], fun i a b => hp.2.1 i (by omega), fun i _ _ => by rw [hk 600 (by decide)], fun i _ _ => by rw [hk 602 (by decide)], fun i _ _ => by rw [hk 601 (by decide)], fun i _ _ => by rw [hk 603 (by decide)]⟩
theorem repM.req {V V1 : Vt} {σ : St} {j : Nat} {x : Int32} (h : repM V σ) (hj : j < 8) (e : up2 V 605 j x = V1) : repM V1 (sReq σ j x) ∧ frC V V1 := by
  have hk : ∀ k, k ≠ 605 → V1 k = V k := fun k a => by rw [← e, up2_k _ _ a]
  obtain ⟨ho, h1, h2, h3, h4, h5, h6, h7⟩ := h
  refine ⟨⟨ho, h1.fr (hk 581 (by decide)) (hk 582 (by decide)) (hk 592 (by decide)), h2.fr (hk 593 (by decide)) (hk 594 (by decide)), h3.fr ho.2.1 (fun k a b => hk k (by omega)), h4.keep (by rw [hk 580 (by decide)]) (hk 595 (by decide)), fun i hi => ?_, h6.fr (fun i a b => by rw [hk 580 (by decide)]), by rw [hk 580 (by decide)]; exact h7⟩, fun q a => hk q (by omega)⟩
  show V1 605 i = va_up σ.2.2.2.1 j x i
  by_cases q : i = j
  · subst q; rw [← e, up2_s]; simp [va_up]
  · rw [← e, up2_o _ _ q]; simp only [va_up, q, if_false]; exact h5 i hi
theorem repM.drop {V V1 : Vt} {σ : St} {t : Nat} (h : repM V σ) (ht : t < 8) (e : up2 V 596 t 0 = V1) : repM V1 (sTok σ t none) ∧ frC V V1 := by
  have hk : ∀ k, k ≠ 596 → V1 k = V k := fun k a => by rw [← e, up2_k _ _ a]
  refine ⟨h.tok ht (o := none) (by show V1 596 t = 0; rw [← e, up2_s]) (fun T2 h2 => by cases h2) (fun u hu hne => ?_) (fun k a => hk k (by omega)) (fun i a => by rw [hk 580 (by decide)]), fun j a => hk j (by omega)⟩
  exact ⟨by rw [← e, up2_o _ _ hne], by rw [hk 597 (by decide)], by rw [hk 599 (by decide)], fun i _ _ => by rw [hk 598 (by decide)], fun i _ _ => by rw [hk 604 (by decide)], fun i _ _ => by rw [hk 600 (by decide)], fun i _ _ => by rw [hk 602 (by decide)], fun i _ _ => by rw [hk 601 (by decide)], fun i _ _ => by rw [hk 603 (by decide)]⟩
