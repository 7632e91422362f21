-- needs: 450 451 456 460 461 462 464
theorem take_eq_s {a b : List Int32} {j : Nat} (ha : j < a.length) (hb : j < b.length) : a.take (j + 1) = b.take (j + 1) ↔ a.take j = b.take j ∧ a.getD j 0 = b.getD j 0 := by
  rw [take_s ha, take_s hb]
  constructor
  · intro h
    have h2 := List.append_inj' h rfl
    exact ⟨h2.1, by simpa using h2.2⟩
  · rintro ⟨h1, h2⟩; rw [h1, h2]
theorem dec_s {a b : List Int32} {j : Nat} (ha : j < a.length) (hb : j < b.length) : b2i (decide (a.take (j + 1) = b.take (j + 1))) = b2i (decide (a.take j = b.take j) && decide (a.getD j 0 = b.getD j 0)) := by
  congr 1
  rw [← Bool.decide_and]
  exact decide_eq_decide.mpr (take_eq_s ha hb)
theorem dec_all {a b : List Int32} {n : Nat} (ha : a.length = n) (hb : b.length = n) : decide (a.take n = b.take n) = decide (a = b) := by
  rw [List.take_of_length_le (by omega), List.take_of_length_le (by omega)]
/-- nothing has changed but the cells of the seal and 32 places of the cell ca -/
def frG (V V' : Vt) (ca b : Nat) : Prop := (∀ i, (i < b ∨ b + 32 ≤ i) → V' ca i = V ca i) ∧ (∀ k, (k < 583 ∨ 591 < k) → k ≠ 580 → k ≠ ca → V' k = V k) ∧ ∀ i, i ≠ 7 → i ≠ 10 → i ≠ 12 → V' 580 i = V 580 i
def goOnL (s0 : List Int32) (L : Lm) : List Int32 := if L.2 = [] then hmac s0 L.1 else hmac s0 (hmac s0 L.2 ++ hmac s0 L.1)
theorem goOnL_len (s0 : List Int32) (L : Lm) : (goOnL s0 L).length = 32 := by unfold goOnL; split <;> exact hmac_len _ _
theorem goOnL_ok (s0 : List Int32) (L : Lm) : okL (goOnL s0 L) := by unfold goOnL; split <;> exact hmac_ok _ _
theorem mCon.S {V V' : Vt} {lo hi : Nat} (h : mCon V) (f : frS V V' lo hi) (h1 : 583 ≤ lo ∧ hi ≤ 591) : mCon V' := h.fr (f.1 581 (by omega) (by decide)) (f.1 582 (by omega) (by decide)) (f.1 592 (by omega) (by decide))
theorem frS.seg {V V' : Vt} {lo hi c b : Nat} {l : List Int32} (f : frS V V' lo hi) (h : seg V c b l) (h1 : c < lo ∨ hi < c) (h2 : c ≠ 580) : _root_.Jvm.Pilot.CLimitTokensLaw_law_r6545_f1c1ff.seg V' c b l := h.keep (f.1 c h1 h2)
theorem lz_app {l : List Lm} {L : Lm} {j : Nat} (h : j < l.length) : (l ++ [L]).getD j lz = l.getD j lz := by
  rw [List.getD_eq_getElem?_getD, List.getD_eq_getElem?_getD, List.getElem?_append_left h]
theorem lz_app2 {l : List Lm} {L : Lm} : (l ++ [L]).getD l.length lz = L := by
  rw [List.getD_eq_getElem?_getD, List.getElem?_append_right (Nat.le_refl _)]; simp
/-- a token has one limit more -/
theorem repM.newLim {V V' : Vt} {σ : St} {t : Nat} {T : Tk} {L : Lm} {s' : List Int32} (h : repM V σ) (ht : t < 8) (hT : σ.2.1 t = some T) (hc : T.2.2.length < 10) (hL : okLm L) (hs : s'.length = 32) (hso : okL s') (e0 : V' 599 t = nI (T.2.2.length + 1)) (e1 : mLim V' (10 * t + T.2.2.length) L) (e2 : seg V' 604 (32 * t) s')
    (f599 : ∀ i, i ≠ t → V' 599 i = V 599 i) (f600 : ∀ i, i ≠ 10 * t + T.2.2.length → V' 600 i = V 600 i) (f601 : ∀ i, (i < 60 * (10 * t + T.2.2.length) ∨ 60 * (10 * t + T.2.2.length) + 60 ≤ i) → V' 601 i = V 601 i) (f602 : ∀ i, i ≠ 10 * t + T.2.2.length → V' 602 i = V 602 i) (f603 : ∀ i, (i < 32 * (10 * t + T.2.2.length) ∨ 32 * (10 * t + T.2.2.length) + 32 ≤ i) → V' 603 i = V 603 i) (f604 : ∀ i, (i < 32 * t ∨ 32 * t + 32 ≤ i) → V' 604 i = V 604 i)
    (fk : ∀ k, (k = 581 ∨ k = 582 ∨ (592 ≤ k ∧ k ≤ 598) ∨ k = 605) → V' k = V k) (ff : ∀ i, (i = 19 ∨ i = 20 ∨ (36 ≤ i ∧ i ≤ 39)) → V' 580 i = V 580 i) : repM V' (sTok σ t (some (T.1, s', T.2.2 ++ [L]))) := by
  have hoT := h.1.2.1 t ht T hT
  have h0 := (h.2.2.2.1 t ht).s hT
  have hok : okTk (T.1, s', T.2.2 ++ [L]) := by
    refine ⟨hoT.1, ⟨hs, hso⟩, by simp; omega, fun q hq => ?_⟩
    by_cases k : q = T.2.2.length
    · subst k; rw [lz_app2]; exact hL
    · simp at hq
      rw [lz_app (by omega)]; exact hoT.2.2.2 q (by omega)
  refine h.tok ht (o := some (T.1, s', T.2.2 ++ [L])) ⟨by rw [fk 596 (by omega)]; exact h0.1, by rw [fk 597 (by omega)]; exact h0.2.1, h0.2.2.1.keep (fk 598 (by omega)), by rw [e0]; simp, e2, fun q hq => ?_⟩ (fun T2 h2 => by cases h2; exact hok) (fun u hu hne => ?_) (fun k a => fk k (by omega)) ff
  · by_cases k : q = T.2.2.length
    · subst k; rw [lz_app2]; exact e1
    · simp at hq
      have hq2 : q < T.2.2.length := by omega
      rw [lz_app hq2]
      exact (h0.2.2.2.2.2 q hq2).fn (hoT.2.2.2 q hq2).2.1 (hoT.2.2.2 q hq2).l2 (f600 _ (by omega)) (fun i a b => f601 i (by omega)) (f602 _ (by omega)) (fun i a b => f603 i (by omega))
  · exact ⟨by rw [fk 596 (by omega)], by rw [fk 597 (by omega)], f599 u hne, fun i _ _ => by rw [fk 598 (by omega)], fun i a b => f604 i (by omega), fun i a b => f600 i (by omega), fun i a b => f602 i (by omega), fun i a b => f601 i (by omega), fun i a b => f603 i (by omega)⟩
/-- a new token -/
theorem repM.newTok {V V' : Vt} {σ : St} {t : Nat} {nm s' : List Int32} (h : repM V σ) (ht : t < 8) (hn1 : 1 ≤ nm.length) (hn2 : nm.length ≤ 60) (hn3 : okL nm) (hs : s'.length = 32) (hso : okL s') (e6 : V' 596 t = 1) (e7 : V' 597 t = nI nm.length) (e8 : seg V' 598 (60 * t) nm) (e9 : V' 599 t = 0) (e2 : seg V' 604 (32 * t) s')
    (f596 : ∀ i, i ≠ t → V' 596 i = V 596 i) (f597 : ∀ i, i ≠ t → V' 597 i = V 597 i) (f599 : ∀ i, i ≠ t → V' 599 i = V 599 i) (f598 : ∀ i, (i < 60 * t ∨ 60 * t + 60 ≤ i) → V' 598 i = V 598 i) (f604 : ∀ i, (i < 32 * t ∨ 32 * t + 32 ≤ i) → V' 604 i = V 604 i)
    (fk : ∀ k, (k = 581 ∨ k = 582 ∨ (592 ≤ k ∧ k ≤ 595) ∨ (600 ≤ k ∧ k ≤ 603) ∨ k = 605) → V' k = V k) (ff : ∀ i, (i = 19 ∨ i = 20 ∨ (36 ≤ i ∧ i ≤ 39)) → V' 580 i = V 580 i) : repM V' (sTok σ t (some (nm, s', []))) := by
  refine h.tok ht (o := some (nm, s', [])) ⟨e6, e7, e8, e9, e2, fun q hq => by simp at hq⟩ (fun T2 h2 => by cases h2; exact ⟨⟨hn1, hn2, hn3⟩, ⟨hs, hso⟩, by simp, fun q hq => by simp at hq⟩) (fun u hu hne => ?_) (fun k a => fk k (by omega)) ff
  exact ⟨f596 u hne, f597 u hne, f599 u hne, fun i a b => f598 i (by omega), fun i a b => f604 i (by omega), fun i a b => by rw [fk 600 (by omega)], fun i a b => by rw [fk 602 (by omega)], fun i a b => by rw [fk 601 (by omega)], fun i a b => by rw [fk 603 (by omega)]⟩
