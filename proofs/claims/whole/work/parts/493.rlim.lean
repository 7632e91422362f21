-- needs: 450 451 456 460 462 464 466 469 475 490 491
theorem kS_inr {α : Type} {x : RS} {f : Nat → (Nat × Nat) ⊕ α} {a : α} (h : kS x f = .inr a) : ∃ q, x = .inr q ∧ f q = .inr a := by
  cases x with
  | inl e => cases h
  | inr q => exact ⟨q, rfl, h⟩
theorem sS_inr {β : Type} (z : β) {x : (Nat × Nat) ⊕ (β × Nat)} {p : Nat} (h : sS x = .inr p) : x = .inr (bsOf z x, p) := by
  cases x with
  | inl e => cases h
  | inr a => cases h; rfl
theorem nxv_in {l : List Int32} {x : RS} {b : Int32} (h : nxv l x = b) (h0 : ¬ b = 0) : ∃ p, x = .inr p ∧ p < l.length ∧ l.getD p 0 = b ∧ nxs l x = .inr (p + 1) := by
  cases x with
  | inl e => exact absurd h.symm h0
  | inr p =>
    by_cases hp : l.length ≤ p
    · have e2 : nxv l (.inr p) = 0 := by simp only [nxv, if_pos hp]
      exact absurd (h.symm.trans e2) h0
    · have e2 : nxv l (.inr p) = l.getD p 0 := by simp only [nxv, if_neg hp]
      exact ⟨p, rfl, by omega, e2.symm.trans h, by simp only [nxs, if_neg hp]⟩
theorem rl_n {l : List Int32} {p0 : Nat} (h : ¬ nxv l (sS (rb l 1 60 (.inr p0))) = 4) : rLim2 l p0 = kS (kS (sS (rb l 1 60 (.inr p0))) (rMark l 0)) (fun p4 => .inr ((bsOf [] (rb l 1 60 (.inr p0)), []), p4)) := by
  show kS2 (rb l 1 60 (.inr p0)) _ = _
  rcases hb : rb l 1 60 (.inr p0) with e | a
  · rfl
  · rw [hb] at h
    have h : ¬ nxv l (.inr a.2) = 4 := h
    have hB : ¬ Bt l a.2 = 4 := fun q => by
      by_cases hp : a.2 < l.length
      · apply h; simp only [nxv, if_neg (show ¬ l.length ≤ a.2 by omega)]; rw [← Bt_in hp]; exact q
      · rw [Bt_out (by omega)] at q; exact absurd q (by decide)
    show kS2 (rLock l a.2) (fun k pk => kS (rMark l 0 pk) (fun p4 => .inr ((a.1, k), p4))) = kS (rMark l 0 a.2) (fun p4 => .inr ((a.1, []), p4))
    rw [show rLock l a.2 = .inr ([], a.2) from if_neg hB]
    rfl
theorem rl_4 {l : List Int32} {p0 : Nat} (h : nxv l (sS (rb l 1 60 (.inr p0))) = 4) : rLim2 l p0 = kS (kS (sS (rb l 32 32 (nxs l (sS (rb l 1 60 (.inr p0)))))) (rMark l 0)) (fun p4 => .inr ((bsOf [] (rb l 1 60 (.inr p0)), bsOf [] (rb l 32 32 (nxs l (sS (rb l 1 60 (.inr p0)))))), p4)) := by
  obtain ⟨p, hp, hpl, hg, hn⟩ := nxv_in h (by decide)
  have ha := sS_inr ([] : List Int32) hp
  rw [hn]
  show kS2 (rb l 1 60 (.inr p0)) _ = _
  generalize hbs : bsOf [] (rb l 1 60 (.inr p0)) = bs at ha ⊢
  rw [ha]
  show kS2 (rLock l p) (fun k pk => kS (rMark l 0 pk) (fun p4 => .inr ((bs, k), p4))) = kS (kS (sS (rBytes l 32 32 (p + 1))) (rMark l 0)) (fun p4 => .inr ((bs, bsOf [] (rBytes l 32 32 (p + 1))), p4))
  rw [show rLock l p = rBytes l 32 32 (p + 1) from if_pos (by rw [Bt_in hpl]; exact hg)]
  rcases rBytes l 32 32 (p + 1) with e | a
  · rfl
  · rfl
/-- nothing but the reader's fields and the places of the limit n of the spare token has changed -/
def frL (V V' : Vt) (n : Nat) : Prop := (∀ i, i ≠ 8 → V' 599 i = V 599 i) ∧ (∀ i, i ≠ 80 + n → V' 600 i = V 600 i) ∧ (∀ i, i ≠ 80 + n → V' 602 i = V 602 i) ∧ (∀ i, (i < 60 * (80 + n) ∨ 60 * (80 + n) + 60 ≤ i) → V' 601 i = V 601 i) ∧ (∀ i, (i < 32 * (80 + n) ∨ 32 * (80 + n) + 32 ≤ i) → V' 603 i = V 603 i) ∧ (∀ k, (k < 599 ∨ 603 < k) → k ≠ 580 → V' k = V k) ∧ ∀ i, i ≠ 20 → i ≠ 40 → i ≠ 41 → V' 580 i = V 580 i
def rlP (V V' : Vt) (l : List Int32) (n p0 : Nat) : Prop := ∃ (y : RS) (L : Lm), rdS V' l y ∧ rLim2 l p0 = kS y (fun p4 => .inr (L, p4)) ∧ (∀ p4, y = .inr p4 → mLim V' (80 + n) L ∧ L.1.length ≤ 60 ∧ L.2.length ≤ 32) ∧ V' 599 8 = nI (n + 1) ∧ frL V V' n
