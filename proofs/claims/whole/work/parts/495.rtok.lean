-- needs: 450 451 456 460 462 464 466 469 475 490 491 493
/-- nothing but the reader's fields and the spare token has changed -/
def frQ (V V' : Vt) : Prop := (∀ u, u < 8 → tFr V V' u) ∧ (∀ k, (k < 597 ∨ 604 < k) → k ≠ 580 → V' k = V k) ∧ ∀ i, i ≠ 20 → i ≠ 40 → i ≠ 41 → V' 580 i = V 580 i
theorem tFr.trans {V V' V'' : Vt} {u : Nat} (h : tFr V V' u) (g : tFr V' V'' u) : tFr V V'' u := by
  obtain ⟨h0, h1, h2, h3, h4, h5, h6, h7, h8⟩ := h
  obtain ⟨g0, g1, g2, g3, g4, g5, g6, g7, g8⟩ := g
  exact ⟨g0.trans h0, g1.trans h1, g2.trans h2, fun i a b => (g3 i a b).trans (h3 i a b), fun i a b => (g4 i a b).trans (h4 i a b), fun i a b => (g5 i a b).trans (h5 i a b), fun i a b => (g6 i a b).trans (h6 i a b), fun i a b => (g7 i a b).trans (h7 i a b), fun i a b => (g8 i a b).trans (h8 i a b)⟩
theorem frQ.trans {V V' V'' : Vt} (h : frQ V V') (g : frQ V' V'') : frQ V V'' := ⟨fun u hu => (h.1 u hu).trans (g.1 u hu), fun k a b => (g.2.1 k a b).trans (h.2.1 k a b), fun i a b c => (g.2.2 i a b c).trans (h.2.2 i a b c)⟩
theorem frQ.rf {V : Vt} : frQ V V := ⟨fun _ _ => tFr.rf, fun _ _ _ => rfl, fun _ _ _ _ => rfl⟩
theorem frN.R {V V' : Vt} (h : frN V V') : frQ V V' := ⟨fun u _ => tFr.of (fun k a b => h.1 k (by omega)), fun k _ b => h.1 k b, h.2⟩
theorem frRw.N {V V' : Vt} (h : frRw V V' 598 480 60) : frQ V V' := ⟨fun u hu => ⟨by rw [h.2.1 596 (by decide) (by decide)], by rw [h.2.1 597 (by decide) (by decide)], by rw [h.2.1 599 (by decide) (by decide)], fun i a b => h.1 i (by omega), fun i a b => by rw [h.2.1 604 (by decide) (by decide)], fun i a b => by rw [h.2.1 600 (by decide) (by decide)], fun i a b => by rw [h.2.1 602 (by decide) (by decide)], fun i a b => by rw [h.2.1 601 (by decide) (by decide)], fun i a b => by rw [h.2.1 603 (by decide) (by decide)]⟩, fun k a b => h.2.1 k (by omega) b, h.2.2⟩
theorem frRw.S {V V' : Vt} (h : frRw V V' 604 256 32) : frQ V V' := ⟨fun u hu => ⟨by rw [h.2.1 596 (by decide) (by decide)], by rw [h.2.1 597 (by decide) (by decide)], by rw [h.2.1 599 (by decide) (by decide)], fun i a b => by rw [h.2.1 598 (by decide) (by decide)], fun i a b => h.1 i (by omega), fun i a b => by rw [h.2.1 600 (by decide) (by decide)], fun i a b => by rw [h.2.1 602 (by decide) (by decide)], fun i a b => by rw [h.2.1 601 (by decide) (by decide)], fun i a b => by rw [h.2.1 603 (by decide) (by decide)]⟩, fun k a b => h.2.1 k (by omega) b, h.2.2⟩
theorem frL.R {V V' : Vt} {n : Nat} (h : frL V V' n) (hn : n < 10) : frQ V V' := by
  obtain ⟨h1, h2, h3, h4, h5, h6, h7⟩ := h
  exact ⟨fun u hu => ⟨by rw [h6 596 (by omega) (by decide)], by rw [h6 597 (by omega) (by decide)], h1 u (by omega), fun i a b => by rw [h6 598 (by omega) (by decide)], fun i a b => by rw [h6 604 (by omega) (by decide)], fun i a b => h2 i (by omega), fun i a b => h3 i (by omega), fun i a b => h4 i (by omega), fun i a b => h5 i (by omega)⟩, fun k a b => h6 k (by omega) b, h7⟩
theorem frQ.up {V V1 : Vt} {k : Nat} {x : Int32} (e : up2 V k 8 x = V1) (hk : k = 597 ∨ k = 599) : frQ V V1 := by
  have h0 : ∀ j, j ≠ k → V1 j = V j := fun j a => by rw [← e, up2_k _ _ a]
  have h1 : ∀ i, i ≠ 8 → V1 k i = V k i := fun i a => by rw [← e, up2_o _ _ a]
  refine ⟨fun u hu => ⟨by rw [h0 596 (by omega)], ?_, ?_, fun i a b => by rw [h0 598 (by omega)], fun i a b => by rw [h0 604 (by omega)], fun i a b => by rw [h0 600 (by omega)], fun i a b => by rw [h0 602 (by omega)], fun i a b => by rw [h0 601 (by omega)], fun i a b => by rw [h0 603 (by omega)]⟩, fun j a b => h0 j (by omega), fun i a b c => by rw [h0 580 (by omega)]⟩
  · rcases hk with q | q
    · rw [← q]; exact h1 u (by omega)
    · rw [h0 597 (by omega)]
  · rcases hk with q | q
    · rw [h0 599 (by omega)]
    · rw [← q]; exact h1 u (by omega)
theorem frQ.C {V V' : Vt} (h : frQ V V') : frC V V' := fun j a => h.2.1 j (by omega) (by omega)
theorem repM.plc {V V' : Vt} {σ : St} {q : Int32} (h : repM V σ) (f : frQ V V') (e : V' 580 20 = q) : repM V' (sPlc σ q) := by
  obtain ⟨ho, h1, h2, h3, h4, h5, h6, h7⟩ := h
  exact ⟨ho, h1.fr (f.2.1 581 (by omega) (by decide)) (f.2.1 582 (by omega) (by decide)) (f.2.1 592 (by omega) (by decide)), h2.fr (f.2.1 593 (by omega) (by decide)) (f.2.1 594 (by omega) (by decide)), fun t ht => (h3 t ht).fn (ho.2.1 t ht) (f.1 t ht), h4.keep (f.2.2 19 (by decide) (by decide) (by decide)) (f.2.1 595 (by omega) (by decide)), h5.fr (f.2.1 605 (by omega) (by decide)), h6.fr (fun i a b => f.2.2 i (by omega) (by omega) (by omega)), e⟩
theorem frQ.bf {V V' : Vt} {l : List Int32} (h : frQ V V') (hu : buf V 19 595 l) : buf V' 19 595 l := hu.keep (h.2.2 19 (by decide) (by decide) (by decide)) (h.2.1 595 (by omega) (by decide))
section T5
variable {l nm : List Int32} {n p : Nat} {acc : List Lm}
theorem t5_n (h : ¬ nxv l (.inr p) = 2) : t5 l nm n acc p = kS (rMark l 0 p) (t6 l nm acc) := by
  have hB : ¬ Bt l p = 2 := fun q => by
    by_cases hp : p < l.length
    · apply h; simp only [nxv, if_neg (show ¬ l.length ≤ p by omega)]; rw [← Bt_in hp]; exact q
    · rw [Bt_out (by omega)] at q; exact absurd q (by decide)
  have e : rLims l n p acc = .inr (acc, p) := by
    cases n with
    | zero => simp only [rLims]; rw [if_neg hB]
    | succ n => simp only [rLims]; rw [if_neg hB]
  unfold t5
  rw [e]; rfl
theorem t5_4 (hp : p < l.length) (h : l.getD p 0 = 2) : t5 l nm 0 acc p = .inl (4, p) := by
  unfold t5
  rw [show rLims l 0 p acc = .inl (4, p) from by simp only [rLims]; rw [if_pos (by rw [Bt_in hp]; exact h)]]
  rfl
theorem t5_s {y : RS} {L : Lm} (hp : p < l.length) (h : l.getD p 0 = 2) (hL : rLim2 l (p + 1) = kS y (fun p4 => .inr (L, p4))) : t5 l nm (n + 1) acc p = kS y (t5 l nm n (acc ++ [L])) := by
  have hB : Bt l p = 2 := by rw [Bt_in hp]; exact h
  have hl : rLim l p = kS y (fun p4 => .inr (L, p4)) := (rLim_2 hp h).trans hL
  unfold t5
  cases y with
  | inl e => rw [rLims_e hB hl]; rfl
  | inr q => rw [rLims_s hB hl]; rfl
end T5
def rz (mo : Int32) (x : RS) : Nat := (if mo = 1 then 1 else 0) + (match x with
  | .inl _ => 0
  | .inr _ => 1)
theorem rz_2 (mo : Int32) (x : RS) : rz mo x ≤ 2 := by unfold rz; split <;> cases x <;> simp
theorem rz_0 (x : RS) : rz 0 x ≤ 1 := by unfold rz; rw [if_neg (by decide)]; cases x <;> simp
theorem rz_e (mo : Int32) (e : Nat × Nat) : rz mo (.inl e) ≤ 1 := by unfold rz; split <;> simp
theorem rz_1 (p : Nat) : rz 1 (.inr p) = 2 := rfl
