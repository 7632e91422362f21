theorem gd_snoc_lt {acc : List Lm} {L : Lm} {i : Nat} (h : i < acc.length) : (acc ++ [L]).getD i lz = acc.getD i lz := by
  simp [List.getD_eq_getElem?_getD, List.getElem?_append_left h]
theorem gd_snoc_eq {acc : List Lm} {L : Lm} : (acc ++ [L]).getD acc.length lz = L := by
  simp [List.getD_eq_getElem?_getD]
theorem rLims_ok {l : List Int32} (hl : okL l) : ∀ (n p : Nat) (acc : List Lm) (a : List Lm × Nat), rLims l n p acc = .inr a → p ≤ l.length → (∀ i, i < acc.length → okLm (acc.getD i lz)) → a.2 ≤ l.length ∧ a.1.length ≤ acc.length + n ∧ ∀ i, i < a.1.length → okLm (a.1.getD i lz) := by
  intro n
  induction n with
  | zero =>
    intro p acc a h hp hacc
    simp only [rLims] at h
    split at h
    · cases h
    · cases h; exact ⟨hp, by simp, hacc⟩
  | succ n ih =>
    intro p acc a h hp hacc
    simp only [rLims] at h
    split at h
    · split at h
      · cases h
      · rename_i a0 h0
        obtain ⟨g1, g2, g3⟩ := rLim_ok h0 hl
        obtain ⟨k1, k2, k3⟩ := ih a0.2 (acc ++ [a0.1]) a h g1 (fun i hi => by
          rw [List.length_append, List.length_singleton] at hi
          rcases Nat.lt_or_ge i acc.length with q | q
          · rw [gd_snoc_lt q]; exact hacc i q
          · rw [show i = acc.length by omega, gd_snoc_eq]; exact g3)
        rw [List.length_append, List.length_singleton] at k2
        exact ⟨k1, by omega, k3⟩
    · cases h; exact ⟨hp, by simp, hacc⟩
theorem rTok_ok {l : List Int32} {T : Tk} (hl : okL l) (h : rTok l = .inr T) : okTk T := by
  unfold rTok at h
  split at h
  · cases h
  · rename_i p1 h1
    split at h
    · cases h
    · rename_i p2 h2
      split at h
      · cases h
      · rename_i nm h3
        split at h
        · cases h
        · rename_i p4 h4
          split at h
          · cases h
          · rename_i ls h5
            split at h
            · cases h
            · rename_i p6 h6
              split at h
              · cases h
              · rename_i p7 h7
                split at h
                · cases h
                · rename_i sg h8
                  split at h
                  · cases h
                    have a3 := rBytes_ok h3 (by omega) (by omega) hl
                    have a5 := rLims_ok hl 10 p4 [] ls h5 (by have := rMark_le h4; omega) (fun i hi => absurd hi (Nat.not_lt_zero i))
                    have a8 := rBytes_ok h8 (by omega) (by omega) hl
                    exact ⟨⟨a3.2.2.1, a3.2.2.2.1, a3.2.2.2.2⟩, ⟨by simp only; omega, a8.2.2.2.2⟩, by simpa using a5.2.1, a5.2.2⟩
                  · cases h
theorem rLims_s {l : List Int32} {n p : Nat} {acc : List Lm} {a : Lm × Nat} (h : Bt l p = 2) (hm : rLim l p = .inr a) : rLims l (n + 1) p acc = rLims l n a.2 (acc ++ [a.1]) := by
  simp only [rLims]; rw [if_pos h, hm]
theorem rLims_e {l : List Int32} {n p : Nat} {acc : List Lm} {e : Nat × Nat} (h : Bt l p = 2) (hm : rLim l p = .inl e) : rLims l (n + 1) p acc = .inl e := by
  simp only [rLims]; rw [if_pos h, hm]
