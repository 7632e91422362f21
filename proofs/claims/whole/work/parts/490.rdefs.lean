-- needs: 450 451 456 460 462 464 466 469
/-! THE MODEL READS: a fault and its place, or a place on the tape -/
abbrev RS : Type := (Nat × Nat) ⊕ Nat
def kS {α : Type} (x : RS) (f : Nat → (Nat × Nat) ⊕ α) : (Nat × Nat) ⊕ α := match x with
  | .inl e => .inl e
  | .inr p => f p
def kS2 {α β : Type} (x : (Nat × Nat) ⊕ (β × Nat)) (f : β → Nat → (Nat × Nat) ⊕ α) : (Nat × Nat) ⊕ α := match x with
  | .inl e => .inl e
  | .inr a => f a.1 a.2
def sS {β : Type} (x : (Nat × Nat) ⊕ (β × Nat)) : RS := kS2 x (fun _ p => .inr p)
def rdS (V : Vt) (l : List Int32) (x : RS) : Prop := match x with
  | .inl e => V 580 41 = nI e.1 ∧ (1 ≤ e.1 ∧ e.1 ≤ 5) ∧ V 580 20 = nI e.2
  | .inr p => V 580 41 = 0 ∧ V 580 40 = nI p ∧ p ≤ l.length ∧ V 580 20 = -1
theorem nI_nz {n : Nat} (h : 1 ≤ n) (h2 : n < 2 ^ 31) : ¬ nI n = 0 := fun e => by
  have := (nEq (a := n) (b := 0) rfl rfl h2 (by omega)).mp e
  omega
theorem rdS.z {V : Vt} {l : List Int32} {x : RS} (h : rdS V l x) (c : V 580 41 = 0) : ∃ p, x = .inr p ∧ V 580 40 = nI p ∧ p ≤ l.length ∧ V 580 20 = -1 := by
  cases x with
  | inl e => exact absurd (h.1.symm.trans c) (nI_nz h.2.1.1 (by have := h.2.1.2; omega))
  | inr p => exact ⟨p, rfl, h.2⟩
theorem rdS.nz {V : Vt} {l : List Int32} {x : RS} (h : rdS V l x) (c : ¬ V 580 41 = 0) : ∃ e, x = .inl e ∧ V 580 41 = nI e.1 ∧ (1 ≤ e.1 ∧ e.1 ≤ 5) ∧ V 580 20 = nI e.2 := by
  cases x with
  | inl e => exact ⟨e, rfl, h⟩
  | inr p => exact absurd h.1 c
theorem rdS.fr {V V' : Vt} {l : List Int32} {x : RS} (h : rdS V l x) (f : ∀ i, i = 20 ∨ i = 40 ∨ i = 41 → V' 580 i = V 580 i) : rdS V' l x := by
  cases x with
  | inl e => exact ⟨(f 41 (by omega)).trans h.1, h.2.1, (f 20 (by omega)).trans h.2.2⟩
  | inr p => exact ⟨(f 41 (by omega)).trans h.1, (f 40 (by omega)).trans h.2.1, h.2.2.1, (f 20 (by omega)).trans h.2.2.2⟩
/-- nothing but the reader's fields has changed -/
def frN (V V' : Vt) : Prop := (∀ k, k ≠ 580 → V' k = V k) ∧ ∀ i, i ≠ 20 → i ≠ 40 → i ≠ 41 → V' 580 i = V 580 i
theorem frN.rf {V : Vt} : frN V V := ⟨fun _ _ => rfl, fun _ _ _ _ => rfl⟩
theorem frN.trans {V V' V'' : Vt} (h : frN V V') (h' : frN V' V'') : frN V V'' := ⟨fun k a => (h'.1 k a).trans (h.1 k a), fun i a b c => (h'.2 i a b c).trans (h.2 i a b c)⟩
theorem frN.up {V V1 : Vt} {i : Nat} {x : Int32} (e : up2 V 580 i x = V1) (hi : i = 20 ∨ i = 40 ∨ i = 41) : frN V V1 := ⟨fun k a => by rw [← e, up2_k _ _ a], fun j a b c => by rw [← e, up2_o _ _ (by omega)]⟩
theorem frN.bf {V V' : Vt} {l : List Int32} (h : frN V V') (hu : buf V 19 595 l) : buf V' 19 595 l := hu.keep (h.2 19 (by decide) (by decide) (by decide)) (h.1 595 (by decide))
/-- nothing but the reader's fields and n places of the cell c has changed -/
def frRw (V V' : Vt) (c b n : Nat) : Prop := (∀ i, (i < b ∨ b + n ≤ i) → V' c i = V c i) ∧ (∀ k, k ≠ c → k ≠ 580 → V' k = V k) ∧ ∀ i, i ≠ 20 → i ≠ 40 → i ≠ 41 → V' 580 i = V 580 i
theorem frN.rw {V V' V'' : Vt} {c b n : Nat} (h : frRw V V' c b n) (f : frN V' V'') (hc : c ≠ 580) : frRw V V'' c b n := ⟨fun i a => by rw [f.1 c hc]; exact h.1 i a, fun k a e => (f.1 k e).trans (h.2.1 k a e), fun i a e g => (f.2 i a e g).trans (h.2.2 i a e g)⟩
theorem frN.rw0 {V V' : Vt} {c b n : Nat} (f : frN V V') (hc : c ≠ 580) : frRw V V' c b n := ⟨fun i a => by rw [f.1 c hc], fun k _ e => f.1 k e, f.2⟩
theorem frRw.st {V V' V1 : Vt} {c b n j : Nat} {x : Int32} (h : frRw V V' c b n) (e : up2 V' c (b + j) x = V1) (hj : j < n) (hc : c ≠ 580) : frRw V V1 c b n := ⟨fun i a => by rw [← e, up2_o _ _ (by omega)]; exact h.1 i a, fun k a d => by rw [← e, up2_k _ _ a]; exact h.2.1 k a d, fun i a d g => by rw [← e, up2_k _ _ (Ne.symm hc)]; exact h.2.2 i a d g⟩
theorem frRw.bf {V V' : Vt} {l : List Int32} {c b n : Nat} (h : frRw V V' c b n) (hu : buf V 19 595 l) (hc : c ≠ 595) : buf V' 19 595 l := hu.keep (h.2.2 19 (by decide) (by decide) (by decide)) (h.2.1 595 (Ne.symm hc) (by decide))
def nxv (l : List Int32) (x : RS) : Int32 := match x with
  | .inl _ => 0
  | .inr p => if l.length ≤ p then 0 else l.getD p 0
def nxs (l : List Int32) (x : RS) : RS := match x with
  | .inl e => .inl e
  | .inr p => if l.length ≤ p then .inl (1, p) else .inr (p + 1)
def rb (l : List Int32) (lo hi : Nat) (x : RS) : (Nat × Nat) ⊕ (List Int32 × Nat) := kS x (rBytes l lo hi)
section TAILS
variable (l nm : List Int32) (ls : List Lm)
def t8 (sg : List Int32) (p : Nat) : (Nat × Nat) ⊕ Tk := if p = l.length then .inr (nm, sg, ls) else .inl (5, p)
def t7 (p : Nat) : (Nat × Nat) ⊕ Tk := kS2 (rBytes l 32 32 p) (t8 l nm ls)
def t6 (p : Nat) : (Nat × Nat) ⊕ Tk := kS (rMark l 6 p) (t7 l nm ls)
def t5 (n : Nat) (acc : List Lm) (p : Nat) : (Nat × Nat) ⊕ Tk := kS2 (rLims l n p acc) (fun a q => kS (rMark l 0 q) (t6 l nm a))
def t4 (p : Nat) : (Nat × Nat) ⊕ Tk := kS (rMark l 0 p) (t5 l nm 10 [])
def t3 (p : Nat) : (Nat × Nat) ⊕ Tk := kS2 (rBytes l 1 60 p) (t4 l)
def t2 (p : Nat) : (Nat × Nat) ⊕ Tk := kS (rMark l 2 p) (t3 l)
end TAILS
theorem rTok_t (l : List Int32) : rTok l = kS (rMark l 2 0) (t2 l) := by
  unfold rTok kS
  cases rMark l 2 0 with
  | inl e => rfl
  | inr p1 =>
    simp only [t2, kS]
    cases rMark l 2 p1 with
    | inl e => rfl
    | inr p2 =>
      simp only [t3, kS2]
      cases rBytes l 1 60 p2 with
      | inl e => rfl
      | inr nm =>
        simp only [t4, kS]
        cases rMark l 0 nm.2 with
        | inl e => rfl
        | inr p4 =>
          simp only [t5, kS2]
          cases rLims l 10 p4 [] with
          | inl e => rfl
          | inr ls =>
            simp only [kS]
            cases rMark l 0 ls.2 with
            | inl e => rfl
            | inr p6 =>
              simp only [t6, kS]
              cases rMark l 6 p6 with
              | inl e => rfl
              | inr p7 =>
                simp only [t7, kS2]
                cases rBytes l 32 32 p7 with
                | inl e => rfl
                | inr sg => rfl
theorem kS_k {α : Type} (x : RS) (f : Nat → RS) (g : Nat → (Nat × Nat) ⊕ α) : kS (kS x f) g = kS x (fun p => kS (f p) g) := by cases x <;> rfl
theorem kS_2 {α β : Type} (x : RS) (f : Nat → (Nat × Nat) ⊕ (β × Nat)) (g : β → Nat → (Nat × Nat) ⊕ α) : kS2 (kS x f) g = kS x (fun p => kS2 (f p) g) := by cases x <;> rfl
/-- what was read, or nothing -/
def bsOf {β : Type} (z : β) (x : (Nat × Nat) ⊕ (β × Nat)) : β := match x with
  | .inl _ => z
  | .inr a => a.1
theorem kS2_s {α β : Type} (z : β) (x : (Nat × Nat) ⊕ (β × Nat)) (g : β → Nat → (Nat × Nat) ⊕ α) : kS2 x g = kS (sS x) (g (bsOf z x)) := by cases x <;> rfl
def rLim2 (l : List Int32) (p : Nat) : (Nat × Nat) ⊕ (Lm × Nat) := kS2 (rBytes l 1 60 p) (fun a pa => kS2 (rLock l pa) (fun k pk => kS (rMark l 0 pk) (fun p4 => .inr ((a, k), p4))))
theorem rLim_2 {l : List Int32} {p : Nat} (hp : p < l.length) (h2 : l.getD p 0 = 2) : rLim l p = rLim2 l (p + 1) := by
  unfold rLim
  rw [show rMark l 2 p = .inr (p + 1) from by unfold rMark; rw [if_neg (by omega), if_pos h2]]
  simp only [rLim2]
  cases rBytes l 1 60 (p + 1) with
  | inl e => rfl
  | inr a =>
    simp only [kS2]
    cases rLock l a.2 with
    | inl e => rfl
    | inr k =>
      simp only [kS]
      cases rMark l 0 k.2 with
      | inl e => rfl
      | inr p4 => rfl
