/-! A TAPE AS A TOKEN: the fault and its place, or what was read and where it ends -/
def rMark (l : List Int32) (m : Int32) (p : Nat) : (Nat × Nat) ⊕ Nat := if l.length ≤ p then .inl (1, p) else if l.getD p 0 = m then .inr (p + 1) else .inl (2, p)
def rBytes (l : List Int32) (lo hi p : Nat) : (Nat × Nat) ⊕ (List Int32 × Nat) := if l.length ≤ p then .inl (1, p) else if l.getD p 0 < nI lo ∨ nI hi < l.getD p 0 then .inl (3, p) else if l.length < p + 1 + (l.getD p 0).toNatClampNeg then .inl (1, l.length) else .inr ((l.drop (p + 1)).take (l.getD p 0).toNatClampNeg, p + 1 + (l.getD p 0).toNatClampNeg)
def rLock (l : List Int32) (p : Nat) : (Nat × Nat) ⊕ (List Int32 × Nat) := if Bt l p = 4 then rBytes l 32 32 (p + 1) else .inr ([], p)
def rLim (l : List Int32) (p : Nat) : (Nat × Nat) ⊕ (Lm × Nat) := match rMark l 2 p with
  | .inl e => .inl e
  | .inr p1 => match rBytes l 1 60 p1 with
    | .inl e => .inl e
    | .inr a => match rLock l a.2 with
      | .inl e => .inl e
      | .inr k => match rMark l 0 k.2 with
        | .inl e => .inl e
        | .inr p4 => .inr ((a.1, k.1), p4)
def rLims (l : List Int32) : Nat → Nat → List Lm → (Nat × Nat) ⊕ (List Lm × Nat)
  | 0, p, acc => if Bt l p = 2 then .inl (4, p) else .inr (acc, p)
  | n + 1, p, acc => if Bt l p = 2 then (match rLim l p with
    | .inl e => .inl e
    | .inr a => rLims l n a.2 (acc ++ [a.1])) else .inr (acc, p)
def rTok (l : List Int32) : (Nat × Nat) ⊕ Tk := match rMark l 2 0 with
  | .inl e => .inl e
  | .inr p1 => match rMark l 2 p1 with
    | .inl e => .inl e
    | .inr p2 => match rBytes l 1 60 p2 with
      | .inl e => .inl e
      | .inr nm => match rMark l 0 nm.2 with
        | .inl e => .inl e
        | .inr p4 => match rLims l 10 p4 [] with
          | .inl e => .inl e
          | .inr ls => match rMark l 0 ls.2 with
            | .inl e => .inl e
            | .inr p6 => match rMark l 6 p6 with
              | .inl e => .inl e
              | .inr p7 => match rBytes l 32 32 p7 with
                | .inl e => .inl e
                | .inr sg => if sg.2 = l.length then .inr (nm.1, sg.1, ls.1) else .inl (5, sg.2)
/-- what the reader answers and holds behind a step -/
def rdP {α : Type} (x : (Nat × Nat) ⊕ α) (r : Int32) (V' : Vt) (ok : α → Prop) : Prop := (∀ e, x = .inl e → r = 0 ∧ V' 505 2 = nI e.1 ∧ V' 505 3 = nI e.2) ∧ ∀ a, x = .inr a → r = 1 ∧ ok a
theorem rdP.t {α : Type} {x : (Nat × Nat) ⊕ α} {r : Int32} {V' : Vt} {ok : α → Prop} (h : rdP x r V' ok) (c : r = 0) : ∃ e, x = .inl e ∧ V' 505 2 = nI e.1 ∧ V' 505 3 = nI e.2 := by
  cases x with
  | inl e => exact ⟨e, rfl, (h.1 e rfl).2⟩
  | inr a => exact absurd ((h.2 a rfl).1.symm.trans c) (by decide)
theorem rdP.f {α : Type} {x : (Nat × Nat) ⊕ α} {r : Int32} {V' : Vt} {ok : α → Prop} (h : rdP x r V' ok) (c : ¬ r = 0) : ∃ a, x = .inr a ∧ r = 1 ∧ ok a := by
  cases x with
  | inl e => exact absurd (h.1 e rfl).1 c
  | inr a => exact ⟨a, rfl, h.2 a rfl⟩
theorem rdP.l {α : Type} {x : (Nat × Nat) ⊕ α} {V' : Vt} {ok : α → Prop} {e : Nat × Nat} (h : x = .inl e) (h2 : V' 505 2 = nI e.1) (h3 : V' 505 3 = nI e.2) : rdP x 0 V' ok := by
  subst h
  exact ⟨fun e' he => by cases he; exact ⟨rfl, h2, h3⟩, fun a ha => by cases ha⟩
theorem rdP.r {α : Type} {x : (Nat × Nat) ⊕ α} {V' : Vt} {ok : α → Prop} {a : α} (h : x = .inr a) (h2 : ok a) : rdP x 1 V' ok := by
  subst h
  exact ⟨fun e' he => (by cases he), fun a' ha => (by cases ha; exact ⟨rfl, h2⟩)⟩
theorem rMark_le {l : List Int32} {m : Int32} {p p' : Nat} (h : rMark l m p = .inr p') : p' = p + 1 ∧ p + 1 ≤ l.length := by
  unfold rMark at h
  split at h
  · cases h
  · split at h
    · cases h; omega
    · cases h
theorem rBytes_ok {l : List Int32} {lo hi p : Nat} {a : List Int32 × Nat} (h : rBytes l lo hi p = .inr a) (hhi : hi < 2 ^ 31) (hlo : lo < 2 ^ 31) (hl : okL l) : a.2 ≤ l.length ∧ p < a.2 ∧ lo ≤ a.1.length ∧ a.1.length ≤ hi ∧ okL a.1 := by
  unfold rBytes at h
  split at h
  · cases h
  · rename_i h1
    split at h
    · cases h
    · rename_i h2
      split at h
      · cases h
      · rename_i h3
        have hm : l.getD p 0 ∈ l := by
          rw [List.getD_eq_getElem?_getD, List.getElem?_eq_getElem (by omega)]
          exact List.getElem_mem _
        have h0 := hl _ hm
        have hle : l.getD p 0 ≤ nI hi := Int32.not_lt.mp (fun q => h2 (Or.inr q))
        have hge : nI lo ≤ l.getD p 0 := Int32.not_lt.mp (fun q => h2 (Or.inl q))
        obtain ⟨m, hm1, hm2⟩ := nI_of2 (nI_toInt hhi) (Int32.not_lt.mpr h0) hle
        rw [hm2] at h3 hge h
        rw [nI_clamp (by omega)] at h3 h
        have hlm : lo ≤ m := (nI_leI hlo (by omega)).mp hge
        cases h
        refine ⟨by simp only; omega, by simp only; omega, ?_, ?_, fun x hx => hl x (List.mem_of_mem_drop (List.mem_of_mem_take hx))⟩
        · simp only [List.length_take, List.length_drop]; omega
        · simp only [List.length_take, List.length_drop]; omega
theorem Bt_pos {l : List Int32} {p : Nat} (h : p < l.length) : Bt l p = l.getD p 0 := by unfold Bt; rw [if_pos h]
theorem Bt_end {l : List Int32} {p : Nat} (h : l.length ≤ p) : Bt l p = -1 := by unfold Bt; rw [if_neg (by omega)]
theorem rLim_ok {l : List Int32} {p : Nat} {a : Lm × Nat} (h : rLim l p = .inr a) (hl : okL l) : a.2 ≤ l.length ∧ p < a.2 ∧ okLm a.1 := by
  unfold rLim at h
  split at h
  · cases h
  · rename_i p1 h1
    split at h
    · cases h
    · rename_i b h2
      split at h
      · cases h
      · rename_i k h3
        split at h
        · cases h
        · rename_i p4 h4
          cases h
          obtain ⟨e1, e2⟩ := rMark_le h1
          obtain ⟨f1, f2, f3, f4, f5⟩ := rBytes_ok h2 (by omega) (by omega) hl
          obtain ⟨g1, g2⟩ := rMark_le h4
          unfold rLock at h3
          split at h3
          · obtain ⟨i1, i2, i3, i4, i5⟩ := rBytes_ok h3 (by omega) (by omega) hl
            exact ⟨by simp only; omega, by simp only; omega, f3, f4, Or.inr (by simp only; omega), f5, i5⟩
          · cases h3
            exact ⟨by simp only; omega, by simp only at g2 ⊢; omega, f3, f4, Or.inl rfl, f5, fun x hx => by cases hx⟩
