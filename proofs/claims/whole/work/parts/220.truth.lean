/-! WHEN A TEXT IS TRUE, by places of its bytes -/
def b2i (b : Bool) : Int32 := if b then 1 else 0
def Bt (l : List Int32) (p : Nat) : Int32 := if p < l.length then l.getD p 0 else -1
theorem Bt_eq {l : List Int32} {p : Nat} (h : p < 2 ^ 31) (hl : l.length < 2 ^ 31) : bAt l (nI p) = Bt l p := by
  unfold Bt
  by_cases hp : p < l.length
  · rw [if_pos hp, bAt_in rfl hp hl]
  · rw [if_neg hp, bAt_big (nI_le (by omega) h)]
def isDg (c : Int32) : Bool := decide (¬ c - 48 < 0) && decide (c - 48 ≤ 9)
def dN (c : Int32) : Nat := (c - 48).toNatClampNeg
theorem dN_le {c : Int32} (h : isDg c = true) : dN c ≤ 9 ∧ c - 48 = nI (dN c) := by
  simp [isDg] at h
  obtain ⟨j, hj, e⟩ := nI_of2 (M := 9) (n := 9) (by decide) (by grind) h.2
  unfold dN
  rw [e, nI_clamp (by omega)]
  exact ⟨hj, rfl⟩
/-- how many digits stand at p, k at most -/
def nd (l : List Int32) : Nat → Nat → Nat
  | 0, _ => 0
  | k + 1, p => if isDg (Bt l p) then nd l k (p + 1) + 1 else 0
theorem nd_le (l : List Int32) : ∀ k p, nd l k p ≤ k := by
  intro k
  induction k with
  | zero => intro p; exact Nat.le_refl _
  | succ k ih => intro p; simp only [nd]; split
                 · have := ih (p + 1); omega
                 · omega
/-- the number that j digits from p make -/
def nvS (l : List Int32) (p : Nat) : Nat → Nat
  | 0 => 0
  | j + 1 => 10 * nvS l p j + dN (Bt l (p + j))
def isKd (k : Int32) : Bool := k == 60 || k == 61 || k == 62 || k == 35
def hold (a k n : Int32) : Bool := if k = 60 then decide (a < n) else if k = 61 then decide (a = n) else if k = 62 then decide (n < a) else if n = 0 then decide (a = 0) else decide (a - a / n * n = 0)
/-- where a test's letter stands, and the test: whether it holds, and where it ends -/
def p1 (l : List Int32) (p : Nat) : Nat := if Bt l p = 33 then p + 1 else p
def tst (q : Nat → Int32) (l : List Int32) (p : Nat) : Option (Bool × Nat) :=
  if 0 ≤ Bt l (p1 l p) - 97 ∧ Bt l (p1 l p) - 97 < 8 ∧ isKd (Bt l (p1 l p + 1)) = true ∧ nd l 6 (p1 l p + 2) ≠ 0 then some (hold (q (Bt l (p1 l p) - 97).toNatClampNeg) (Bt l (p1 l p + 1)) (nI (nvS l (p1 l p + 2) (nd l 6 (p1 l p + 2)))) != decide (Bt l p = 33), p1 l p + 2 + nd l 6 (p1 l p + 2)) else none
def txt (q : Nat → Int32) (l : List Int32) : Nat → Nat → Bool → Bool → Int32
  | 0, _, _, _ => -1
  | f + 1, p, one, all => match tst q l p with
    | none => -1
    | some (r, p') => if Bt l p' = 38 then txt q l f (p' + 1) one (all && r) else if Bt l p' = -1 then b2i (one || (all && r)) else if Bt l p' = 124 then txt q l f (p' + 1) (one || (all && r)) true else -1
def truth (q : Nat → Int32) (l : List Int32) : Int32 := txt q l (l.length + 1) 0 false true
theorem tst_le {q : Nat → Int32} {l : List Int32} {p p' : Nat} {r : Bool} (h : tst q l p = some (r, p')) : p + 3 ≤ p' ∧ p' ≤ p + 9 := by
  unfold tst at h
  split at h
  · rename_i hc
    have h1 : p1 l p + 2 + nd l 6 (p1 l p + 2) = p' := by simp at h; exact h.2
    have h2 := nd_le l 6 (p1 l p + 2)
    have h3 : p ≤ p1 l p ∧ p1 l p ≤ p + 1 := by unfold p1; split <;> omega
    omega
  · cases h
theorem b2i_t : b2i true = 1 := rfl
theorem b2i_f : b2i false = 0 := rfl
theorem b2i_eq0 {b : Bool} (h : b2i b = 0) : b = false := by cases b <;> simp [b2i] at h ⊢
theorem b2i_ne0 {b : Bool} (h : ¬ b2i b = 0) : b = true := by cases b <;> simp [b2i] at h ⊢
theorem sw3 {x : Int32} {a : Int32} (h0 : ¬ x = 60) (h1 : ¬ x = 61) (h2 : ¬ x = 62) : x.toInt < 60 ∨ 62 < x.toInt := by
  by_cases q : x.toInt < 60
  · exact Or.inl q
  · by_cases q2 : 62 < x.toInt
    · exact Or.inr q2
    · exfalso
      rcases (show x.toInt = 60 ∨ x.toInt = 61 ∨ x.toInt = 62 by omega) with e | e | e
      · exact h0 (Int32.toInt_inj.mp (by rw [e]; rfl))
      · exact h1 (Int32.toInt_inj.mp (by rw [e]; rfl))
      · exact h2 (Int32.toInt_inj.mp (by rw [e]; rfl))
/-- the numbers of a walk through digits -/
theorem num_s {l : List Int32} {p j : Nat} {x y : Int32} (hx : x = nI (nvS l p j)) (hb : nvS l p j < 10 ^ j) (hj : j < 6) (hd : isDg (Bt l (p + j)) = true) (e : y = x * 10 + (Bt l (p + j) - 48)) : y = nI (nvS l p (j + 1)) ∧ nvS l p (j + 1) < 10 ^ (j + 1) := by
  obtain ⟨h1, h2⟩ := dN_le hd
  refine ⟨?_, ?_⟩
  · rw [e, hx, h2, show (10 : Int32) = nI 10 from rfl, pk_mul, nI_add]
    show nI _ = nI (10 * nvS l p j + dN (Bt l (p + j)))
    rw [Nat.mul_comm]
  · show 10 * nvS l p j + dN (Bt l (p + j)) < 10 ^ (j + 1)
    rw [Nat.pow_succ]; omega
theorem nd_dg (l : List Int32) : ∀ k p i, i < nd l k p → isDg (Bt l (p + i)) = true := by
  intro k
  induction k with
  | zero => intro p i h; exact absurd h (Nat.not_lt_zero _)
  | succ k ih =>
    intro p i h
    simp only [nd] at h
    split at h
    · rename_i hd
      cases i with
      | zero => exact hd
      | succ i =>
        have := ih (p + 1) i (by omega)
        rw [show p + (i + 1) = p + 1 + i by omega]; exact this
    · omega
theorem nvS_lt (l : List Int32) (p : Nat) : ∀ d, (∀ i, i < d → isDg (Bt l (p + i)) = true) → nvS l p d < 10 ^ d := by
  intro d
  induction d with
  | zero => intro _; exact Nat.one_pos
  | succ d ih =>
    intro h
    have h1 := ih (fun i hi => h i (by omega))
    have h2 := (dN_le (h d (by omega))).1
    show 10 * nvS l p d + dN (Bt l (p + d)) < 10 ^ (d + 1)
    rw [Nat.pow_succ]; omega
theorem nvS_6 (l : List Int32) (p : Nat) : nvS l p (nd l 6 p) < 1000000 := by
  have h := nvS_lt l p (nd l 6 p) (nd_dg l 6 p)
  have h2 : 10 ^ nd l 6 p ≤ 10 ^ 6 := Nat.pow_le_pow_right (by omega) (nd_le l 6 p)
  omega
theorem nI_n1 {m : Nat} (h : m < 2 ^ 31) : ¬ nI m = -1 := fun e => nI_pos h (by rw [e]; decide)
theorem num_no {l : List Int32} {p : Nat} {x : Int32} (e : x = (if nd l 6 p = 0 then -1 else nI (nvS l p (nd l 6 p)))) : x = -1 ↔ nd l 6 p = 0 := by
  have hb := nvS_6 l p
  by_cases h : nd l 6 p = 0
  · rw [if_pos h] at e; exact ⟨fun _ => h, fun _ => e⟩
  · rw [if_neg h] at e; exact ⟨fun q => absurd (e.symm.trans q) (nI_n1 (by omega)), fun q => absurd q h⟩
theorem tst_no {q : Nat → Int32} {l : List Int32} {p : Nat} {c kd x : Int32} (ec : c = Bt l (p1 l p) - 97) (ek : kd = Bt l (p1 l p + 1)) (ex : x = (if nd l 6 (p1 l p + 2) = 0 then -1 else nI (nvS l (p1 l p + 2) (nd l 6 (p1 l p + 2))))) (h : c < 0 ∨ 8 ≤ c ∨ b2i (isKd kd) = 0 ∨ x = -1) : tst q l p = none := by
  unfold tst
  rw [if_neg]
  rintro ⟨t1, t2, t3, t4⟩
  rw [← ec] at t1 t2
  rw [← ek] at t3
  rcases h with h | h | h | h
  · exact absurd h (Int32.not_lt.mpr t1)
  · exact absurd h (Int32.not_le.mpr t2)
  · rw [t3] at h; exact absurd h (by decide)
  · exact t4 ((num_no ex).mp h)
theorem tst_yes {q : Nat → Int32} {l : List Int32} {p : Nat} {c kd x : Int32} (ec : c = Bt l (p1 l p) - 97) (ek : kd = Bt l (p1 l p + 1)) (ex : x = (if nd l 6 (p1 l p + 2) = 0 then -1 else nI (nvS l (p1 l p + 2) (nd l 6 (p1 l p + 2))))) (h1 : ¬ c < 0) (h2 : ¬ 8 ≤ c) (h3 : ¬ b2i (isKd kd) = 0) (h4 : ¬ x = -1) : tst q l p = some (hold (q c.toNatClampNeg) kd x != decide (Bt l p = 33), p1 l p + 2 + nd l 6 (p1 l p + 2)) := by
  have h5 : nd l 6 (p1 l p + 2) ≠ 0 := fun e => h4 ((num_no ex).mpr e)
  rw [if_neg h5] at ex
  unfold tst
  rw [if_pos ⟨by rw [← ec]; exact Int32.not_lt.mp h1, by rw [← ec]; exact Int32.not_le.mp h2, by rw [← ek]; exact b2i_ne0 h3, h5⟩, ← ec, ← ek, ← ex]
theorem ne_b2i {x y : Bool} : (b2i x = b2i y → b2i (x != y) = 0) ∧ (¬ b2i x = b2i y → b2i (x != y) = 1) := by
  cases x <;> cases y <;> simp [b2i]
/-- a step of a text -/
theorem txt_s {q : Nat → Int32} {l : List Int32} {f p p' : Nat} {one all r : Bool} (h : tst q l p = some (r, p')) : txt q l (f + 1) p one all = (if Bt l p' = 38 then txt q l f (p' + 1) one (all && r) else if Bt l p' = -1 then b2i (one || (all && r)) else if Bt l p' = 124 then txt q l f (p' + 1) (one || (all && r)) true else -1) := by
  simp only [txt, h]
theorem txt_n {q : Nat → Int32} {l : List Int32} {f p : Nat} {one all : Bool} (h : tst q l p = none) : txt q l (f + 1) p one all = -1 := by
  simp only [txt, h]
theorem b2i_and {a b : Bool} {x y : Int32} (hx : x = b2i a) (hy : y = b2i b) : (x = 0 → b2i (a && b) = 0) ∧ (¬ x = 0 → ¬ y = 1 → b2i (a && b) = 0) ∧ (¬ x = 0 → y = 1 → b2i (a && b) = 1) := by
  subst hx; subst hy
  cases a <;> cases b <;> simp [b2i]
theorem b2i_or {a b : Bool} {x y : Int32} (hx : x = b2i a) (hy : y = b2i b) : (¬ x = 0 → b2i (a || b) = 1) ∧ (x = 0 → ¬ y = 0 → b2i (a || b) = 1) ∧ (x = 0 → y = 0 → b2i (a || b) = 0) := by
  subst hx; subst hy
  cases a <;> cases b <;> simp [b2i]
