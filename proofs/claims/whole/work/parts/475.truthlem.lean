-- needs: 450 451 456 460 462 464
theorem Bt_in {l : List Int32} {p : Nat} (h : p < l.length) : Bt l p = l.getD p 0 := if_pos h
theorem Bt_out {l : List Int32} {p : Nat} (h : l.length ≤ p) : Bt l p = -1 := if_neg (by omega)
theorem dg_neg : isDg (-1) = false := by decide
theorem dg_in {x : Int32} (h : 0 ≤ x) : isDg x = inR x 48 57 := by
  obtain ⟨a, ha, rfl⟩ := nI_of (Int32.not_lt.mpr h)
  rw [show inR (nI a) 48 57 = (decide (48 ≤ a) && decide (a ≤ 57)) from inR_n (a := 48) (b := 57) (by omega) (by omega) (by omega)]
  by_cases h48 : 48 ≤ a
  · have e : nI a - 48 = nI (a - 48) := nSub (b := 48) rfl rfl h48
    unfold isDg
    rw [e, decide_eq_true (show ¬ nI (a - 48) < 0 from nI_pos (by omega)), decide_eq_true h48, Bool.true_and, Bool.true_and]
    refine decide_eq_decide.mpr ?_
    have := nI_leI (a := a - 48) (b := 9) (by omega) (by omega)
    constructor
    · intro q; have := this.mp q; omega
    · intro q; exact this.mpr (by omega)
  · rw [decide_eq_false h48, Bool.false_and]
    have hx : nI a < 48 := (nI_ltI (a := a) (b := 48) (by omega) (by omega)).mpr (by omega)
    have : nI a - 48 < 0 := by grind
    unfold isDg
    rw [decide_eq_false (fun q => q this), Bool.false_and]
theorem dN_m {x : Int32} (en : x = nI (rj x)) (h : 48 ≤ rj x) (h2 : rj x < 2 ^ 31) : dN x = rj x - 48 := by
  unfold dN
  have e : x - 48 = nI (rj x - 48) := nSub (b := 48) en rfl h
  rw [e, nI_clamp (by omega)]
theorem nvS_7 {l : List Int32} {p d : Nat} (h : d ≤ 7) (hd : ∀ z, z < d → isDg (Bt l (p + z)) = true) : nvS l p d < 10000000 := by
  have h1 := nvS_lt l p d hd
  have h2 : 10 ^ d ≤ 10 ^ 7 := Nat.pow_le_pow_right (by omega) h
  omega
theorem nd_eq {l : List Int32} : ∀ (d k p : Nat), d ≤ k → (∀ z, z < d → isDg (Bt l (p + z)) = true) → (d < k → isDg (Bt l (p + d)) = false) → nd l k p = d := by
  intro d
  induction d with
  | zero =>
    intro k p _ _ h
    cases k with
    | zero => rfl
    | succ k => simp only [nd]; rw [if_neg]; have := h (by omega); rw [Nat.add_zero] at this; rw [this]; decide
  | succ d ih =>
    intro k p hk hz h
    cases k with
    | zero => omega
    | succ k =>
      have h0 := hz 0 (by omega)
      rw [Nat.add_zero] at h0
      simp only [nd]
      rw [if_pos h0, ih k (p + 1) (by omega) (fun z q => by rw [show p + 1 + z = p + (z + 1) by omega]; exact hz _ (by omega)) (fun q => by rw [show p + 1 + d = p + (d + 1) by omega]; exact h (by omega))]
theorem txt_none {q : Nat → Int32} {l : List Int32} {f p : Nat} {one all : Bool} (h : tst q l p = none) : txt q l f p one all = -1 := by
  cases f with
  | zero => rfl
  | succ f => exact txt_n h
theorem txt_some {q : Nat → Int32} {l : List Int32} {p p' : Nat} {r : Bool} (h : tst q l p = some (r, p')) {f : Nat} (hf : 0 < f) (one all : Bool) : txt q l f p one all = (if Bt l p' = 38 then txt q l (f - 1) (p' + 1) one (all && r) else if Bt l p' = -1 then b2i (one || (all && r)) else if Bt l p' = 124 then txt q l (f - 1) (p' + 1) (one || (all && r)) true else -1) := by
  cases f with
  | zero => omega
  | succ f => rw [txt_s h, Nat.add_sub_cancel]
theorem let_in {x : Int32} (h0 : 0 ≤ x) : (0 ≤ x - 97 ∧ x - 97 < 8) ↔ inR x 97 104 = true := by
  unfold inR
  rw [Bool.and_eq_true, decide_eq_true_eq, decide_eq_true_eq]
  grind
section TSTM
variable {q : Nat → Int32} {lt : List Int32} {i d : Nat}
theorem tst_no1 (h : lt.length ≤ p1 lt i + 2) : tst q lt i = none := by
  unfold tst
  rw [if_neg]
  rintro ⟨-, -, -, h4⟩
  exact h4 (nd_eq 0 6 _ (by omega) (fun z hz => absurd hz (by omega)) (fun _ => by rw [Bt_out (by omega)]; exact dg_neg))
theorem tst_no2 (h0 : 0 ≤ Bt lt (p1 lt i)) (h : inR (Bt lt (p1 lt i)) 97 104 = false) : tst q lt i = none := by
  unfold tst
  rw [if_neg]
  rintro ⟨a, b, -, -⟩
  rw [(let_in h0).mp ⟨a, b⟩] at h; cases h
theorem tst_no3 (h : isKd (Bt lt (p1 lt i + 1)) = false) : tst q lt i = none := by
  unfold tst
  rw [if_neg]
  rintro ⟨-, -, a, -⟩
  rw [a] at h; cases h
theorem tst_no4 (h : nd lt 6 (p1 lt i + 2) = 0) : tst q lt i = none := by
  unfold tst
  rw [if_neg]
  rintro ⟨-, -, -, a⟩
  exact a h
theorem tst_yesm (h0 : 0 ≤ Bt lt (p1 lt i)) (h : inR (Bt lt (p1 lt i)) 97 104 = true) (hk : isKd (Bt lt (p1 lt i + 1)) = true) (hn : nd lt 6 (p1 lt i + 2) = d) (hd : 1 ≤ d) : tst q lt i = some (hold (q (rj (Bt lt (p1 lt i)) - 97)) (Bt lt (p1 lt i + 1)) (nI (nvS lt (p1 lt i + 2) d)) != decide (Bt lt i = 33), p1 lt i + 2 + d) := by
  have h2 := (let_in h0).mpr h
  obtain ⟨lo, hi, en⟩ := inR_j h (m := 97) (n := 104) rfl rfl (by omega) (by omega)
  have e : (Bt lt (p1 lt i) - 97).toNatClampNeg = rj (Bt lt (p1 lt i)) - 97 := by
    rw [show Bt lt (p1 lt i) - 97 = nI (rj (Bt lt (p1 lt i)) - 97) from nSub (b := 97) en rfl lo, nI_clamp (by omega)]
  unfold tst
  rw [if_pos ⟨h2.1, h2.2, hk, by omega⟩, hn, e]
end TSTM
theorem dg_ne {c : Int32} (h : isDg c = true) : c ≠ 38 ∧ c ≠ -1 ∧ c ≠ 124 := by
  refine ⟨fun e => ?_, fun e => ?_, fun e => ?_⟩ <;> (subst e; exact absurd h (by decide))
theorem b2i_inj {x y : Bool} (h : b2i x = b2i y) : x = y := by cases x <;> cases y <;> simp [b2i] at h ⊢
