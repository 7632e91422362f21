-- needs:
/-! NUMBERS AS INTS -/
theorem nAdd {x y : Int32} {a b : Nat} (hx : x = nI a) (hy : y = nI b) : x + y = nI (a + b) := by subst hx; subst hy; exact nI_add _ _
theorem nMul {x y : Int32} {a b : Nat} (hx : x = nI a) (hy : y = nI b) : x * y = nI (a * b) := by subst hx; subst hy; exact pk_mul _ _
theorem nSub {x y : Int32} {a b : Nat} (hx : x = nI a) (hy : y = nI b) (h : b ≤ a) : x - y = nI (a - b) := by subst hx; subst hy; exact pk_sub h
theorem nDec {x y : Int32} {a b : Nat} (hx : x = nI a) (hy : y = - nI b) (h : b ≤ a) : x + y = nI (a - b) := by subst hx; subst hy; rw [← pk_sub h]; grind
theorem nRem {x y : Int32} {a b : Nat} (hx : x = nI a) (hy : y = nI b) (ha : a < 2 ^ 31) (hb : 0 < b) (hb2 : b < 2 ^ 31) : x - x / y * y = nI (a % b) := by subst hx; subst hy; exact pk_rem ha hb hb2
theorem nDiv {x y : Int32} {a b : Nat} (hx : x = nI a) (hy : y = nI b) (ha : a < 2 ^ 31) (hb : 0 < b) (hb2 : b < 2 ^ 31) : x / y = nI (a / b) := by subst hx; subst hy; exact pk_div ha hb hb2
theorem nLe {x y : Int32} {a b : Nat} (hx : x = nI a) (hy : y = nI b) (ha : a < 2 ^ 31) (hb : b < 2 ^ 31) : x ≤ y ↔ a ≤ b := by subst hx; subst hy; exact nI_leI ha hb
theorem nLt {x y : Int32} {a b : Nat} (hx : x = nI a) (hy : y = nI b) (ha : a < 2 ^ 31) (hb : b < 2 ^ 31) : x < y ↔ a < b := by subst hx; subst hy; exact nI_ltI ha hb
theorem nEq {x y : Int32} {a b : Nat} (hx : x = nI a) (hy : y = nI b) (ha : a < 2 ^ 31) (hb : b < 2 ^ 31) : x = y ↔ a = b := by
  subst hx; subst hy
  refine ⟨fun e => ?_, fun e => by rw [e]⟩
  have := congrArg Int32.toNatClampNeg e
  rwa [nI_clamp ha, nI_clamp hb] at this
/-! THE MODEL'S CELLS: pieces of long rows -/
/-- at the place b of the cell c stand the bytes l -/
def seg (V : Vt) (c b : Nat) (l : List Int32) : Prop := ∀ i, i < l.length → V c (b + i) = l.getD i 0
theorem seg.keep {V V' : Vt} {c b : Nat} {l : List Int32} (h : seg V c b l) (e : V' c = V c) : seg V' c b l := fun i hi => by rw [e]; exact h i hi
theorem seg.fn {V V' : Vt} {c b : Nat} {l : List Int32} (h : seg V c b l) (e : ∀ i, b ≤ i → i < b + l.length → V' c i = V c i) : seg V' c b l := fun i hi => by rw [e _ (by omega) (by omega)]; exact h i hi
theorem seg.nil (V : Vt) (c b : Nat) : seg V c b [] := fun i hi => by simp at hi
/-- n places from b on in the cell d hold f; nothing else has changed since V0 -/
def cpx (V V0 : Vt) (d b n : Nat) (f : Nat → Int32) : Prop := (∀ i, i < n → V d (b + i) = f i) ∧ (∀ i, (i < b ∨ b + n ≤ i) → V d i = V0 d i) ∧ ∀ k, k ≠ d → V k = V0 k
theorem cpx.z (V : Vt) (d b : Nat) (f : Nat → Int32) : cpx V V d b 0 f := ⟨fun i hi => by omega, fun _ _ => rfl, fun _ _ => rfl⟩
theorem cpx.s {V V0 V1 : Vt} {d b n : Nat} {f : Nat → Int32} (h : cpx V V0 d b n f) {q : Nat} {x : Int32} (e : up2 V d q x = V1) (hq : q = b + n) (hx : x = f n) : cpx V1 V0 d b (n + 1) f := by
  subst e; subst hq; subst hx
  refine ⟨fun i hi => ?_, fun i hi => ?_, fun k hk => ?_⟩
  · by_cases q : i = n
    · subst q; exact up2_s _ _ _ _
    · rw [up2_o _ _ (by omega)]; exact h.1 i (by omega)
  · rw [up2_o _ _ (by omega)]; exact h.2.1 i (by omega)
  · rw [up2_k _ _ hk]; exact h.2.2 k hk
theorem cpx.seg {V V0 : Vt} {d b n : Nat} {f : Nat → Int32} {l : List Int32} (h : cpx V V0 d b n f) (hn : l.length ≤ n) (hl : ∀ i, i < l.length → f i = l.getD i 0) : seg V d b l := fun i hi => (h.1 i (by omega)).trans (hl i hi)
/-- the row in the cell d whose length stands in the model's field fl -/
def buf (V : Vt) (fl d : Nat) (l : List Int32) : Prop := V 580 fl = nI l.length ∧ seg V d 0 l
/-- nothing has changed but the cell d and the model's field fl -/
def frF (V V' : Vt) (fl d : Nat) : Prop := (∀ k, k ≠ d → k ≠ 580 → V' k = V k) ∧ ∀ i, i ≠ fl → V' 580 i = V 580 i
theorem frF.rf {V : Vt} {fl d : Nat} : frF V V fl d := ⟨fun _ _ _ => rfl, fun _ _ => rfl⟩
theorem frF.trans {V V' V'' : Vt} {fl d : Nat} (h : frF V V' fl d) (h' : frF V' V'' fl d) : frF V V'' fl d := ⟨fun k a b => (h'.1 k a b).trans (h.1 k a b), fun i a => (h'.2 i a).trans (h.2 i a)⟩
theorem buf.push {V V1 V2 : Vt} {fl d : Nat} {l : List Int32} (hd : d ≠ 580) (h : buf V fl d l) {x y : Int32} {q : Nat} (hq : q = l.length) (e1 : up2 V d q x = V1) (e2 : up2 V1 580 fl y = V2) (hy : y = nI (l.length + 1)) : buf V2 fl d (l ++ [x]) ∧ frF V V2 fl d := by
  subst e1; subst e2; subst hq; subst hy
  refine ⟨⟨by rw [up2_s]; simp, fun i hi => ?_⟩, fun k a b => by rw [up2_k _ _ b, up2_k _ _ a], fun i a => by rw [up2_o _ _ a, up2_k _ _ (by omega)]⟩
  rw [up2_k _ _ hd, Nat.zero_add]
  by_cases e : i = l.length
  · subst e; rw [up2_s]; simp
  · simp at hi
    rw [up2_o _ _ e, gd_app (by omega)]
    have := h.2 i (by omega)
    rwa [Nat.zero_add] at this
theorem buf.at {V : Vt} {fl d : Nat} {l : List Int32} (h : buf V fl d l) {i : Nat} (hi : i < l.length) : V d i = l.getD i 0 := by
  have := h.2 i hi
  rwa [Nat.zero_add] at this
theorem buf.keep {V V' : Vt} {fl d : Nat} {l : List Int32} (h : buf V fl d l) (h0 : V' 580 fl = V 580 fl) (h1 : V' d = V d) : buf V' fl d l := ⟨by rw [h0]; exact h.1, h.2.keep h1⟩
theorem buf.nil {V V1 : Vt} {fl d : Nat} (e : up2 V 580 fl 0 = V1) : buf V1 fl d [] := ⟨by rw [← e]; exact up2_s _ _ _ _, seg.nil _ _ _⟩
/-- an int row of the model -/
def isA (c n : Nat) : Prop := c < 610 ∧ sk c = 9 ∧ sn c = n ∧ n ≤ 5400
theorem isA.lt {c n : Nat} (h : isA c n) : c < 610 := h.1
theorem isA.k {c n : Nat} (h : isA c n) : sk c = 9 := h.2.1
theorem isA.n {c n : Nat} (h : isA c n) : sn c = n := h.2.2.1
theorem isA.c {c n : Nat} (h : isA c n) : n ≤ 5400 := h.2.2.2
theorem isA.ne {c n : Nat} (h : isA c n) : c ≠ 580 := fun e => by have := h.k; rw [e] at this; exact absurd this (by decide)
theorem a586 : isA 586 400 := by unfold isA; decide
theorem a587 : isA 587 32 := by unfold isA; decide
theorem a588 : isA 588 100 := by unfold isA; decide
theorem a589 : isA 589 200 := by unfold isA; decide
theorem a590 : isA 590 32 := by unfold isA; decide
theorem a591 : isA 591 32 := by unfold isA; decide
theorem a592 : isA 592 32 := by unfold isA; decide
theorem a593 : isA 593 800 := by unfold isA; decide
theorem a598 : isA 598 540 := by unfold isA; decide
theorem a601 : isA 601 5400 := by unfold isA; decide
theorem a603 : isA 603 2880 := by unfold isA; decide
theorem a604 : isA 604 288 := by unfold isA; decide
theorem a608 : isA 608 288 := by unfold isA; decide
theorem take_s {l : List Int32} {j : Nat} (h : j < l.length) : l.take (j + 1) = l.take j ++ [l.getD j 0] := by
  have := map_take_s (f := id) h
  simpa using this
/-- nothing has changed but the cells lo .. hi and the fields of the seal -/
def frS (V V' : Vt) (lo hi : Nat) : Prop := (∀ k, (k < lo ∨ hi < k) → k ≠ 580 → V' k = V k) ∧ ∀ i, i ≠ 7 → i ≠ 10 → i ≠ 12 → V' 580 i = V 580 i
theorem frS.rf {V : Vt} {lo hi : Nat} : frS V V lo hi := ⟨fun _ _ _ => rfl, fun _ _ _ _ => rfl⟩
theorem frS.trans {V V' V'' : Vt} {lo hi : Nat} (h : frS V V' lo hi) (h' : frS V' V'' lo hi) : frS V V'' lo hi := ⟨fun k a b => (h'.1 k a b).trans (h.1 k a b), fun i a b c => (h'.2 i a b c).trans (h.2 i a b c)⟩
theorem frS.wide {V V' : Vt} {lo hi lo2 hi2 : Nat} (h : frS V V' lo hi) (h1 : lo2 ≤ lo ∧ hi ≤ hi2) : frS V V' lo2 hi2 := ⟨fun k a b => h.1 k (by omega) b, h.2⟩
theorem frF.toS {V V' : Vt} {fl d lo hi : Nat} (h : frF V V' fl d) (hf : fl = 7 ∨ fl = 10 ∨ fl = 12) (hd : lo ≤ d ∧ d ≤ hi) : frS V V' lo hi := ⟨fun k a b => h.1 k (by omega) b, fun i a b c => h.2 i (by omega)⟩
theorem cpx.toS {V V0 : Vt} {d b n lo hi : Nat} {f : Nat → Int32} (h : cpx V V0 d b n f) (hd : lo ≤ d ∧ d ≤ hi) (h5 : d ≠ 580) : frS V0 V lo hi := ⟨fun k a _ => h.2.2 k (by omega), fun i _ _ _ => by rw [h.2.2 580 (Ne.symm h5)]⟩
