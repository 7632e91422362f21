/-! ROWS OF BYTES: a Row object at cell k with its bytes at k + 1 -/
def isRow (k cap : Nat) : Prop := k + 1 < 610 ∧ sk k = 3 ∧ sn k = 2 ∧ sf k 0 = some (k + 1) ∧ sf k 1 = none ∧ sk (k + 1) = 9 ∧ sn (k + 1) = cap ∧ cap ≤ 1200
theorem isRow.lt {k cap : Nat} (h : isRow k cap) : k < 610 := by have := h.1; omega
theorem isRow.lt1 {k cap : Nat} (h : isRow k cap) : k + 1 < 610 := h.1
theorem isRow.k {k cap : Nat} (h : isRow k cap) : sk k = 3 := h.2.1
theorem isRow.n {k cap : Nat} (h : isRow k cap) : sn k = 2 := h.2.2.1
theorem isRow.f0 {k cap : Nat} (h : isRow k cap) : sf k 0 = some (k + 1) := h.2.2.2.1
theorem isRow.f1 {k cap : Nat} (h : isRow k cap) : sf k 1 = none := h.2.2.2.2.1
theorem isRow.ak {k cap : Nat} (h : isRow k cap) : sk (k + 1) = 9 := h.2.2.2.2.2.1
theorem isRow.an {k cap : Nat} (h : isRow k cap) : sn (k + 1) = cap := h.2.2.2.2.2.2.1
theorem isRow.cap {k cap : Nat} (h : isRow k cap) : cap ≤ 1200 := h.2.2.2.2.2.2.2
/-- the row at k holds the bytes l -/
def rowIs (V : Vt) (k : Nat) (l : List Int32) : Prop := V k 1 = nI l.length ∧ ∀ i, i < l.length → V (k + 1) i = l.getD i 0
/-- nothing has changed but the row at k -/
def frR (V V' : Vt) (k : Nat) : Prop := ∀ j, j ≠ k → j ≠ k + 1 → V' j = V j
theorem frR.rf {V : Vt} {k : Nat} : frR V V k := fun _ _ _ => rfl
theorem rowIs.keep {V V' : Vt} {k : Nat} {l : List Int32} (h : rowIs V k l) (h0 : V' k = V k) (h1 : V' (k + 1) = V (k + 1)) : rowIs V' k l := ⟨by rw [h0]; exact h.1, fun i hi => by rw [h1]; exact h.2 i hi⟩
/-- the byte at a place, or -1 -/
def bAt (l : List Int32) (i : Int32) : Int32 := if 0 ≤ i ∧ i < nI l.length then l.getD i.toNatClampNeg 0 else -1
theorem up2_s (V : Vt) (k i : Nat) (x : Int32) : up2 V k i x k i = x := by simp [up2, va_up, upd]
theorem up2_o (V : Vt) {k i j : Nat} (x : Int32) (h : j ≠ i) : up2 V k i x k j = V k j := by simp [up2, va_up, upd, h]
theorem up2_k (V : Vt) {k i j : Nat} (x : Int32) (h : j ≠ k) : up2 V k i x j = V j := by simp [up2, va_up, h]
theorem rowIs.nil (V : Vt) (k : Nat) : rowIs (up2 V k 1 0) k [] := ⟨by rw [up2_s]; rfl, fun i hi => by simp at hi⟩
theorem rowIs.push {V : Vt} {k : Nat} {l : List Int32} (h : rowIs V k l) (x : Int32) : rowIs (up2 (up2 V (k + 1) l.length x) k 1 (nI (l.length + 1))) k (l ++ [x]) := by
  refine ⟨by rw [up2_s]; simp, fun i hi => ?_⟩
  rw [up2_k _ _ (by omega)]
  by_cases e : i = l.length
  · subst e
    rw [up2_s]; simp
  · rw [up2_o _ _ e, h.2 i (by simp at hi; omega)]
    simp at hi
    simp [List.getD_eq_getElem?_getD, List.getElem?_append_left (show i < l.length by omega)]
theorem frR.up {V V' : Vt} {k : Nat} (h : frR V V' k) {j : Nat} (hj : j = k ∨ j = k + 1) (i : Nat) (x : Int32) : frR V (up2 V' j i x) k := fun a h1 h2 => by
  rw [up2_k _ _ (by rcases hj with rfl | rfl <;> omega)]
  exact h a h1 h2
theorem frR.trans {V V' V'' : Vt} {k : Nat} (h : frR V V' k) (h' : frR V' V'' k) : frR V V'' k := fun a h1 h2 => (h' a h1 h2).trans (h a h1 h2)
theorem ix_of {i : Int32} {n : Nat} (h0 : ¬ i < 0) (h1 : ¬ nI n ≤ i) (hn : n < 2 ^ 31) : ∃ j, j < n ∧ i = nI j := by
  rcases pk_ix i hn with h | h | h
  · exact absurd h h0
  · exact absurd h h1
  · exact h
theorem bAt_in {l : List Int32} {i : Int32} {j : Nat} (e : i = nI j) (hj : j < l.length) (hl : l.length < 2 ^ 31) : bAt l i = l.getD j 0 := by
  subst e
  unfold bAt
  rw [if_pos ⟨nI_pos' (by omega), nI_lt hj hl⟩, nI_clamp (by omega)]
theorem bAt_neg {l : List Int32} {i : Int32} (h : i < 0) : bAt l i = -1 := by
  unfold bAt
  rw [if_neg (fun q => by grind)]
theorem bAt_big {l : List Int32} {i : Int32} (h : nI l.length ≤ i) : bAt l i = -1 := by
  unfold bAt
  rw [if_neg (fun q => by grind)]
theorem row_push {V V1 V2 : Vt} {k : Nat} {l : List Int32} {x : Int32} (h : rowIs V k l) (hl : l.length < 2 ^ 31) (e1 : up2 V (k + 1) (nI l.length).toNatClampNeg x = V1) (e2 : up2 V1 k 1 (nI l.length + 1) = V2) : rowIs V2 k (l ++ [x]) ∧ frR V V2 k := by
  subst e1; subst e2
  rw [nI_clamp hl, nI_1]
  exact ⟨h.push x, (frR.rf.up (Or.inr rfl) _ _).up (Or.inl rfl) _ _⟩
theorem row_upL {V V1 : Vt} {k : Nat} {l : List Int32} {n : Nat} (hV : ∀ i, i < n → V (k + 1) i = l.getD i 0) {x : Int32} {j : Int32} (hj : j = nI n) (hn : n < 2 ^ 31) (hx : l.getD n 0 = x) (e1 : up2 V (k + 1) j.toNatClampNeg x = V1) : (∀ i, i < n + 1 → V1 (k + 1) i = l.getD i 0) ∧ frR V V1 k := by
  subst e1; subst hj
  rw [nI_clamp hn]
  refine ⟨fun i hi => ?_, frR.rf.up (Or.inr rfl) _ _⟩
  by_cases e : i = n
  · subst e; rw [up2_s, hx]
  · rw [up2_o _ _ e]; exact hV i (by omega)
/-- the four bytes of a word, as the rows have them -/
def w4 (w : Int32) : List Int32 := [(w.toUInt32 >>> ((24 : Int32).toUInt32 &&& Int32.toUInt32 31)).toInt32, (w.toUInt32 >>> ((16 : Int32).toUInt32 &&& Int32.toUInt32 31)).toInt32 &&& 255, (w.toUInt32 >>> ((8 : Int32).toUInt32 &&& Int32.toUInt32 31)).toInt32 &&& 255, w &&& 255]
theorem gd_app {l m : List Int32} {i : Nat} (h : i < l.length) : (l ++ m).getD i 0 = l.getD i 0 := by
  simp [List.getD_eq_getElem?_getD, List.getElem?_append_left h]
theorem gd_app2 {l m : List Int32} {i : Nat} : (l ++ m).getD (l.length + i) 0 = m.getD i 0 := by
  rw [List.getD_eq_getElem?_getD, List.getElem?_append_right (by omega), List.getD_eq_getElem?_getD]
  simp
theorem row_word {V V1 V2 V3 V4 V5 : Vt} {k : Nat} {l : List Int32} {w : Int32} {x0 x1 x2 x3 : Int32} (hw : w4 w = [x0, x1, x2, x3]) (h : rowIs V k l) (hl : l.length < 2 ^ 30) (e1 : up2 V (k + 1) (nI l.length).toNatClampNeg x0 = V1) (e2 : up2 V1 (k + 1) (nI l.length + 1).toNatClampNeg x1 = V2) (e3 : up2 V2 (k + 1) (nI l.length + 2).toNatClampNeg x2 = V3) (e4 : up2 V3 (k + 1) (nI l.length + 3).toNatClampNeg x3 = V4) (e5 : up2 V4 k 1 (nI l.length + 4) = V5) : rowIs V5 k (l ++ w4 w) ∧ frR V V5 k := by
  have n2 : nI l.length + 2 = nI (l.length + 2) := nI_add _ 2
  have n3 : nI l.length + 3 = nI (l.length + 3) := nI_add _ 3
  have n4 : nI l.length + 4 = nI (l.length + 4) := nI_add _ 4
  obtain ⟨h1, f1⟩ := row_upL (l := l ++ w4 w) (n := l.length) (fun i hi => by rw [gd_app hi]; exact h.2 i hi) rfl (by omega) (by have := gd_app2 (l := l) (m := w4 w) (i := 0); rw [Nat.add_zero] at this; rw [this, hw]; rfl) e1
  obtain ⟨h2, f2⟩ := row_upL (l := l ++ w4 w) (n := l.length + 1) h1 (nI_1 _) (by omega) (by rw [gd_app2, hw]; rfl) e2
  obtain ⟨h3, f3⟩ := row_upL (l := l ++ w4 w) (n := l.length + 2) h2 n2 (by omega) (by rw [gd_app2, hw]; rfl) e3
  obtain ⟨h4, f4⟩ := row_upL (l := l ++ w4 w) (n := l.length + 3) h3 n3 (by omega) (by rw [gd_app2, hw]; rfl) e4
  subst e5
  have hlen : (l ++ w4 w).length = l.length + 4 := by rw [hw]; simp
  refine ⟨⟨by rw [up2_s, hlen, n4], fun i hi => ?_⟩, ((f1.trans f2).trans (f3.trans f4)).up (Or.inl rfl) _ _⟩
  rw [up2_k _ _ (by omega)]
  exact h4 i (by omega)
theorem row_cpy {V V1 V2 : Vt} {k k2 a n : Nat} {l l2 : List Int32} (h : rowIs V k l) (h2 : rowIs V k2 l2) (ha : a + n ≤ l2.length) (e1 : va_up V (k + 1) (va_cpy (V (k2 + 1)) (V (k + 1)) a l.length n) = V1) (e2 : up2 V1 k 1 (nI (l.length + n)) = V2) : rowIs V2 k (l ++ (l2.drop a).take n) ∧ frR V V2 k := by
  subst e1; subst e2
  have hlen : (l ++ (l2.drop a).take n).length = l.length + n := by simp; omega
  refine ⟨⟨by rw [up2_s, hlen], fun i hi => ?_⟩, fun j h1 h2 => by rw [up2_k _ _ h1]; simp [va_up, h2]⟩
  rw [up2_k _ _ (by omega)]
  rw [hlen] at hi
  simp only [va_up, if_true]
  by_cases e : i < l.length
  · rw [gd_app e, pk_cpy_out (Or.inl e)]
    exact h.2 i e
  · obtain ⟨j, rfl⟩ : ∃ j, i = l.length + j := ⟨i - l.length, by omega⟩
    rw [gd_app2, pk_cpy_in (by omega) (by omega), h2.2 _ (by omega)]
    have hj : j < n := by omega
    simp [List.getD_eq_getElem?_getD, List.getElem?_take, hj, show l.length + j - l.length = j by omega]
theorem row_ext {V : Vt} {k : Nat} {l m : List Int32} (hlen : l.length = m.length) (hl : rowIs V k l) (hm : ∀ i, i < m.length → V (k + 1) i = m.getD i 0) : l = m := by
  apply List.ext_getElem? 
  intro i
  by_cases hi : i < l.length
  · have h1 := hl.2 i hi
    have h2 := hm i (by omega)
    rw [h1] at h2
    rw [List.getD_eq_getElem?_getD, List.getD_eq_getElem?_getD] at h2
    rw [List.getElem?_eq_getElem hi, List.getElem?_eq_getElem (show i < m.length by omega)] at h2 ⊢
    simpa using h2
  · rw [List.getElem?_eq_none (by omega), List.getElem?_eq_none (by omega)]
theorem row_set {V V1 : Vt} {k j : Nat} {l : List Int32} {y : Int32} (h : rowIs V k l) (hj : j < l.length) (e1 : up2 V (k + 1) j y = V1) : rowIs V1 k (l.set j y) ∧ frR V V1 k := by
  subst e1
  refine ⟨⟨by rw [up2_k _ _ (by omega), List.length_set]; exact h.1, fun i hi => ?_⟩, frR.rf.up (Or.inr rfl) _ _⟩
  rw [List.length_set] at hi
  by_cases e : i = j
  · subst e; rw [up2_s]; simp [List.getD_eq_getElem?_getD, hi]
  · rw [up2_o _ _ e, h.2 i hi]; simp [List.getD_eq_getElem?_getD, List.getElem?_set, Ne.symm e]
theorem nI_lei {a b : Nat} {x : Int32} (e : x = nI b) (h : nI a ≤ x) (ha : a < 2 ^ 31) (hb : b < 2 ^ 31) : a ≤ b := by
  subst e; exact (nI_leI ha hb).mp h
theorem nI_ltn {a b : Nat} {x : Int32} (e : x = nI b) (h : ¬ nI a ≤ x) (ha : a < 2 ^ 31) (hb : b < 2 ^ 31) : b < a := by
  subst e; exact Nat.not_le.mp (fun q => h ((nI_leI ha hb).mpr q))
