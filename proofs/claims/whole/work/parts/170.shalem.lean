/-! for the sealer's walk -/
theorem rt_6 (x : Int32) : (x.toUInt32 >>> ((6 : Int32).toUInt32 &&& Int32.toUInt32 31)).toInt32 ||| x <<< ((26 : Int32) &&& 31) = rt x 6 := rfl
theorem rt_11 (x : Int32) : (x.toUInt32 >>> ((11 : Int32).toUInt32 &&& Int32.toUInt32 31)).toInt32 ||| x <<< ((21 : Int32) &&& 31) = rt x 11 := rfl
theorem rt_25 (x : Int32) : (x.toUInt32 >>> ((25 : Int32).toUInt32 &&& Int32.toUInt32 31)).toInt32 ||| x <<< ((7 : Int32) &&& 31) = rt x 25 := rfl
theorem rt_2 (x : Int32) : (x.toUInt32 >>> ((2 : Int32).toUInt32 &&& Int32.toUInt32 31)).toInt32 ||| x <<< ((30 : Int32) &&& 31) = rt x 2 := rfl
theorem rt_13 (x : Int32) : (x.toUInt32 >>> ((13 : Int32).toUInt32 &&& Int32.toUInt32 31)).toInt32 ||| x <<< ((19 : Int32) &&& 31) = rt x 13 := rfl
theorem rt_22 (x : Int32) : (x.toUInt32 >>> ((22 : Int32).toUInt32 &&& Int32.toUInt32 31)).toInt32 ||| x <<< ((10 : Int32) &&& 31) = rt x 22 := rfl
theorem rt_7 (x : Int32) : (x.toUInt32 >>> ((7 : Int32).toUInt32 &&& Int32.toUInt32 31)).toInt32 ||| x <<< ((25 : Int32) &&& 31) = rt x 7 := rfl
theorem rt_18 (x : Int32) : (x.toUInt32 >>> ((18 : Int32).toUInt32 &&& Int32.toUInt32 31)).toInt32 ||| x <<< ((14 : Int32) &&& 31) = rt x 18 := rfl
theorem rt_17 (x : Int32) : (x.toUInt32 >>> ((17 : Int32).toUInt32 &&& Int32.toUInt32 31)).toInt32 ||| x <<< ((15 : Int32) &&& 31) = rt x 17 := rfl
theorem rt_19 (x : Int32) : (x.toUInt32 >>> ((19 : Int32).toUInt32 &&& Int32.toUInt32 31)).toInt32 ||| x <<< ((13 : Int32) &&& 31) = rt x 19 := rfl
theorem map_take_s {l : List Int32} {f : Int32 → Int32} {j : Nat} (h : j < l.length) : (l.take (j + 1)).map f = (l.take j).map f ++ [f (l.getD j 0)] := by
  rw [List.take_succ_eq_append_getElem h, List.map_append, List.getD_eq_getElem?_getD, List.getElem?_eq_getElem h]
  rfl
theorem rw7 : isRow 7 256 := by unfold isRow; decide
theorem rw9 : isRow 9 64 := by unfold isRow; decide
theorem rw11 : isRow 11 32 := by unfold isRow; decide
theorem rw13 : isRow 13 64 := by unfold isRow; decide
theorem rw15 : isRow 15 32 := by unfold isRow; decide
theorem rw17 : isRow 17 32 := by unfold isRow; decide
theorem rw19 : isRow 19 32 := by unfold isRow; decide
theorem rw506 : isRow 506 1200 := by unfold isRow; decide
theorem row_low : ∀ k, k < 27 → sk k = 3 → k = 7 ∨ k = 9 ∨ k = 11 ∨ k = 13 ∨ k = 15 ∨ k = 17 ∨ k = 19 ∨ k = 26 := by decide
theorem isRow.where {k cap : Nat} (h : isRow k cap) : k = 7 ∨ k = 9 ∨ k = 11 ∨ k = 13 ∨ k = 15 ∨ k = 17 ∨ k = 19 ∨ 26 ≤ k := by
  by_cases hk : k < 27
  · have := row_low k hk h.k; omega
  · omega
/-- nothing outside lo .. hi and the row at k has changed -/
def frB (V V' : Vt) (lo hi k : Nat) : Prop := ∀ j, (j < lo ∨ hi < j) → j ≠ k → j ≠ k + 1 → V' j = V j
theorem frR.toB {V V' : Vt} {k lo hi k2 : Nat} (h : frR V V' k) (hk : lo ≤ k ∧ k + 1 ≤ hi) : frB V V' lo hi k2 := fun j h1 _ _ => h j (by omega) (by omega)
theorem frR.toK {V V' : Vt} {k lo hi : Nat} (h : frR V V' k) : frB V V' lo hi k := fun j _ h2 h3 => h j h2 h3
theorem frB.trans {V V' V'' : Vt} {lo hi k : Nat} (h : frB V V' lo hi k) (h' : frB V' V'' lo hi k) : frB V V'' lo hi k := fun j a b c => (h' j a b c).trans (h j a b c)
theorem frB.wide {V V' : Vt} {lo hi lo2 hi2 k k2 : Nat} (h : frB V V' lo hi k) (h1 : lo2 ≤ lo ∧ hi ≤ hi2) (h2 : k = k2 ∨ (lo2 ≤ k ∧ k + 1 ≤ hi2)) : frB V V' lo2 hi2 k2 := fun j a b c => h j (by omega) (by omega) (by omega)
/-- a row that lies elsewhere is as it was -/
theorem rowIs.other {V V' : Vt} {lo hi k k2 : Nat} {l : List Int32} (h : rowIs V k2 l) (f : frB V V' lo hi k) (h1 : k2 + 1 < lo ∨ hi < k2) (h2 : k2 ≠ k) (h3 : k2 ≠ k + 1) (h4 : k2 + 1 ≠ k) : rowIs V' k2 l := h.keep (f k2 (by omega) h2 h3) (f (k2 + 1) (by omega) h4 (by omega))
theorem rowIs.otherR {V V' : Vt} {k k2 : Nat} {l : List Int32} (h : rowIs V k2 l) (f : frR V V' k) (h2 : k2 ≠ k) (h3 : k2 ≠ k + 1) (h4 : k2 + 1 ≠ k) : rowIs V' k2 l := h.keep (f k2 h2 h3) (f (k2 + 1) h4 (by omega))
theorem mix_end {V V1 V2 V3 V4 V5 V6 V7 V8 : Vt} {a1 a2 a3 a4 a5 a6 a7 a8 : Int32} (h1 : up2 V 5 0 (V 5 0 + a1) = V1) (h2 : up2 V1 5 1 (V1 5 1 + a2) = V2) (h3 : up2 V2 5 2 (V2 5 2 + a3) = V3) (h4 : up2 V3 5 3 (V3 5 3 + a4) = V4) (h5 : up2 V4 5 4 (V4 5 4 + a5) = V5) (h6 : up2 V5 5 5 (V5 5 5 + a6) = V6) (h7 : up2 V6 5 6 (V6 5 6 + a7) = V7) (h8 : up2 V7 5 7 (V7 5 7 + a8) = V8) {g : Nat → Int32}
    (e1 : a1 = g 0) (e2 : a2 = g 1) (e3 : a3 = g 2) (e4 : a4 = g 3) (e5 : a5 = g 4) (e6 : a6 = g 5) (e7 : a7 = g 6) (e8 : a8 = g 7) : (∀ i, i < 8 → V8 5 i = V 5 i + g i) ∧ ∀ j, j ≠ 5 → V8 j = V j := by
  subst h1 h2 h3 h4 h5 h6 h7 h8
  refine ⟨fun i hi => ?_, fun j hj => ?_⟩
  · rcases (show i = 0 ∨ i = 1 ∨ i = 2 ∨ i = 3 ∨ i = 4 ∨ i = 5 ∨ i = 6 ∨ i = 7 by omega) with rfl | rfl | rfl | rfl | rfl | rfl | rfl | rfl <;> simp [up2, va_up, upd, *]
  · simp [up2, va_up, hj]
theorem nI_mul4 (a j : Nat) : nI a + 4 * nI j = nI (a + 4 * j) := by
  rw [show (4 : Int32) = nI 4 from rfl, pk_mul, nI_add]
theorem nI_sub' {a b : Nat} {x : Int32} (e : x = nI a) (b' : Int32) (hb : b' = nI b) (h : b ≤ a) : x - b' = nI (a - b) := by
  subst e; subst hb; exact pk_sub h
