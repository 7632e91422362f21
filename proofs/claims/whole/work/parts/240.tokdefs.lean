/-! TOKENS: a limit is a text and a lock (none: []); a token is a name, a sign, and limits -/
abbrev Lm : Type := List Int32 × List Int32
abbrev Tk : Type := List Int32 × List Int32 × List Lm
def lz : Lm := ([], [])
def limIs (V : Vt) (b : Nat) (L : Lm) : Prop := rowIs V (b + 1) L.1 ∧ rowIs V (b + 3) L.2
def okL (l : List Int32) : Prop := ∀ x ∈ l, 0 ≤ x
def okLm (L : Lm) : Prop := 1 ≤ L.1.length ∧ L.1.length ≤ 60 ∧ (L.2 = [] ∨ L.2.length = 32) ∧ okL L.1 ∧ okL L.2
def tokIs (V : Vt) (b : Nat) (T : Tk) : Prop := rowIs V (b + 1) T.1 ∧ rowIs V (b + 3) T.2.1 ∧ V b 3 = nI T.2.2.length ∧ ∀ i, i < T.2.2.length → limIs V (b + 6 + 5 * i) (T.2.2.getD i lz)
def okTk (T : Tk) : Prop := (1 ≤ T.1.length ∧ T.1.length ≤ 60 ∧ okL T.1) ∧ (T.2.1.length = 32 ∧ okL T.2.1) ∧ T.2.2.length ≤ 10 ∧ ∀ i, i < T.2.2.length → okLm (T.2.2.getD i lz)
/-- nothing outside lo .. hi has changed -/
def frI (V V' : Vt) (lo hi : Nat) : Prop := ∀ j, (j < lo ∨ hi < j) → V' j = V j
theorem frI.rf {V : Vt} {lo hi : Nat} : frI V V lo hi := fun _ _ => rfl
theorem frI.trans {V V' V'' : Vt} {lo hi : Nat} (h : frI V V' lo hi) (h' : frI V' V'' lo hi) : frI V V'' lo hi := fun j a => (h' j a).trans (h j a)
theorem frR.toI {V V' : Vt} {k lo hi : Nat} (h : frR V V' k) (h1 : lo ≤ k ∧ k + 1 ≤ hi) : frI V V' lo hi := fun j a => h j (by omega) (by omega)
theorem frI.wide {V V' : Vt} {lo hi lo2 hi2 : Nat} (h : frI V V' lo hi) (h1 : lo2 ≤ lo ∧ hi ≤ hi2) : frI V V' lo2 hi2 := fun j a => h j (by omega)
theorem frI.up {V V' : Vt} {lo hi : Nat} (h : frI V V' lo hi) {k : Nat} (hk : lo ≤ k ∧ k ≤ hi) (i : Nat) (x : Int32) : frI V (up2 V' k i x) lo hi := fun j a => by rw [up2_k _ _ (by omega)]; exact h j a
theorem rowIs.otherI {V V' : Vt} {lo hi k : Nat} {l : List Int32} (h : rowIs V k l) (f : frI V V' lo hi) (h1 : k + 1 < lo ∨ hi < k) : rowIs V' k l := h.keep (f k (by omega)) (f (k + 1) (by omega))
theorem limIs.otherI {V V' : Vt} {lo hi b : Nat} {L : Lm} (h : limIs V b L) (f : frI V V' lo hi) (h1 : b + 4 < lo ∨ hi < b) : limIs V' b L := ⟨h.1.otherI f (by omega), h.2.otherI f (by omega)⟩
theorem tokIs.otherI {V V' : Vt} {lo hi b : Nat} {T : Tk} (h : tokIs V b T) (hl : T.2.2.length ≤ 10) (f : frI V V' lo hi) (h1 : b + 55 < lo ∨ hi < b) : tokIs V' b T := ⟨h.1.otherI f (by omega), h.2.1.otherI f (by omega), by rw [f b (by omega)]; exact h.2.2.1, fun i hi => (h.2.2.2 i hi).otherI f (by omega)⟩
def isTok (b : Nat) : Prop := 25 ≤ b ∧ b + 55 < 610 ∧ sk b = 6 ∧ sn b = 5 ∧ sf b 0 = some (b + 1) ∧ sf b 1 = some (b + 3) ∧ sf b 2 = some (b + 5) ∧ sf b 3 = none ∧ sf b 4 = none ∧ isRow (b + 1) 60 ∧ isRow (b + 3) 32 ∧ sk (b + 5) = 11 ∧ sn (b + 5) = 10 ∧ ∀ j, j < 10 → sf (b + 5) j = some (b + 6 + 5 * j) ∧ isLim (b + 6 + 5 * j)
theorem isTok.lo {b : Nat} (h : isTok b) : 25 ≤ b := h.1
theorem isTok.hi {b : Nat} (h : isTok b) : b + 55 < 610 := h.2.1
theorem isTok.lt {b : Nat} (h : isTok b) : b < 610 := by have := h.2.1; omega
theorem isTok.k {b : Nat} (h : isTok b) : sk b = 6 := h.2.2.1
theorem isTok.n {b : Nat} (h : isTok b) : sn b = 5 := h.2.2.2.1
theorem isTok.f0 {b : Nat} (h : isTok b) : sf b 0 = some (b + 1) := h.2.2.2.2.1
theorem isTok.f1 {b : Nat} (h : isTok b) : sf b 1 = some (b + 3) := h.2.2.2.2.2.1
theorem isTok.f2 {b : Nat} (h : isTok b) : sf b 2 = some (b + 5) := h.2.2.2.2.2.2.1
theorem isTok.f3 {b : Nat} (h : isTok b) : sf b 3 = none := h.2.2.2.2.2.2.2.1
theorem isTok.f4 {b : Nat} (h : isTok b) : sf b 4 = none := h.2.2.2.2.2.2.2.2.1
theorem isTok.name {b : Nat} (h : isTok b) : isRow (b + 1) 60 := h.2.2.2.2.2.2.2.2.2.1
theorem isTok.sign {b : Nat} (h : isTok b) : isRow (b + 3) 32 := h.2.2.2.2.2.2.2.2.2.2.1
theorem isTok.k5 {b : Nat} (h : isTok b) : sk (b + 5) = 11 := h.2.2.2.2.2.2.2.2.2.2.2.1
theorem isTok.n5 {b : Nat} (h : isTok b) : sn (b + 5) = 10 := h.2.2.2.2.2.2.2.2.2.2.2.2.1
theorem isTok.lt5 {b : Nat} (h : isTok b) : b + 5 < 610 := by have := h.2.1; omega
theorem isTok.fl {b : Nat} (h : isTok b) {j : Nat} (hj : j < 10) : sf (b + 5) j = some (b + 6 + 5 * j) := (h.2.2.2.2.2.2.2.2.2.2.2.2.2 j hj).1
theorem isTok.lim {b : Nat} (h : isTok b) {j : Nat} (hj : j < 10) : isLim (b + 6 + 5 * j) := (h.2.2.2.2.2.2.2.2.2.2.2.2.2 j hj).2
set_option maxRecDepth 20000 in
theorem tk_r1 : ∀ t, t < 8 → isRow (25 + 60 * t + 1) 60 ∧ isRow (25 + 60 * t + 3) 32 := by unfold isRow; decide +kernel
set_option maxRecDepth 20000 in
theorem tk_r2 : ∀ t, t < 8 → ∀ j, j < 10 → isRow (25 + 60 * t + 6 + 5 * j + 1) 60 := by unfold isRow; decide +kernel
set_option maxRecDepth 20000 in
theorem tk_r3 : ∀ t, t < 8 → ∀ j, j < 10 → isRow (25 + 60 * t + 6 + 5 * j + 3) 32 := by unfold isRow; decide +kernel
set_option maxRecDepth 20000 in
theorem tk_l : ∀ t, t < 8 → ∀ j, j < 10 → sk (25 + 60 * t + 6 + 5 * j) = 1 ∧ sn (25 + 60 * t + 6 + 5 * j) = 2 ∧ sf (25 + 60 * t + 6 + 5 * j) 0 = some (25 + 60 * t + 6 + 5 * j + 1) ∧ sf (25 + 60 * t + 6 + 5 * j) 1 = some (25 + 60 * t + 6 + 5 * j + 3) ∧ sf (25 + 60 * t + 5) j = some (25 + 60 * t + 6 + 5 * j) := by decide +kernel
set_option maxRecDepth 20000 in
theorem tk_o : ∀ t, t < 8 → sk (25 + 60 * t) = 6 ∧ sn (25 + 60 * t) = 5 ∧ sf (25 + 60 * t) 0 = some (25 + 60 * t + 1) ∧ sf (25 + 60 * t) 1 = some (25 + 60 * t + 3) ∧ sf (25 + 60 * t) 2 = some (25 + 60 * t + 5) ∧ sf (25 + 60 * t) 3 = none ∧ sf (25 + 60 * t) 4 = none ∧ sk (25 + 60 * t + 5) = 11 ∧ sn (25 + 60 * t + 5) = 10 := by decide +kernel
theorem tk_s1 : isRow (508 + 1) 60 ∧ isRow (508 + 3) 32 := by unfold isRow; decide +kernel
theorem tk_s2 : ∀ j, j < 10 → isRow (508 + 6 + 5 * j + 1) 60 := by unfold isRow; decide +kernel
theorem tk_s3 : ∀ j, j < 10 → isRow (508 + 6 + 5 * j + 3) 32 := by unfold isRow; decide +kernel
theorem tk_sl : ∀ j, j < 10 → sk (508 + 6 + 5 * j) = 1 ∧ sn (508 + 6 + 5 * j) = 2 ∧ sf (508 + 6 + 5 * j) 0 = some (508 + 6 + 5 * j + 1) ∧ sf (508 + 6 + 5 * j) 1 = some (508 + 6 + 5 * j + 3) ∧ sf (508 + 5) j = some (508 + 6 + 5 * j) := by decide +kernel
theorem tok_t {t : Nat} (h : t < 8) : isTok (25 + 60 * t) := by
  obtain ⟨o1, o2, o3, o4, o5, o6, o7, o8, o9⟩ := tk_o t h
  exact ⟨by omega, by omega, o1, o2, o3, o4, o5, o6, o7, (tk_r1 t h).1, (tk_r1 t h).2, o8, o9, fun j hj => ⟨(tk_l t h j hj).2.2.2.2, by omega, (tk_l t h j hj).1, (tk_l t h j hj).2.1, (tk_l t h j hj).2.2.1, (tk_l t h j hj).2.2.2.1, tk_r2 t h j hj, tk_r3 t h j hj⟩⟩
theorem tok_sp : isTok 508 :=
  ⟨by decide, by decide, by decide, by decide, by decide, by decide, by decide, by decide, by decide, tk_s1.1, tk_s1.2, by decide, by decide, fun j hj => ⟨(tk_sl j hj).2.2.2.2, by omega, (tk_sl j hj).1, (tk_sl j hj).2.1, (tk_sl j hj).2.2.1, (tk_sl j hj).2.2.2.1, tk_s2 j hj, tk_s3 j hj⟩⟩
def limB (L : Lm) : List Int32 := ([2, nI L.1.length] ++ L.1) ++ ((if L.2 = [] then [] else [4, 32] ++ L.2) ++ [0])
def tokB (T : Tk) : List Int32 := (([2, 2, nI T.1.length] ++ T.1) ++ [0]) ++ T.2.2.flatMap limB ++ ([0, 6, 32] ++ T.2.1)
theorem limB_len {L : Lm} (h : okLm L) : (limB L).length ≤ 97 := by
  obtain ⟨h1, h2, h3, -, -⟩ := h
  unfold limB
  by_cases e : L.2 = []
  · simp [e]; omega
  · rcases h3 with h3 | h3
    · exact absurd h3 e
    · simp [e, h3]; omega
theorem flatB_len : ∀ (Ls : List Lm), (∀ i, i < Ls.length → okLm (Ls.getD i lz)) → (Ls.flatMap limB).length ≤ 97 * Ls.length
  | [], _ => by simp
  | L :: Ls, h => by
    have h1 := limB_len (h 0 (by simp))
    have h2 := flatB_len Ls (fun i hi => by have := h (i + 1) (by simp; omega); simpa using this)
    simp only [List.getD_cons_zero] at h1
    simp only [List.flatMap_cons, List.length_append, List.length_cons]
    omega
theorem take_flat {Ls : List Lm} {j : Nat} (hj : j < Ls.length) : (Ls.take (j + 1)).flatMap limB = (Ls.take j).flatMap limB ++ limB (Ls.getD j lz) := by
  rw [List.take_succ_eq_append_getElem hj, List.flatMap_append, List.getD_eq_getElem?_getD, List.getElem?_eq_getElem hj]
  simp
theorem getD_take {Ls : List Lm} {i j : Nat} (h : i < j) : (Ls.take j).getD i lz = Ls.getD i lz := by
  simp [List.getD_eq_getElem?_getD, List.getElem?_take, h]
theorem take_len {Ls : List Lm} {j : Nat} (hok : ∀ i, i < Ls.length → okLm (Ls.getD i lz)) (hj : j ≤ Ls.length) : ((Ls.take j).flatMap limB).length ≤ 97 * j := by
  have h := flatB_len (Ls.take j) (fun i hi => by rw [List.length_take] at hi; rw [getD_take (by omega)]; exact hok i (by omega))
  rw [List.length_take] at h
  rw [show min j Ls.length = j by omega] at h
  exact h
