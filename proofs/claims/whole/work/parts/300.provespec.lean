/-! TO PROVE a token: the walk, as a function -/
abbrev Flt : Type := Nat × Nat × Nat
abbrev WR : Type := (Flt ⊕ List Int32) × (Nat × Nat)
def zr : List Int32 := List.replicate 32 0
def clr (m h : Nat) : Nat := if m.testBit h then m - 2 ^ h else m
def cnt (m : Nat) : Nat := (List.range 8).countP (fun h => m.testBit h)
def fH (p : Nat → Bool) : Nat → Nat → Option Nat
  | 0, _ => none
  | n + 1, j => if p j then some j else fH p n (j + 1)
def wOne (q : Nat → Int32) (tk : Nat → Tk) (ps : List Int32) (rc : Nat → List Int32 → Nat × Nat → WR) (t i : Nat) (L : Lm) (s : List Int32) (σ : Nat × Nat) : WR :=
  if L.2 = [] then (if truth q L.1 = 1 then (.inr (hmac s L.1), σ) else (.inl (if truth q L.1 = -1 then 1 else 2, t, i), σ))
  else match fH (fun h => σ.1.testBit h && decide ((tk h).1 = L.1)) 8 0 with
    | none => (.inl (3, t, i), σ)
    | some h => match rc h (xorL L.2 (hmac s L.1)) (clr σ.1 h, σ.2 + 1) with
      | (.inl f, σ') => (.inl f, σ')
      | (.inr s', σ') => if hmac zr (ps ++ s') = (tk h).2.1 then (.inr (hmac s (hmac s L.2 ++ hmac s L.1)), σ') else (.inl (4, h, i), σ')
def wLims (q : Nat → Int32) (tk : Nat → Tk) (ps : List Int32) (rc : Nat → List Int32 → Nat × Nat → WR) (t : Nat) : List Lm → Nat → List Int32 → Nat × Nat → WR
  | [], _, s, σ => (.inr s, σ)
  | L :: ls, i, s, σ => match wOne q tk ps rc t i L s σ with
    | (.inl f, σ') => (.inl f, σ')
    | (.inr s', σ') => wLims q tk ps rc t ls (i + 1) s' σ'
def wk (q : Nat → Int32) (tk : Nat → Tk) (ps : List Int32) : Nat → Nat → List Int32 → Nat × Nat → WR
  | 0, _, _, σ => (.inl (0, 0, 0), σ)
  | f + 1, t, k, σ => wLims q tk ps (wk q tk ps f) t (tk t).2.2 0 (hmac k (tk t).1) σ
theorem fH_s (p : Nat → Bool) (n j : Nat) : fH p (n + 1) j = if p j then some j else fH p n (j + 1) := rfl
theorem fH_some {p : Nat → Bool} : ∀ {n j h : Nat}, fH p n j = some h → p h = true ∧ j ≤ h ∧ h < j + n := by
  intro n
  induction n with
  | zero => intro j h e; cases e
  | succ n ih =>
    intro j h e
    rw [fH_s] at e
    split at e
    · rename_i hp; cases e; exact ⟨hp, by omega, by omega⟩
    · have := ih e; exact ⟨this.1, by omega, by omega⟩
theorem fH_none {p : Nat → Bool} : ∀ {n j : Nat}, (∀ h, j ≤ h → h < j + n → p h = false) → fH p n j = none := by
  intro n
  induction n with
  | zero => intro j _; rfl
  | succ n ih =>
    intro j h
    rw [fH_s, h j (by omega) (by omega)]
    exact ih (fun h2 a b => h h2 (by omega) (by omega))
set_option maxRecDepth 20000 in
theorem bit_clr : ∀ m, m < 256 → ∀ h, h < 8 → nI m &&& (((1 : Int32) <<< (nI h &&& 31)) ^^^ (-1)) = nI (clr m h) := by decide +kernel
set_option maxRecDepth 20000 in
theorem bit_at : ∀ m, m < 256 → ∀ h, h < 8 → (nI m >>> (nI h &&& 31)) &&& 1 = (if m.testBit h then 1 else 0) := by decide +kernel
set_option maxRecDepth 20000 in
theorem clr_lt : ∀ m, m < 256 → ∀ h, h < 8 → clr m h < 256 ∧ (m.testBit h = true → cnt (clr m h) + 1 = cnt m) := by decide +kernel
set_option maxRecDepth 20000 in
theorem clr_bit : ∀ m, m < 256 → ∀ h, h < 8 → ∀ g, g < 8 → (clr m h).testBit g = (m.testBit g && decide (g ≠ h)) := by decide +kernel
set_option maxRecDepth 20000 in
theorem cnt_0 : ∀ m, m < 256 → cnt m = 0 → ∀ g, g < 8 → m.testBit g = false := by decide +kernel
set_option maxRecDepth 20000 in
theorem cnt_le : ∀ m, m < 256 → ∀ h, h < 8 → cnt m ≤ 8 ∧ cnt (clr m h) ≤ 7 := by decide +kernel
/-- the masks of a walk -/
def okW (σ σ' : Nat × Nat) : Prop := σ'.1 < 256 ∧ (∀ g, g < 8 → σ'.1.testBit g = true → σ.1.testBit g = true) ∧ cnt σ'.1 ≤ cnt σ.1 ∧ σ'.2 + cnt σ'.1 = σ.2 + cnt σ.1
theorem okW.rf {σ : Nat × Nat} (h : σ.1 < 256) : okW σ σ := ⟨h, fun _ _ h => h, Nat.le_refl _, rfl⟩
theorem okW.trans {a b c : Nat × Nat} (h : okW a b) (h' : okW b c) : okW a c := ⟨h'.1, fun g hg x => h.2.1 g hg (h'.2.1 g hg x), Nat.le_trans h'.2.2.1 h.2.2.1, h'.2.2.2.trans h.2.2.2⟩
theorem okW.one {σ : Nat × Nat} {h : Nat} (hm : σ.1 < 256) (hh : h < 8) (hb : σ.1.testBit h = true) : okW σ (clr σ.1 h, σ.2 + 1) := by
  have h1 := clr_lt σ.1 hm h hh
  refine ⟨h1.1, fun g hg x => ?_, by have := h1.2 hb; simp only; omega, by have := h1.2 hb; simp only; omega⟩
  simp only [clr_bit σ.1 hm h hh g hg, Bool.and_eq_true] at x
  exact x.1
def okR (rc : Nat → List Int32 → Nat × Nat → WR) : Prop := ∀ t k σ, σ.1 < 256 → okW σ (rc t k σ).2 ∧ ∀ s, (rc t k σ).1 = .inr s → s.length = 32
theorem wOne_ok {q : Nat → Int32} {tk : Nat → Tk} {ps : List Int32} {rc : Nat → List Int32 → Nat × Nat → WR} (hr : okR rc) (t i : Nat) (L : Lm) (s : List Int32) (σ : Nat × Nat) (hm : σ.1 < 256) : okW σ (wOne q tk ps rc t i L s σ).2 ∧ ∀ s', (wOne q tk ps rc t i L s σ).1 = .inr s' → s'.length = 32 := by
  unfold wOne
  split
  · split
    · exact ⟨okW.rf hm, fun s' h => by cases h; exact hmac_len _ _⟩
    · exact ⟨okW.rf hm, fun s' h => by cases h⟩
  · split
    · exact ⟨okW.rf hm, fun s' h => by cases h⟩
    · rename_i h hq
      obtain ⟨h1, h2, h3⟩ := fH_some hq
      simp only [Bool.and_eq_true] at h1
      have ho := okW.one hm (show h < 8 by omega) h1.1
      have hrr := hr h (xorL L.2 (hmac s L.1)) (clr σ.1 h, σ.2 + 1) ho.1
      split
      · rename_i f σ' hz
        rw [hz] at hrr
        exact ⟨ho.trans hrr.1, fun s' h => by cases h⟩
      · rename_i s2 σ' hz
        rw [hz] at hrr
        split
        · exact ⟨ho.trans hrr.1, fun s' h => by cases h; exact hmac_len _ _⟩
        · exact ⟨ho.trans hrr.1, fun s' h => by cases h⟩
theorem wLims_ok {q : Nat → Int32} {tk : Nat → Tk} {ps : List Int32} {rc : Nat → List Int32 → Nat × Nat → WR} (hr : okR rc) (t : Nat) : ∀ (ls : List Lm) (i : Nat) (s : List Int32) (σ : Nat × Nat), σ.1 < 256 → s.length = 32 → okW σ (wLims q tk ps rc t ls i s σ).2 ∧ ∀ s', (wLims q tk ps rc t ls i s σ).1 = .inr s' → s'.length = 32
  | [], i, s, σ, hm, hs => ⟨okW.rf hm, fun s' h => by cases h; exact hs⟩
  | L :: ls, i, s, σ, hm, hs => by
    have h1 := wOne_ok (q := q) (tk := tk) (ps := ps) hr t i L s σ hm
    simp only [wLims]
    split
    · rename_i f σ' hz
      rw [hz] at h1
      exact ⟨h1.1, fun s' h => by cases h⟩
    · rename_i s2 σ' hz
      rw [hz] at h1
      have h2 := wLims_ok (q := q) (tk := tk) (ps := ps) hr t ls (i + 1) s2 σ' h1.1.1 (h1.2 s2 rfl)
      exact ⟨h1.1.trans h2.1, h2.2⟩
theorem wk_ok (q : Nat → Int32) (tk : Nat → Tk) (ps : List Int32) : ∀ f, okR (wk q tk ps f) := by
  intro f
  induction f with
  | zero => intro t k σ hm; exact ⟨okW.rf hm, fun s h => by cases h⟩
  | succ f ih => intro t k σ hm; exact wLims_ok ih t _ 0 _ σ hm (hmac_len _ _)
theorem sf_3 {t : Nat} (h : t < 8) : sf 3 (nI t).toNatClampNeg = some (25 + 60 * t) := by rw [nI_clamp (by omega)]; simp [sf, fxF, h]
theorem sf_23 {t : Nat} (h : t < 8) : sf 23 (nI t).toNatClampNeg = some (81 + 60 * t) := by rw [nI_clamp (by omega)]; simp [sf, fxF, h]
theorem sf_24 {t : Nat} (h : t < 8) : sf 24 (nI t).toNatClampNeg = some (83 + 60 * t) := by rw [nI_clamp (by omega)]; simp [sf, fxF, h]
theorem sf_1 {t : Nat} (h : t < 8) : sf 1 (nI t).toNatClampNeg = some (564 + 2 * t) := by rw [nI_clamp (by omega)]; simp [sf, fxF, h]
theorem rw_S : ∀ t, t < 8 → isRow (81 + 60 * t) 32 := by unfold isRow; decide +kernel
theorem rw_K : ∀ t, t < 8 → isRow (83 + 60 * t) 32 := by unfold isRow; decide +kernel
theorem rw_R : ∀ t, t < 8 → isRow (564 + 2 * t) 100 := by unfold isRow; decide +kernel
/-- the tokens that are there, and the key of 0s -/
def tkE (V : Vt) (tk : Nat → Tk) (D : Nat → Bool) : Prop := (∀ h, h < 8 → D h = true → tokIs V (25 + 60 * h) (tk h) ∧ okTk (tk h)) ∧ rowIs V 19 zr
/-- nothing has changed but the prover, the sealer, the judge, and the rows of the depths from d on -/
def frW (V V' : Vt) (d : Nat) : Prop := ∀ j, j ≠ 2 → (j < 5 ∨ 18 < j) → j ≠ 21 → (j < 25 ∨ 505 ≤ j ∨ (j - 25) % 60 < 56 ∨ j < 81 + 60 * d) → V' j = V j
theorem frW.rf {V : Vt} {d : Nat} : frW V V d := fun _ _ _ _ _ => rfl
theorem frW.trans {V V' V'' : Vt} {d : Nat} (h : frW V V' d) (h' : frW V' V'' d) : frW V V'' d := fun j a b c e => (h' j a b c e).trans (h j a b c e)
theorem frW.wide {V V' : Vt} {d d2 : Nat} (h : frW V V' d2) (hd : d ≤ d2) : frW V V' d := fun j a b c e => h j a b c (by omega)
theorem frW.ofB {V V' : Vt} {d e : Nat} (h : frB V V' 5 18 (81 + 60 * e)) (hd : d ≤ e) (he : e < 8) : frW V V' d := fun j a b c x => h j b (by omega) (by omega)
theorem frW.ofK {V V' : Vt} {d e : Nat} (h : frB V V' 5 18 (83 + 60 * e)) (hd : d ≤ e) (he : e < 8) : frW V V' d := fun j a b c x => h j b (by omega) (by omega)
theorem frW.of2 {V V' : Vt} {d : Nat} (h : ∀ j, j ≠ 2 → V' j = V j) : frW V V' d := fun j a _ _ _ => h j a
theorem frW.of21 {V V' : Vt} {d : Nat} (h : ∀ j, j ≠ 21 → V' j = V j) : frW V V' d := fun j _ _ a _ => h j a
theorem tkE.mv {V V' : Vt} {tk : Nat → Tk} {D : Nat → Bool} {d : Nat} (h : tkE V tk D) (f : frW V V' d) : tkE V' tk D := by
  refine ⟨fun t ht hD => ?_, h.2.keep (f 19 (by decide) (by decide) (by decide) (by omega)) (f 20 (by decide) (by decide) (by decide) (by omega))⟩
  obtain ⟨h1, h2⟩ := h.1 t ht hD
  refine ⟨⟨h1.1.keep (f _ (by omega) (by omega) (by omega) (by omega)) (f _ (by omega) (by omega) (by omega) (by omega)), h1.2.1.keep (f _ (by omega) (by omega) (by omega) (by omega)) (f _ (by omega) (by omega) (by omega) (by omega)), by rw [f _ (by omega) (by omega) (by omega) (by omega)]; exact h1.2.2.1, fun i hi => ?_⟩, h2⟩
  have h3 := h1.2.2.2 i hi
  have hn := h2.2.2.1
  exact ⟨h3.1.keep (f _ (by omega) (by omega) (by omega) (by omega)) (f _ (by omega) (by omega) (by omega) (by omega)), h3.2.keep (f _ (by omega) (by omega) (by omega) (by omega)) (f _ (by omega) (by omega) (by omega) (by omega))⟩
/-- what a walk answers and leaves, the row of its depth apart -/
def wkP (x : WR) (r : Int32) (V V' : Vt) (d : Nat) : Prop := V' 2 5 = V 2 5 ∧ V' 2 6 = nI x.2.1 ∧ V' 2 10 = nI x.2.2 ∧ (∀ f, x.1 = .inl f → r = 0 ∧ V' 2 7 = nI f.1 ∧ V' 2 8 = nI f.2.1 ∧ V' 2 9 = nI f.2.2) ∧ ∀ s, x.1 = .inr s → r = 1 ∧ V' 2 7 = V 2 7 ∧ V' 2 8 = V 2 8 ∧ V' 2 9 = V 2 9 ∧ rowIs V' (81 + 60 * d) s
theorem wkP.t {x : WR} {r : Int32} {V V' : Vt} {d : Nat} (h : wkP x r V V' d) (c : r = 0) : ∃ f, x.1 = .inl f := by
  cases hx : x.1 with
  | inl f => exact ⟨f, rfl⟩
  | inr s => exact absurd ((h.2.2.2.2 s hx).1.symm.trans c) (by decide)
theorem wkP.f {x : WR} {r : Int32} {V V' : Vt} {d : Nat} (h : wkP x r V V' d) (c : ¬ r = 0) : ∃ s, x.1 = .inr s := by
  cases hx : x.1 with
  | inl f => exact absurd (h.2.2.2.1 f hx).1 c
  | inr s => exact ⟨s, rfl⟩
theorem wkP.b {x : WR} {r : Int32} {V V' : Vt} {d : Nat} (h : wkP x r V V' d) : narrow .boolean (.int r) = .int r := by
  cases hx : x.1 with
  | inl f => rw [(h.2.2.2.1 f hx).1]; rfl
  | inr s => rw [(h.2.2.2.2 s hx).1]; rfl
theorem wLims_c {q : Nat → Int32} {tk : Nat → Tk} {ps : List Int32} {rc : Nat → List Int32 → Nat × Nat → WR} {t i : Nat} {L : Lm} {ls : List Lm} {s s' : List Int32} {σ : Nat × Nat} (h : (wOne q tk ps rc t i L s σ).1 = .inr s') : wLims q tk ps rc t (L :: ls) i s σ = wLims q tk ps rc t ls (i + 1) s' (wOne q tk ps rc t i L s σ).2 := by
  simp only [wLims]
  rcases hz : wOne q tk ps rc t i L s σ with ⟨a, σ'⟩
  rw [hz] at h
  simp only at h
  subst h
  rfl
theorem wLims_e {q : Nat → Int32} {tk : Nat → Tk} {ps : List Int32} {rc : Nat → List Int32 → Nat × Nat → WR} {t i : Nat} {L : Lm} {ls : List Lm} {s : List Int32} {σ : Nat × Nat} {f : Flt} (h : (wOne q tk ps rc t i L s σ).1 = .inl f) : wLims q tk ps rc t (L :: ls) i s σ = (.inl f, (wOne q tk ps rc t i L s σ).2) := by
  simp only [wLims]
  rcases hz : wOne q tk ps rc t i L s σ with ⟨a, σ'⟩
  rw [hz] at h
  simp only at h
  subst h
  rfl
