-- needs: 430 450 451 456 460 462 464 466
/-! THE MODEL'S WALK: a pile of frames, and what the whole walk answers from there -/
abbrev WF : Type := Nat × Nat × List Int32
section MACH
variable (q : Nat → Int32) (tk : Nat → Tk) (ps : List Int32)
def wL (n t i : Nat) (s : List Int32) (w : Nat × Nat) : WR := wLims q tk ps (wk q tk ps (7 - n)) t ((tk t).2.2.drop i) i s w
def wK : List WF → Nat → WR → WR
  | [], _, x => x
  | g :: st, h, x => match x with
    | (.inl f, w) => (.inl f, w)
    | (.inr s', w) => if hmac zr (ps ++ s') = (tk h).2.1 then wK st g.1 (wL q tk ps st.length g.1 (g.2.1 + 1) (goOnL g.2.2 ((tk g.1).2.2.getD g.2.1 lz)) w) else (.inl (4, h, g.2.1), w)
def tot (st : List WF) (w : Nat × Nat) : WR := match st with
  | [] => (.inl (0, 0, 0), w)
  | g :: st => wK q tk ps st g.1 (wL q tk ps st.length g.1 g.2.1 g.2.2 w)
end MACH
theorem drop_lz {ls : List Lm} {i : Nat} (h : i < ls.length) : ls.drop i = ls.getD i lz :: ls.drop (i + 1) := by
  rw [List.drop_eq_getElem_cons h, List.getD_eq_getElem?_getD, List.getElem?_eq_getElem h]; rfl
section MACH2
variable {q : Nat → Int32} {tk : Nat → Tk} {ps : List Int32} {st : List WF} {t i : Nat} {s : List Int32} {w : Nat × Nat}
theorem wK_inl {h : Nat} {f : Flt} : wK q tk ps st h (.inl f, w) = (.inl f, w) := by cases st <;> rfl
theorem wL_s (hi : i < (tk t).2.2.length) {n : Nat} : wL q tk ps n t i s w = wLims q tk ps (wk q tk ps (7 - n)) t ((tk t).2.2.getD i lz :: (tk t).2.2.drop (i + 1)) i s w := by unfold wL; rw [drop_lz hi]
theorem tot_own (hi : i < (tk t).2.2.length) (h0 : ((tk t).2.2.getD i lz).2 = []) (ht : truth q ((tk t).2.2.getD i lz).1 = 1) : tot q tk ps ((t, i, s) :: st) w = tot q tk ps ((t, i + 1, goOnL s ((tk t).2.2.getD i lz)) :: st) w := by
  show wK q tk ps st t (wL q tk ps st.length t i s w) = wK q tk ps st t (wL q tk ps st.length t (i + 1) _ w)
  have h1 : wOne q tk ps (wk q tk ps (7 - st.length)) t i ((tk t).2.2.getD i lz) s w = (.inr (hmac s ((tk t).2.2.getD i lz).1), w) := by unfold wOne; rw [if_pos h0, if_pos ht]
  rw [wL_s hi, wLims_c (by rw [h1]), h1, goOnL, if_pos h0]
  rfl
theorem tot_12 (hi : i < (tk t).2.2.length) (h0 : ((tk t).2.2.getD i lz).2 = []) (ht : ¬ truth q ((tk t).2.2.getD i lz).1 = 1) : tot q tk ps ((t, i, s) :: st) w = (.inl (if truth q ((tk t).2.2.getD i lz).1 = -1 then 1 else 2, t, i), w) := by
  show wK q tk ps st t (wL q tk ps st.length t i s w) = _
  have h1 : wOne q tk ps (wk q tk ps (7 - st.length)) t i ((tk t).2.2.getD i lz) s w = (.inl (if truth q ((tk t).2.2.getD i lz).1 = -1 then 1 else 2, t, i), w) := by unfold wOne; rw [if_pos h0, if_neg ht]
  rw [wL_s hi, wLims_e (by rw [h1]), h1, wK_inl]
theorem tot_3 (hi : i < (tk t).2.2.length) (h0 : ¬ ((tk t).2.2.getD i lz).2 = []) (hf : fH (fun h => w.1.testBit h && decide ((tk h).1 = ((tk t).2.2.getD i lz).1)) 8 0 = none) : tot q tk ps ((t, i, s) :: st) w = (.inl (3, t, i), w) := by
  show wK q tk ps st t (wL q tk ps st.length t i s w) = _
  have h1 := wOne_3 (q := q) (ps := ps) (rc := wk q tk ps (7 - st.length)) (t := t) (i := i) (s := s) h0 hf
  rw [wL_s hi, wLims_e (by rw [h1]), h1, wK_inl]
theorem tot_push {h : Nat} (hi : i < (tk t).2.2.length) (h0 : ¬ ((tk t).2.2.getD i lz).2 = []) (hf : fH (fun h => w.1.testBit h && decide ((tk h).1 = ((tk t).2.2.getD i lz).1)) 8 0 = some h) (hl : st.length < 7) : tot q tk ps ((h, 0, hmac (xorL ((tk t).2.2.getD i lz).2 (hmac s ((tk t).2.2.getD i lz).1)) (tk h).1) :: (t, i, s) :: st) (clr w.1 h, w.2 + 1) = tot q tk ps ((t, i, s) :: st) w := by
  show wK q tk ps ((t, i, s) :: st) h (wL q tk ps (st.length + 1) h 0 _ _) = wK q tk ps st t (wL q tk ps st.length t i s w)
  have e : wL q tk ps (st.length + 1) h 0 (hmac (xorL ((tk t).2.2.getD i lz).2 (hmac s ((tk t).2.2.getD i lz).1)) (tk h).1) (clr w.1 h, w.2 + 1) = wk q tk ps (7 - st.length) h (xorL ((tk t).2.2.getD i lz).2 (hmac s ((tk t).2.2.getD i lz).1)) (clr w.1 h, w.2 + 1) := by
    rw [show 7 - st.length = 7 - (st.length + 1) + 1 by omega]; rfl
  rw [e, wL_s hi]
  rcases hz : (wk q tk ps (7 - st.length) h (xorL ((tk t).2.2.getD i lz).2 (hmac s ((tk t).2.2.getD i lz).1)) (clr w.1 h, w.2 + 1)).1 with f | s'
  · have h1 := wOne_r (q := q) (ps := ps) (t := t) (i := i) (s := s) h0 hf hz
    rw [wLims_e (by rw [h1]), h1, wK_inl, ← hz]
    show wK q tk ps ((t, i, s) :: st) h _ = _
    rcases hy : wk q tk ps (7 - st.length) h (xorL ((tk t).2.2.getD i lz).2 (hmac s ((tk t).2.2.getD i lz).1)) (clr w.1 h, w.2 + 1) with ⟨a, b⟩
    rw [hy] at hz; simp only at hz; subst hz; rfl
  · rcases hy : wk q tk ps (7 - st.length) h (xorL ((tk t).2.2.getD i lz).2 (hmac s ((tk t).2.2.getD i lz).1)) (clr w.1 h, w.2 + 1) with ⟨a, b⟩
    by_cases hh : hmac zr (ps ++ s') = (tk h).2.1
    · have h1 := wOne_5 (q := q) (ps := ps) (t := t) (i := i) (s := s) h0 hf hz hh
      rw [wLims_c (by rw [h1]), h1, hy]
      rw [hy] at hz; simp only at hz; subst hz
      show (if hmac zr (ps ++ s') = (tk h).2.1 then _ else _) = _
      rw [if_pos hh, goOnL, if_neg h0]
      rfl
    · have h1 := wOne_4 (q := q) (ps := ps) (t := t) (i := i) (s := s) h0 hf hz hh
      rw [wLims_e (by rw [h1]), h1, hy, wK_inl]
      rw [hy] at hz; simp only at hz; subst hz
      show (if hmac zr (ps ++ s') = (tk h).2.1 then _ else _) = _
      rw [if_neg hh]
theorem tot_end (hi : i = (tk t).2.2.length) : tot q tk ps [(t, i, s)] w = (.inr s, w) := by
  subst hi
  show wLims q tk ps _ t ((tk t).2.2.drop (tk t).2.2.length) _ s w = _
  rw [List.drop_length]; rfl
theorem tot_pop {t' i' : Nat} {s' : List Int32} (hi : i = (tk t).2.2.length) : tot q tk ps ((t, i, s) :: (t', i', s') :: st) w = if hmac zr (ps ++ s) = (tk t).2.1 then tot q tk ps ((t', i' + 1, goOnL s' ((tk t').2.2.getD i' lz)) :: st) w else (.inl (4, t, i'), w) := by
  subst hi
  show wK q tk ps ((t', i', s') :: st) t (wLims q tk ps _ t ((tk t).2.2.drop (tk t).2.2.length) _ s w) = _
  rw [List.drop_length]; rfl
theorem tot_start (k : List Int32) : wk q tk ps 8 t k w = tot q tk ps [(t, 0, hmac k (tk t).1)] w := rfl
end MACH2
/-- the pile of frames in the model's cells -/
def stkM (V : Vt) (σ : St) : Bool → List WF → Prop
  | _, [] => True
  | b, g :: st => (V 606 st.length = nI g.1 ∧ V 607 st.length = nI g.2.1 ∧ seg V 608 (32 * st.length) g.2.2 ∧ g.2.2.length = 32) ∧ (g.1 < 8 ∧ ∃ T, σ.2.1 g.1 = some T ∧ g.2.1 ≤ T.2.2.length ∧ (b = true → g.2.1 < T.2.2.length ∧ ¬ (T.2.2.getD g.2.1 lz).2 = [])) ∧ stkM V σ true st
theorem stkM.fr {V V' : Vt} {σ : St} : ∀ {st : List WF} {b : Bool}, stkM V σ b st → (∀ k, k < st.length → V' 606 k = V 606 k) → (∀ k, k < st.length → V' 607 k = V 607 k) → (∀ k, k < 32 * st.length → V' 608 k = V 608 k) → stkM V' σ b st
  | [], _, _, _, _, _ => trivial
  | g :: st, b, h, e6, e7, e8 => by
    obtain ⟨⟨h1, h2, h3, h4⟩, h5, h6⟩ := h
    simp only [List.length_cons] at e6 e7 e8
    exact ⟨⟨(e6 _ (by omega)).trans h1, (e7 _ (by omega)).trans h2, h3.fn (fun k a c => e8 k (by omega)), h4⟩, h5, stkM.fr h6 (fun k a => e6 k (by omega)) (fun k a => e7 k (by omega)) (fun k a => e8 k (by omega))⟩
theorem tkf_s {σ : St} {t : Nat} {T : Tk} (h : σ.2.1 t = some T) : tkf σ t = T := by unfold tkf; rw [h]; rfl
def wM (V : Vt) (σ : St) (st : List WF) (m bg : Nat) : Prop := repM V (sFlt σ (-1, -1, nI bg)) ∧ V 580 36 = 1 ∧ V 580 31 = nI st.length ∧ stkM V σ false st ∧ (m < 256 ∧ cnt m + st.length ≤ 8) ∧ (∀ h, h < 8 → V 609 h = b2i (!m.testBit h)) ∧ ∀ h, h < 8 → m.testBit h = true → ∃ T, σ.2.1 h = some T
def fin (σ : St) (t : Nat) (T : Tk) (x : WR) : Int32 × St := match x with
  | (.inl f, s) => (-10 - nI f.1, sFlt σ (nI f.2.1, nI f.2.2, nI s.2))
  | (.inr g, s) => if g = T.2.1 then (0, sFlt σ (-1, -1, nI s.2)) else (-15, sFlt σ (nI t, nI T.2.2.length, nI s.2))
def muS (σ : St) : List WF → Nat
  | [] => 0
  | g :: st => ((tkf σ g.1).2.2.length - g.2.1 + 1) + muS σ st
abbrev totS (σ : St) (T : Tk) (st : List WF) (m bg : Nat) : WR := tot σ.2.2.2.1 (tkf σ) T.2.1 st (m, bg)
/-- a step of the walk: its end, or a smaller walk to go on with -/
def wPost (σ : St) (t : Nat) (T : Tk) (st : List WF) (m bg : Nat) (V : Vt) (v : Int32) (V' : Vt) : Prop :=
  (v = (fin σ t T (totS σ T st m bg)).1 ∧ repM V' (fin σ t T (totS σ T st m bg)).2 ∧ frC V V' ∧ (v = 0 → V' 580 31 = 0)) ∨
  (v = 0 ∧ ∃ st' m' bg', wM V' σ st' m' bg' ∧ 0 < st'.length ∧ totS σ T st' m' bg' = totS σ T st m bg ∧ 12 * cnt m' + muS σ st' < 12 * cnt m + muS σ st ∧ frC V V')
/-- the top frame goes on -/
theorem wM.step {V V2 : Vt} {σ : St} {t i : Nat} {s s' : List Int32} {st : List WF} {m bg : Nat} {b : Bool} (hC : repM V (sFlt σ (-1, -1, nI bg))) (h36 : V 580 36 = 1) (hst : stkM V σ b ((t, i, s) :: st)) {T : Tk} (hT : σ.2.1 t = some T) (hi : i < T.2.2.length) (hm : m < 256 ∧ cnt m + (st.length + 1) ≤ 8) (hw : ∀ h, h < 8 → V 609 h = b2i (!m.testBit h)) (hw2 : ∀ h, h < 8 → m.testBit h = true → ∃ T, σ.2.1 h = some T)
    (e31 : V2 580 31 = nI (st.length + 1)) (e8 : seg V2 608 (32 * st.length) s') (hs' : s'.length = 32) (e7 : V2 607 st.length = nI (i + 1)) (f6 : V2 606 = V 606) (f7 : ∀ k, k ≠ st.length → V2 607 k = V 607 k) (f8 : ∀ x, x < 32 * st.length → V2 608 x = V 608 x) (fp : pFr V V2) (f9 : V2 609 = V 609) : wM V2 σ ((t, i + 1, s') :: st) m bg := by
  obtain ⟨⟨h1, h2, h3, h4⟩, ⟨h5, -⟩, h6⟩ := hst
  exact ⟨hC.fr fp, by rw [fp.2 36 (by omega)]; exact h36, e31, ⟨⟨by rw [f6]; exact h1, e7, e8, hs'⟩, ⟨h5, T, hT, hi, fun q => by cases q⟩, h6.fr (fun k _ => by rw [f6]) (fun k a => f7 k (by omega)) f8⟩, hm, fun h q => by rw [f9]; exact hw h q, hw2⟩
/-- a new frame -/
theorem wM.push {V V2 : Vt} {σ : St} {h : Nat} {s' : List Int32} {st : List WF} {m m' bg bg' : Nat} (hC : repM V (sFlt σ (-1, -1, nI bg))) (h36 : V 580 36 = 1) (hst : stkM V σ true st) (hh : h < 8) {T : Tk} (hT : σ.2.1 h = some T) (hm : m' < 256 ∧ cnt m' + (st.length + 1) ≤ 8) (hw : ∀ h, h < 8 → V2 609 h = b2i (!m'.testBit h)) (hw2 : ∀ h, h < 8 → m'.testBit h = true → ∃ T, σ.2.1 h = some T)
    (e31 : V2 580 31 = nI (st.length + 1)) (e8 : seg V2 608 (32 * st.length) s') (hs' : s'.length = 32) (e6 : V2 606 st.length = nI h) (e7 : V2 607 st.length = 0) (f6 : ∀ k, k ≠ st.length → V2 606 k = V 606 k) (f7 : ∀ k, k ≠ st.length → V2 607 k = V 607 k) (f8 : ∀ x, x < 32 * st.length → V2 608 x = V 608 x) (fk : ∀ k, (k = 581 ∨ k = 582 ∨ (592 ≤ k ∧ k ≤ 605)) → V2 k = V k) (ff : ∀ i, (i = 19 ∨ i = 20 ∨ (36 ≤ i ∧ i ≤ 38)) → V2 580 i = V 580 i) (e39 : V2 580 39 = nI bg') : wM V2 σ ((h, 0, s') :: st) m' bg' := by
  obtain ⟨ho, h1, h2, h3, h4, h5, h6, h7⟩ := hC
  refine ⟨⟨ho, h1.fr (fk 581 (by omega)) (fk 582 (by omega)) (fk 592 (by omega)), h2.fr (fk 593 (by omega)) (fk 594 (by omega)), h3.fr ho.2.1 (fun k a b => fk k (by omega)), h4.keep (ff 19 (by omega)) (fk 595 (by omega)), h5.fr (fk 605 (by omega)), ?_, by rw [ff 20 (by omega)]; exact h7⟩, by rw [ff 36 (by omega)]; exact h36, e31, ⟨⟨e6, e7, e8, hs'⟩, ⟨hh, T, hT, Nat.zero_le _, fun q => by cases q⟩, hst.fr (fun k a => f6 k (by omega)) (fun k a => f7 k (by omega)) f8⟩, hm, hw, hw2⟩
  rcases h6 with ⟨a, -⟩ | ⟨a, b, c, -⟩
  · rw [h36] at a; exact absurd a (by decide)
  · exact Or.inr ⟨by rw [ff 36 (by omega)]; exact a, by rw [ff 37 (by omega)]; exact b, by rw [ff 38 (by omega)]; exact c, e39⟩
/-- what fault() tells -/
theorem repM.flt {V V2 : Vt} {σ : St} {f g : Int32 × Int32 × Int32} (hC : repM V (sFlt σ g)) (fk : ∀ k, (k = 581 ∨ k = 582 ∨ (592 ≤ k ∧ k ≤ 605)) → V2 k = V k) (ff : ∀ i, (i = 19 ∨ i = 20) → V2 580 i = V 580 i) (e36 : V2 580 36 = 1) (e37 : V2 580 37 = f.1) (e38 : V2 580 38 = f.2.1) (e39 : V2 580 39 = f.2.2) : repM V2 (sFlt σ f) := by
  obtain ⟨ho, h1, h2, h3, h4, h5, h6, h7⟩ := hC
  exact ⟨ho, h1.fr (fk 581 (by omega)) (fk 582 (by omega)) (fk 592 (by omega)), h2.fr (fk 593 (by omega)) (fk 594 (by omega)), h3.fr ho.2.1 (fun k a b => fk k (by omega)), h4.keep (ff 19 (by omega)) (fk 595 (by omega)), h5.fr (fk 605 (by omega)), Or.inr ⟨e36, e37, e38, e39⟩, by rw [ff 20 (by omega)]; exact h7⟩
theorem mFlt.b {V : Vt} {f : Int32 × Int32 × Int32} (h : mFlt V f) (h36 : V 580 36 = 1) : V 580 37 = f.1 ∧ V 580 38 = f.2.1 ∧ V 580 39 = f.2.2 := by
  rcases h with ⟨a, -⟩ | ⟨-, b⟩
  · rw [h36] at a; exact absurd a (by decide)
  · exact b
theorem frG.p {V V' : Vt} {b : Nat} (h : frG V V' 608 b) : pFr V V' := ⟨fun k a => h.2.1 k (by omega) (by omega) (by omega), fun i a => h.2.2 i (by omega) (by omega) (by omega)⟩
/-- a new frame has been laid -/
def bwP (V V' : Vt) (dp h : Nat) (s : List Int32) : Prop := seg V' 608 (32 * dp) s ∧ V' 606 dp = nI h ∧ V' 607 dp = 0 ∧ V' 580 31 = nI (dp + 1) ∧ (∀ k, k ≠ dp → V' 606 k = V 606 k) ∧ (∀ k, k ≠ dp → V' 607 k = V 607 k) ∧ (∀ i, (i < 32 * dp ∨ 32 * dp + 32 ≤ i) → V' 608 i = V 608 i) ∧ (∀ k, (k < 583 ∨ 591 < k) → k ≠ 580 → k ≠ 606 → k ≠ 607 → k ≠ 608 → V' k = V k) ∧ ∀ i, i ≠ 7 → i ≠ 10 → i ≠ 12 → i ≠ 31 → V' 580 i = V 580 i
theorem cons_of {α : Type} {l : List α} (h : ¬ l.length = 0) : ∃ g r, l = g :: r := by
  cases l with
  | nil => exact absurd rfl h
  | cons g r => exact ⟨g, r, rfl⟩
/-- the helper that was found -/
def hN (o : Option Nat) : Int32 := match o with
  | none => -1
  | some h => nI h
theorem hN_none {o : Option Nat} (h : hN o = -1) (hb : ∀ x, o = some x → x < 2 ^ 31) : o = none := by
  cases o with
  | none => rfl
  | some x => exact absurd h (nI_n1 (hb x rfl))
theorem hN_some {o : Option Nat} (h : ¬ hN o = -1) : ∃ x, o = some x := by
  cases o with
  | none => exact absurd rfl h
  | some x => exact ⟨x, rfl⟩
theorem areT_of {σ : St} {h : Int32} (i3 : inR h 0 255 = true) (ha : ∀ t, t < 8 → (rj h).testBit t = true → (σ.2.1 t).isSome = true) : areT σ h = true := by
  simp only [areT, Bool.and_eq_true, List.all_eq_true, List.mem_range, Bool.or_eq_true, Bool.not_eq_true']
  refine ⟨i3, fun t ht => ?_⟩
  cases hb : (rj h).testBit t with
  | false => exact Or.inl rfl
  | true => exact Or.inr (ha t ht hb)
theorem areT_no {σ : St} {h : Int32} {t : Nat} (ht : t < 8) (hb : (rj h).testBit t = true) (hs : (σ.2.1 t).isSome = false) : areT σ h = false := by
  cases ha : areT σ h with
  | false => rfl
  | true => have := (areT_j ha).2.2 t ht hb; rw [hs] at this; cases this
theorem bit_m {h : Int32} {j : Nat} (en : h = nI (rj h)) (h2 : rj h < 256) (hj : j < 8) : (h >>> (nI j &&& 31)) &&& 1 = (if (rj h).testBit j then 1 else 0) := (congrArg (fun z => (z >>> (nI j &&& 31)) &&& 1) en).trans (bit_at _ h2 _ hj)
