-- needs: 450 451 456
/-! THE MODEL'S PICTURE of the same state -/
def mLim (V : Vt) (l : Nat) (L : Lm) : Prop := V 600 l = nI L.1.length ∧ seg V 601 (60 * l) L.1 ∧ V 602 l = b2i (decide (L.2 ≠ [])) ∧ seg V 603 (32 * l) L.2
def mTokIs (V : Vt) (t : Nat) (T : Tk) : Prop := V 597 t = nI T.1.length ∧ seg V 598 (60 * t) T.1 ∧ V 599 t = nI T.2.2.length ∧ seg V 604 (32 * t) T.2.1 ∧ ∀ j, j < T.2.2.length → mLim V (10 * t + j) (T.2.2.getD j lz)
def mTok1 (V : Vt) (t : Nat) (o : Option Tk) : Prop := match o with
  | none => V 596 t = 0
  | some T => V 596 t = 1 ∧ mTokIs V t T
def mReg (V : Vt) (σ : St) : Prop := ∀ r, r < 8 → V 594 r = nI (σ.1 r).length ∧ seg V 593 (100 * r) (σ.1 r)
def mTok (V : Vt) (σ : St) : Prop := ∀ t, t < 8 → mTok1 V t (σ.2.1 t)
def mReq (V : Vt) (σ : St) : Prop := ∀ i, i < 8 → V 605 i = σ.2.2.2.1 i
def mFlt (V : Vt) (f : Int32 × Int32 × Int32) : Prop := (V 580 36 = 0 ∧ f = (-1, -1, -1)) ∨ (V 580 36 = 1 ∧ V 580 37 = f.1 ∧ V 580 38 = f.2.1 ∧ V 580 39 = f.2.2)
def mCon (V : Vt) : Prop := (∀ i, i < 64 → V 582 i = cuT.getD i 0) ∧ (∀ i, i < 8 → V 581 i = sqT.getD i 0) ∧ seg V 592 0 zr
def repM (V : Vt) (σ : St) : Prop := (oReg σ ∧ oTok σ ∧ oTape σ) ∧ mCon V ∧ mReg V σ ∧ mTok V σ ∧ buf V 19 595 σ.2.2.1 ∧ mReq V σ ∧ mFlt V σ.2.2.2.2.1 ∧ V 580 20 = σ.2.2.2.2.2
def frC (V V' : Vt) : Prop := ∀ j, j < 580 → V' j = V j
theorem frC.trans {V V' V'' : Vt} (h : frC V V') (h' : frC V' V'') : frC V V'' := fun j a => (h' j a).trans (h j a)
theorem frC.rf {V : Vt} : frC V V := fun _ _ => rfl
theorem frS.C {V V' : Vt} {lo hi : Nat} (h : frS V V' lo hi) (h1 : 580 ≤ lo) : frC V V' := fun j a => h.1 j (by omega) (by omega)
theorem frF.C {V V' : Vt} {fl d : Nat} (h : frF V V' fl d) (h1 : 580 ≤ d) : frC V V' := fun j a => h.1 j (by omega) (by omega)
theorem cpx.C {V V0 : Vt} {d b n : Nat} {f : Nat → Int32} (h : cpx V V0 d b n f) (hd : 580 ≤ d) : frC V0 V := fun k a => h.2.2 k (by omega)
theorem frC.up {V V' V1 : Vt} {k i : Nat} {x : Int32} (h : frC V V') (e : up2 V' k i x = V1) (hk : 580 ≤ k) : frC V V1 := fun j a => by rw [← e, up2_k _ _ (by omega)]; exact h j a
theorem mLim.fn {V V' : Vt} {l : Nat} {L : Lm} (h : mLim V l L) (h1 : L.1.length ≤ 60) (h2 : L.2.length ≤ 32) (e0 : V' 600 l = V 600 l) (e1 : ∀ i, 60 * l ≤ i → i < 60 * l + 60 → V' 601 i = V 601 i) (e2 : V' 602 l = V 602 l) (e3 : ∀ i, 32 * l ≤ i → i < 32 * l + 32 → V' 603 i = V 603 i) : mLim V' l L := ⟨e0.trans h.1, h.2.1.fn (fun i a b => e1 i a (by omega)), e2.trans h.2.2.1, h.2.2.2.fn (fun i a b => e3 i a (by omega))⟩
theorem okLm.l2 {L : Lm} (h : okLm L) : L.2.length ≤ 32 := by rcases h.2.2.1 with e | e; (rw [e]; simp); omega
/-- the pieces of the token t are the same -/
def tFr (V V' : Vt) (t : Nat) : Prop := V' 596 t = V 596 t ∧ V' 597 t = V 597 t ∧ V' 599 t = V 599 t ∧ (∀ i, 60 * t ≤ i → i < 60 * t + 60 → V' 598 i = V 598 i) ∧ (∀ i, 32 * t ≤ i → i < 32 * t + 32 → V' 604 i = V 604 i) ∧ (∀ i, 10 * t ≤ i → i < 10 * t + 10 → V' 600 i = V 600 i) ∧ (∀ i, 10 * t ≤ i → i < 10 * t + 10 → V' 602 i = V 602 i) ∧ (∀ i, 600 * t ≤ i → i < 600 * t + 600 → V' 601 i = V 601 i) ∧ ∀ i, 320 * t ≤ i → i < 320 * t + 320 → V' 603 i = V 603 i
theorem tFr.of {V V' : Vt} {t : Nat} (h : ∀ k, 596 ≤ k → k ≤ 604 → V' k = V k) : tFr V V' t := ⟨by rw [h 596 (by decide) (by decide)], by rw [h 597 (by decide) (by decide)], by rw [h 599 (by decide) (by decide)], fun i _ _ => by rw [h 598 (by decide) (by decide)], fun i _ _ => by rw [h 604 (by decide) (by decide)], fun i _ _ => by rw [h 600 (by decide) (by decide)], fun i _ _ => by rw [h 602 (by decide) (by decide)], fun i _ _ => by rw [h 601 (by decide) (by decide)], fun i _ _ => by rw [h 603 (by decide) (by decide)]⟩
theorem mTokIs.fn {V V' : Vt} {t : Nat} {T : Tk} (h : mTokIs V t T) (ho : okTk T) (f : tFr V V' t) : mTokIs V' t T := by
  obtain ⟨h1, h2, h3, h4, h5⟩ := h
  obtain ⟨f0, f1, f2, f3, f4, f5, f6, f7, f8⟩ := f
  obtain ⟨⟨-, o1, -⟩, ⟨o2, -⟩, o3, o4⟩ := ho
  exact ⟨f1.trans h1, h2.fn (fun i a b => f3 i a (by omega)), f2.trans h3, h4.fn (fun i a b => f4 i a (by omega)), fun j hj => (h5 j hj).fn (o4 j hj).2.1 (o4 j hj).l2 (f5 _ (by omega) (by omega)) (fun i a b => f7 i (by omega) (by omega)) (f6 _ (by omega) (by omega)) (fun i a b => f8 i (by omega) (by omega))⟩
theorem mTok1.fn {V V' : Vt} {t : Nat} {o : Option Tk} (h : mTok1 V t o) (ho : ∀ T, o = some T → okTk T) (f : tFr V V' t) : mTok1 V' t o := by
  cases o with
  | none => exact f.1.trans h
  | some T => exact ⟨f.1.trans h.1, h.2.fn (ho T rfl) f⟩
theorem mTok1.s {V : Vt} {t : Nat} {o : Option Tk} {T : Tk} (h : mTok1 V t o) (e : o = some T) : V 596 t = 1 ∧ mTokIs V t T := by subst e; exact h
theorem mTok1.b {V : Vt} {t : Nat} {o : Option Tk} (h : mTok1 V t o) : V 596 t = b2i o.isSome := by
  cases o with
  | none => exact h
  | some T => exact h.1
theorem mTok.fr {V V' : Vt} {σ : St} (h : mTok V σ) (ho : oTok σ) (f : ∀ k, 596 ≤ k → k ≤ 604 → V' k = V k) : mTok V' σ := fun t ht => (h t ht).fn (ho t ht) (tFr.of f)
theorem mReg.fr {V V' : Vt} {σ : St} (h : mReg V σ) (f3 : V' 593 = V 593) (f4 : V' 594 = V 594) : mReg V' σ := fun r hr => ⟨by rw [f4]; exact (h r hr).1, (h r hr).2.keep f3⟩
theorem mCon.fr {V V' : Vt} (h : mCon V) (f1 : V' 581 = V 581) (f2 : V' 582 = V 582) (f3 : V' 592 = V 592) : mCon V' := ⟨fun i hi => by rw [f2]; exact h.1 i hi, fun i hi => by rw [f1]; exact h.2.1 i hi, h.2.2.keep f3⟩
theorem mReq.fr {V V' : Vt} {σ : St} (h : mReq V σ) (f : V' 605 = V 605) : mReq V' σ := fun i hi => by rw [f]; exact h i hi
theorem mFlt.fr {V V' : Vt} {f : Int32 × Int32 × Int32} (h : mFlt V f) (e : ∀ i, 36 ≤ i → i ≤ 39 → V' 580 i = V 580 i) : mFlt V' f := by
  unfold mFlt
  rw [e 36 (by decide) (by decide), e 37 (by decide) (by decide), e 38 (by decide) (by decide), e 39 (by decide) (by decide)]
  exact h
/-- the cells and the fields of the picture are the same -/
def pFr (V V' : Vt) : Prop := (∀ k, (k = 581 ∨ k = 582 ∨ (592 ≤ k ∧ k ≤ 605)) → V' k = V k) ∧ ∀ i, (i = 19 ∨ i = 20 ∨ (36 ≤ i ∧ i ≤ 39)) → V' 580 i = V 580 i
theorem frS.p {V V' : Vt} {lo hi : Nat} (h : frS V V' lo hi) (h1 : 583 ≤ lo ∧ hi ≤ 591) : pFr V V' := ⟨fun k a => h.1 k (by omega) (by omega), fun i a => h.2 i (by omega) (by omega) (by omega)⟩
theorem pFr.rf {V : Vt} : pFr V V := ⟨fun _ _ => rfl, fun _ _ => rfl⟩
theorem pFr.trans {V V' V'' : Vt} (h : pFr V V') (h' : pFr V' V'') : pFr V V'' := ⟨fun k a => (h'.1 k a).trans (h.1 k a), fun i a => (h'.2 i a).trans (h.2 i a)⟩
theorem repM.fr {V V' : Vt} {σ : St} (h : repM V σ) (f : pFr V V') : repM V' σ := by
  obtain ⟨ho, h1, h2, h3, h4, h5, h6, h7⟩ := h
  exact ⟨ho, h1.fr (f.1 581 (by omega)) (f.1 582 (by omega)) (f.1 592 (by omega)), h2.fr (f.1 593 (by omega)) (f.1 594 (by omega)), h3.fr ho.2.1 (fun k a b => f.1 k (by omega)), h4.keep (f.2 19 (by omega)) (f.1 595 (by omega)), h5.fr (f.1 605 (by omega)), h6.fr (fun i a b => f.2 i (by omega)), by rw [f.2 20 (by omega)]; exact h7⟩
/-- thrown = 0 -/
theorem pFr.th {V V1 : Vt} (e : up2 V 580 0 0 = V1) : pFr V V1 ∧ frC V V1 := ⟨⟨fun k a => by rw [← e, up2_k _ _ (by omega)], fun i a => by rw [← e, up2_o _ _ (by omega)]⟩, fun j a => by rw [← e, up2_k _ _ (by omega)]⟩
/-- one register has changed -/
theorem repM.reg {V V' : Vt} {σ : St} (h : repM V σ) {r : Nat} (hr : r < 8) {l : List Int32} (e1 : V' 594 r = nI l.length) (e2 : seg V' 593 (100 * r) l) (hl1 : l.length ≤ 100) (hl2 : okL l) (f1 : ∀ i, i ≠ r → V' 594 i = V 594 i) (f2 : ∀ i, (i < 100 * r ∨ 100 * r + 100 ≤ i) → V' 593 i = V 593 i) (f3 : ∀ k, (k = 581 ∨ k = 582 ∨ k = 592 ∨ (595 ≤ k ∧ k ≤ 605)) → V' k = V k) (f4 : ∀ i, (i = 19 ∨ i = 20 ∨ (36 ≤ i ∧ i ≤ 39)) → V' 580 i = V 580 i) : repM V' (sReg σ r l) := by
  obtain ⟨ho, h1, h2, h3, h4, h5, h6, h7⟩ := h
  refine ⟨⟨fun q hq => ?_, ho.2.1, ho.2.2⟩, h1.fr (f3 581 (by omega)) (f3 582 (by omega)) (f3 592 (by omega)), fun q hq => ?_, h3.fr ho.2.1 (fun k a b => f3 k (by omega)), h4.keep (f4 19 (by omega)) (f3 595 (by omega)), h5.fr (f3 605 (by omega)), h6.fr (fun i a b => f4 i (by omega)), by rw [f4 20 (by omega)]; exact h7⟩
  · show (va_up σ.1 r l q).length ≤ 100 ∧ okL (va_up σ.1 r l q)
    by_cases e : q = r
    · simp [va_up, e]; exact ⟨hl1, hl2⟩
    · simp [va_up, e]; exact ho.1 q hq
  · show V' 594 q = nI (va_up σ.1 r l q).length ∧ seg V' 593 (100 * q) (va_up σ.1 r l q)
    by_cases e : q = r
    · subst e; simp only [va_up, if_true]; exact ⟨e1, e2⟩
    · simp only [va_up, e, if_false]
      have := (ho.1 q hq).1
      exact ⟨by rw [f1 q e]; exact (h2 q hq).1, (h2 q hq).2.fn (fun i a b => f2 i (by omega))⟩
/-- one token has changed -/
theorem repM.tok {V V' : Vt} {σ : St} (h : repM V σ) {t : Nat} (ht : t < 8) {o : Option Tk} (hl : mTok1 V' t o) (hl1 : ∀ T, o = some T → okTk T) (f : ∀ u, u < 8 → u ≠ t → tFr V V' u) (f3 : ∀ k, (k = 581 ∨ k = 582 ∨ (592 ≤ k ∧ k ≤ 595) ∨ k = 605) → V' k = V k) (f4 : ∀ i, (i = 19 ∨ i = 20 ∨ (36 ≤ i ∧ i ≤ 39)) → V' 580 i = V 580 i) : repM V' (sTok σ t o) := by
  obtain ⟨ho, h1, h2, h3, h4, h5, h6, h7⟩ := h
  refine ⟨⟨ho.1, fun q hq T hT => ?_, ho.2.2⟩, h1.fr (f3 581 (by omega)) (f3 582 (by omega)) (f3 592 (by omega)), h2.fr (f3 593 (by omega)) (f3 594 (by omega)), fun q hq => ?_, h4.keep (f4 19 (by omega)) (f3 595 (by omega)), h5.fr (f3 605 (by omega)), h6.fr (fun i a b => f4 i (by omega)), by rw [f4 20 (by omega)]; exact h7⟩
  · change va_up σ.2.1 t o q = some T at hT
    by_cases e : q = t
    · simp [va_up, e] at hT; exact hl1 T hT
    · simp [va_up, e] at hT; exact ho.2.1 q hq T hT
  · show mTok1 V' q (va_up σ.2.1 t o q)
    by_cases e : q = t
    · subst e; simp only [va_up, if_true]; exact hl
    · simp only [va_up, e, if_false]; exact (h3 q hq).fn (ho.2.1 q hq) (f q hq e)
/-- the tape has changed -/
theorem repM.tape {V V' : Vt} {σ : St} (h : repM V σ) {l : List Int32} (hl : buf V' 19 595 l) (hl1 : l.length ≤ 1200) (hl2 : okL l) (f : frF V V' 19 595) : repM V' (sTape σ l) := by
  obtain ⟨ho, h1, h2, h3, h4, h5, h6, h7⟩ := h
  exact ⟨⟨ho.1, ho.2.1, hl1, hl2⟩, h1.fr (f.1 581 (by omega) (by omega)) (f.1 582 (by omega) (by omega)) (f.1 592 (by omega) (by omega)), h2.fr (f.1 593 (by omega) (by omega)) (f.1 594 (by omega) (by omega)), h3.fr ho.2.1 (fun k a b => f.1 k (by omega) (by omega)), hl, h5.fr (f.1 605 (by omega) (by omega)), h6.fr (fun i a b => f.2 i (by omega)), by rw [f.2 20 (by omega)]; exact h7⟩
