/-! THE STATE of the object, as a value: registers, tokens, tape, request, what fault() tells, what place() tells -/
abbrev St : Type := (Nat → List Int32) × (Nat → Option Tk) × List Int32 × (Nat → Int32) × (Int32 × Int32 × Int32) × Int32
def sReg (σ : St) (r : Nat) (l : List Int32) : St := (va_up σ.1 r l, σ.2)
def sTok (σ : St) (t : Nat) (T : Option Tk) : St := (σ.1, va_up σ.2.1 t T, σ.2.2)
def sTape (σ : St) (l : List Int32) : St := (σ.1, σ.2.1, l, σ.2.2.2)
def sReq (σ : St) (i : Nat) (x : Int32) : St := (σ.1, σ.2.1, σ.2.2.1, va_up σ.2.2.2.1 i x, σ.2.2.2.2)
def sFlt (σ : St) (f : Int32 × Int32 × Int32) : St := (σ.1, σ.2.1, σ.2.2.1, σ.2.2.2.1, f, σ.2.2.2.2.2)
def sPlc (σ : St) (p : Int32) : St := (σ.1, σ.2.1, σ.2.2.1, σ.2.2.2.1, σ.2.2.2.2.1, p)
def oReg (σ : St) : Prop := ∀ r, r < 8 → (σ.1 r).length ≤ 100 ∧ okL (σ.1 r)
def oTok (σ : St) : Prop := ∀ t, t < 8 → ∀ T, σ.2.1 t = some T → okTk T
def oTape (σ : St) : Prop := σ.2.2.1.length ≤ 1200 ∧ okL σ.2.2.1
/-- the parts of the class's picture -/
def cReg (V : Vt) (σ : St) : Prop := ∀ r, r < 8 → rowIs V (564 + 2 * r) (σ.1 r)
def cTok1 (V : Vt) (t : Nat) (o : Option Tk) : Prop := match o with
  | none => V (25 + 60 * t) 4 = 0
  | some T => V (25 + 60 * t) 4 = 1 ∧ tokIs V (25 + 60 * t) T
def cTok (V : Vt) (σ : St) : Prop := ∀ t, t < 8 → cTok1 V t (σ.2.1 t)
def cReq (V : Vt) (σ : St) : Prop := ∀ i, i < 8 → V 22 i = σ.2.2.2.1 i
def cFlt (V : Vt) (σ : St) : Prop := V 2 8 = σ.2.2.2.2.1.1 ∧ V 2 9 = σ.2.2.2.2.1.2.1 ∧ V 2 10 = σ.2.2.2.2.1.2.2
def repC (V : Vt) (σ : St) : Prop := (oReg σ ∧ oTok σ ∧ oTape σ) ∧ cReg V σ ∧ cTok V σ ∧ rowIs V 506 σ.2.2.1 ∧ cReq V σ ∧ cFlt V σ ∧ V 505 3 = σ.2.2.2.2.2 ∧ rowIs V 19 zr
/-- the model's cells are as they were -/
def frM (V V' : Vt) : Prop := ∀ j, 580 ≤ j → V' j = V j
theorem cReg.fr {V V' : Vt} {σ : St} (h : cReg V σ) (f : ∀ j, 564 ≤ j → j < 580 → V' j = V j) : cReg V' σ := fun r hr => (h r hr).keep (f _ (by omega) (by omega)) (f _ (by omega) (by omega))
theorem cTok1.fr {V V' : Vt} {t : Nat} {o : Option Tk} (h : cTok1 V t o) (ho : ∀ T, o = some T → okTk T) (f : ∀ j, 25 + 60 * t ≤ j → j < 25 + 60 * t + 56 → V' j = V j) : cTok1 V' t o := by
  cases o with
  | none => show V' _ 4 = 0; rw [f _ (by omega) (by omega)]; exact h
  | some T =>
    have hn := (ho T rfl).2.2.1
    obtain ⟨h0, h1, h2, h3, h4⟩ := h
    exact ⟨by rw [f _ (by omega) (by omega)]; exact h0, h1.keep (f _ (by omega) (by omega)) (f _ (by omega) (by omega)), h2.keep (f _ (by omega) (by omega)) (f _ (by omega) (by omega)), by rw [f _ (by omega) (by omega)]; exact h3, fun i hi => ⟨(h4 i hi).1.keep (f _ (by omega) (by omega)) (f _ (by omega) (by omega)), (h4 i hi).2.keep (f _ (by omega) (by omega)) (f _ (by omega) (by omega))⟩⟩
theorem cTok.fr {V V' : Vt} {σ : St} (h : cTok V σ) (ho : oTok σ) (f : ∀ j, 25 ≤ j → j < 505 → (j - 25) % 60 < 56 → V' j = V j) : cTok V' σ := fun t ht => (h t ht).fr (ho t ht) (fun j h1 h2 => f j (by omega) (by omega) (by omega))
theorem cFlt.fr {V V' : Vt} {σ : St} (h : cFlt V σ) (f : V' 2 = V 2) : cFlt V' σ := by unfold cFlt; rw [f]; exact h
theorem cReq.fr {V V' : Vt} {σ : St} (h : cReq V σ) (f : V' 22 = V 22) : cReq V' σ := fun i hi => by rw [f]; exact h i hi
/-- nothing of the picture has changed -/
theorem repC.fr {V V' : Vt} {σ : St} (h : repC V σ) (f : ∀ j, j = 2 ∨ j = 19 ∨ j = 20 ∨ j = 22 ∨ (25 ≤ j ∧ j < 505 ∧ (j - 25) % 60 < 56) ∨ j = 505 ∨ j = 506 ∨ j = 507 ∨ 564 ≤ j → V' j = V j) : repC V' σ := by
  obtain ⟨ho, h1, h2, h3, h4, h5, h6, h7⟩ := h
  exact ⟨ho, h1.fr (fun j a b => f j (by omega)), h2.fr ho.2.1 (fun j a b c => f j (by omega)), h3.keep (f _ (by omega)) (f _ (by omega)), h4.fr (f 22 (by omega)), h5.fr (f 2 (by omega)), by rw [f 505 (by omega)]; exact h6, h7.keep (f _ (by omega)) (f _ (by omega))⟩
/-- one register has changed -/
theorem repC.reg {V V' : Vt} {σ : St} (h : repC V σ) {r : Nat} (hr : r < 8) {l : List Int32} (hl : rowIs V' (564 + 2 * r) l) (hl1 : l.length ≤ 100) (hl2 : okL l) (f : ∀ j, j ≠ 564 + 2 * r → j ≠ 565 + 2 * r → (j = 2 ∨ j = 19 ∨ j = 20 ∨ j = 22 ∨ (25 ≤ j ∧ j < 505 ∧ (j - 25) % 60 < 56) ∨ j = 505 ∨ j = 506 ∨ j = 507 ∨ 564 ≤ j) → V' j = V j) : repC V' (sReg σ r l) := by
  obtain ⟨ho, h1, h2, h3, h4, h5, h6, h7⟩ := h
  refine ⟨⟨fun q hq => ?_, ho.2.1, ho.2.2⟩, fun q hq => ?_, h2.fr ho.2.1 (fun j a b c => f j (by omega) (by omega) (by omega)), h3.keep (f _ (by omega) (by omega) (by omega)) (f _ (by omega) (by omega) (by omega)), h4.fr (f 22 (by omega) (by omega) (by omega)), h5.fr (f 2 (by omega) (by omega) (by omega)), by rw [f 505 (by omega) (by omega) (by omega)]; exact h6, h7.keep (f _ (by omega) (by omega) (by omega)) (f _ (by omega) (by omega) (by omega))⟩
  · show (va_up σ.1 r l q).length ≤ 100 ∧ okL (va_up σ.1 r l q)
    by_cases e : q = r
    · simp [va_up, e]; exact ⟨hl1, hl2⟩
    · simp [va_up, e]; exact ho.1 q hq
  · show rowIs V' (564 + 2 * q) (va_up σ.1 r l q)
    by_cases e : q = r
    · subst e; simp [va_up]; exact hl
    · simp [va_up, e]; exact (h1 q hq).keep (f _ (by omega) (by omega) (by omega)) (f _ (by omega) (by omega) (by omega))
/-- one token has changed -/
theorem repC.tok {V V' : Vt} {σ : St} (h : repC V σ) {t : Nat} (ht : t < 8) {o : Option Tk} (hl : cTok1 V' t o) (hl1 : ∀ T, o = some T → okTk T) (f : ∀ j, (j < 25 + 60 * t ∨ 25 + 60 * t + 56 ≤ j) → (j = 2 ∨ j = 19 ∨ j = 20 ∨ j = 22 ∨ (25 ≤ j ∧ j < 505 ∧ (j - 25) % 60 < 56) ∨ j = 505 ∨ j = 506 ∨ j = 507 ∨ 564 ≤ j) → V' j = V j) : repC V' (sTok σ t o) := by
  obtain ⟨ho, h1, h2, h3, h4, h5, h6, h7⟩ := h
  refine ⟨⟨ho.1, fun q hq T hT => ?_, ho.2.2⟩, h1.fr (fun j a b => f j (by omega) (by omega)), fun q hq => ?_, h3.keep (f _ (by omega) (by omega)) (f _ (by omega) (by omega)), h4.fr (f 22 (by omega) (by omega)), h5.fr (f 2 (by omega) (by omega)), by rw [f 505 (by omega) (by omega)]; exact h6, h7.keep (f _ (by omega) (by omega)) (f _ (by omega) (by omega))⟩
  · change va_up σ.2.1 t o q = some T at hT
    by_cases e : q = t
    · simp [va_up, e] at hT; exact hl1 T hT
    · simp [va_up, e] at hT; exact ho.2.1 q hq T hT
  · show cTok1 V' q (va_up σ.2.1 t o q)
    by_cases e : q = t
    · subst e; simp [va_up]; exact hl
    · simp [va_up, e]; exact (h2 q hq).fr (ho.2.1 q hq) (fun j a b => f j (by omega) (by omega))
/-- the tape has changed -/
theorem repC.tape {V V' : Vt} {σ : St} (h : repC V σ) {l : List Int32} (hl : rowIs V' 506 l) (hl1 : l.length ≤ 1200) (hl2 : okL l) (f : ∀ j, j ≠ 506 → j ≠ 507 → V' j = V j) : repC V' (sTape σ l) := by
  obtain ⟨ho, h1, h2, h3, h4, h5, h6, h7⟩ := h
  exact ⟨⟨ho.1, ho.2.1, hl1, hl2⟩, h1.fr (fun j a b => f j (by omega) (by omega)), h2.fr ho.2.1 (fun j a b c => f j (by omega) (by omega)), hl, h4.fr (f 22 (by omega) (by omega)), h5.fr (f 2 (by omega) (by omega)), by rw [f 505 (by omega) (by omega)]; exact h6, h7.keep (f _ (by omega) (by omega)) (f _ (by omega) (by omega))⟩
theorem in8_of {r : Int32} (h0 : ¬ r < 0) (h1 : ¬ 8 ≤ r) : ∃ j, j < 8 ∧ r = nI j := ix_of (n := 8) h0 h1 (by omega)
def in8 (r : Int32) : Bool := decide (¬ r < 0) && decide (¬ 8 ≤ r)
theorem in8_j {r : Int32} (h : in8 r = true) : r.toNatClampNeg < 8 ∧ r = nI r.toNatClampNeg := by
  simp only [in8, Bool.and_eq_true, decide_eq_true_eq] at h
  obtain ⟨j, hj, e⟩ := in8_of h.1 h.2
  rw [e, nI_clamp (by omega)]
  exact ⟨hj, rfl⟩
def inR (x a b : Int32) : Bool := decide (¬ x < a) && decide (¬ b < x)
