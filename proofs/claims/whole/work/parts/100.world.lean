/-! THE WORLD: all cells that the law makes, numbered in the order in which they are made, at the addresses E.1, E.1 + 1 and on -/
abbrev En : Type := Nat × va_G × (Nat → ClassId)
abbrev Vt : Type := Nat → Nat → Int32
def tyE (E : En) : List (ClassId × FieldType) := [(E.2.2 9, .int), (E.2.2 10, .boolean), (E.2.2 11, .object "LimitTokens$Limit"), (E.2.2 12, .object "LimitTokens$Row"), (E.2.2 13, .object "LimitTokens$Token")]
abbrev KE (E : En) (U : State) : Prop := va_K E.2.1 vwCl (tyE E) U
def AE (E : En) : Nat → Prop := fun q => E.1 ≤ q
/-- the heap holds the n cells C -/
def Wc (E : En) (n : Nat) (C : Nat → va_E) (H : Heap) : Prop := H.size = E.1 + n ∧ ∀ k, k < n → va_at E.2.1 vwCl (E.1 + k, C k) H
theorem Wc.set {E : En} {n k : Nat} {C : Nat → va_E} {H H1 : Heap} {x : va_E} (h : Wc E n C H) (z : H1.size = H.size) (oq : ∀ q, q ≠ E.1 + k → H1[q]? = H[q]?) (hx : va_at E.2.1 vwCl (E.1 + k, x) H1) : Wc E n (va_up C k x) H1 := by
  refine ⟨z.trans h.1, fun j hj => ?_⟩
  by_cases e : j = k
  · subst e
    simpa [va_up] using hx
  · have := (h.2 j hj).kept (oq (E.1 + j) (by omega))
    simpa [va_up, e] using this
theorem Wc.push {E : En} {n : Nat} {C : Nat → va_E} {H H1 : Heap} {x : va_E} (h : Wc E n C H) (z : H1.size = E.1 + n + 1) (oq : ∀ q, q < E.1 + n → H1[q]? = H[q]?) (hx : va_at E.2.1 vwCl (E.1 + n, x) H1) : Wc E (n + 1) (va_up C n x) H1 := by
  refine ⟨by omega, fun j hj => ?_⟩
  by_cases e : j = n
  · subst e
    simpa [va_up] using hx
  · have := (h.2 j (by omega)).kept (oq (E.1 + j) (by omega))
    simpa [va_up, e] using this
theorem Wc.congr {E : En} {n : Nat} {C C' : Nat → va_E} {H : Heap} (h : Wc E n C H) (e : ∀ k, k < n → C k = C' k) : Wc E n C' H := ⟨h.1, fun k hk => by rw [← e k hk]; exact h.2 k hk⟩
section FWc
variable {p : Program} {l : Launch} {e : Env} {R : Room} {s : State} {m : MethodId} {args : Array Value} {below : List Frame} {meth : Method} {c : Code} {H : Heap} {locs : List Loc} {cells slots : Nat} {Q : State → Prop}
variable {cc : ByteArray} {pc : Nat} {ls : Array Slot} {rest : List Value} {E : En} {n : Nat} {C : Nat → va_E}
/-- getfield -/
theorem wc_get (hx : p.tables.exec = Jvm.exec) (hb : c.code = cc) {own ref Cn : String} {T : u_T} {N ci index : Nat} {Ts : List Cond} (hts : ∀ w ∈ Ts, w.before args s = true) (hin : ∀ w ∈ u_ws Cn T N, w ∈ Ts) (hown : s.vm.findClass own = some m.cls) (hK : KE E s) (hM : Wc E n C H) {k : Nat} (hk : k < n) {fs : List Value} (he : C k = .inr (ci, fs)) (hc : vwCl[ci]? = some (Cn, T, N)) (i : Nat) (hi : i < N) (hlink : (Cond.fieldLink own index ref (T i).2.1 (T i).2.2.1).before args s = true) (hsame : (T i).1 = ref) {v : Value} (hv : fs[i]? = some v) (hdg : decode cc pc = .ok (.getfield index, 3))
    (kk : W p l e R s m args below meth c H locs cells slots Q (F0 m (pc + 3) ls (v :: rest))) : W p l e R s m args below meth c H locs cells slots Q (F0 m pc ls (.ref (E.1 + k) :: rest)) := by
  have hP : va_P E.2.1 vwCl [(E.1 + k, .inr (ci, fs))] H := fun j q hj => by
    have hz : j < 1 := (List.getElem?_eq_some_iff.mp hj).1
    rw [show j = 0 by omega] at hj
    cases hj
    have := hM.2 k hk
    rw [he] at this
    exact this
  exact va_get hx hb hts hin hown hK hP 0 rfl hc i hi hlink (fun x h => by rw [← hsame]; exact h) hv hdg kk
/-- putfield of a field that isn't final -/
theorem wc_put (hx : p.tables.exec = Jvm.exec) (hb : c.code = cc) {own ref Cn : String} {T : u_T} {N ci index : Nat} {Ts : List Cond} (hts : ∀ w ∈ Ts, w.before args s = true) (hin : ∀ w ∈ u_ws Cn T N, w ∈ Ts) (ty0 : Nat → FieldType) (hty : ∀ k, k < N → parseFieldDescriptor (T k).2.2.1 = some (ty0 k)) (hnm : ∀ a, a < N → ∀ b, b < N → a ≠ b → (T a).2.1 ≠ (T b).2.1) (hown : s.vm.findClass own = some m.cls) (hK : KE E s) (hM : Wc E n C H) (hS : va_S (AE E) s.heap H locs) {k : Nat} (hk : k < n) {fs : List Value} (he : C k = .inr (ci, fs)) (hc : vwCl[ci]? = some (Cn, T, N)) (i : Nat) (hi : i < N) (hlink : (Cond.fieldLink own index ref (T i).2.1 (T i).2.2.1).before args s = true) (hsame : (T i).1 = ref) (hfin : (T i).2.2.2 = false) {v : Value} (hn : narrow (ty0 i) v = v) (hfit : fits (ty0 i) v = true) (hl : i < fs.length) (hdg : decode cc pc = .ok (.putfield index, 3))
    (kk : ∀ (H1 : Heap) (locs1 : List Loc), Wc E n (va_up C k (.inr (ci, fs.set i v))) H1 → va_S (AE E) s.heap H1 locs1 → W p l e R s m args below meth c H1 locs1 cells slots Q (F0 m (pc + 3) ls rest)) : W p l e R s m args below meth c H locs cells slots Q (F0 m pc ls (v :: .ref (E.1 + k) :: rest)) := by
  have hap := va_apart (own := own) hts hin ty0 hty hnm hK hc
  have h0 := hM.2 k hk
  rw [he] at h0
  obtain ⟨r, h1, cell, q1, q2, q3, q4⟩ := h0
  have hr : r = (Cn, T, N) := Option.some.inj (h1.symm.trans hc)
  subst hr
  obtain ⟨hSl, hfc, kC, hkC, hkind⟩ := hK.1 ci _ hc
  obtain ⟨cf, kf, fi, f, hi1, hsl⟩ := hSl i hi
  have hlay := hts _ (hin _ (u_in_lay hi))
  unfold u_lay at hlay
  rw [if_neg (by rw [hfin]; decide)] at hlay
  have hst := (u_facts hfc hkC (u_lays hts hin hi) hi1).1
  have h6 := u_store hfc hkC hkind hlay hi1 (hty i hi) hn hfit
  refine W.putK hx hb (f := f) ⟨hown, hlink, ⟨_, _, _, by rw [← hsame]; exact hi1⟩, hst⟩ (by rw [q2]; exact h6) q1 q3 (by rw [hsl]; exact k2_hasslot (q4 i hi)) rfl rfl hdg fun H' e1 e2 e3 => ?_
  rw [hsl] at e1 ⊢
  exact kk H' _ (hM.set e2 e3 ⟨_, hc, t_OB.to (V := updV (vp_V fs) i v) ⟨_, e1, q2, q3, t_set q4 hap hi v⟩ (fun j _ => vp_updV_set hl v j)⟩) (hS.put e2 e3 (Nat.le_add_right _ _))
/-- putfield of a final field, in a constructor -/
theorem wc_putF (hx : p.tables.exec = Jvm.exec) (hb : c.code = cc) {own ref Cn : String} {T : u_T} {N ci index : Nat} {Ts : List Cond} (hts : ∀ w ∈ Ts, w.before args s = true) (hin : ∀ w ∈ u_ws Cn T N, w ∈ Ts) (ty0 : Nat → FieldType) (hty : ∀ k, k < N → parseFieldDescriptor (T k).2.2.1 = some (ty0 k)) (hnm : ∀ a, a < N → ∀ b, b < N → a ≠ b → (T a).2.1 ≠ (T b).2.1) (hown : s.vm.findClass own = some m.cls) (hK : KE E s) (hM : Wc E n C H) (hS : va_S (AE E) s.heap H locs) {k : Nat} (hk : k < n) {fs : List Value} (he : C k = .inr (ci, fs)) (hc : vwCl[ci]? = some (Cn, T, N)) (i : Nat) (hi : i < N) (hlink : (Cond.fieldLink own index ref (T i).2.1 (T i).2.2.1).before args s = true) (hsame : (T i).1 = ref) (hfin : (T i).2.2.2 = true) (hin2 : meth.name = "<init>") (hdecl : ref = own) {v : Value} (hn : narrow (ty0 i) v = v) (hfit : fits (ty0 i) v = true) (hl : i < fs.length) (hdg : decode cc pc = .ok (.putfield index, 3))
    (kk : ∀ (H1 : Heap) (locs1 : List Loc), Wc E n (va_up C k (.inr (ci, fs.set i v))) H1 → va_S (AE E) s.heap H1 locs1 → W p l e R s m args below meth c H1 locs1 cells slots Q (F0 m (pc + 3) ls rest)) : W p l e R s m args below meth c H locs cells slots Q (F0 m pc ls (v :: .ref (E.1 + k) :: rest)) := by
  have hap := va_apart (own := own) hts hin ty0 hty hnm hK hc
  have h0 := hM.2 k hk
  rw [he] at h0
  obtain ⟨r, h1, cell, q1, q2, q3, q4⟩ := h0
  have hr : r = (Cn, T, N) := Option.some.inj (h1.symm.trans hc)
  subst hr
  obtain ⟨hSl, hfc, kC, hkC, hkind⟩ := hK.1 ci _ hc
  obtain ⟨cf, kf, fi, f, hi1, hsl⟩ := hSl i hi
  have hlay := hts _ (hin _ (u_in_lay hi))
  unfold u_lay at hlay
  rw [if_pos hfin] at hlay
  have hst := (u_facts hfc hkC (u_lays hts hin hi) hi1).1
  have hcf : m.cls = cf := by
    obtain ⟨_, _, c', _, _, _, -, -, hf', -, -, -, hown2, -⟩ := Cond.laysFinal_spec hlay
    have e1 : c' = cf := by have := hi1.symm.trans hf'; simp at this; exact this.1.symm
    rw [hsame, hdecl] at hown2
    rw [← e1]; exact Option.some.inj (hown.symm.trans hown2)
  have h6 := u_fits hfc hkC hkind (Or.inr hlay) hi1 (hty i hi) hn hfit
  refine W.putFinK hx hb hown hlink (by rw [← hsame]; exact hi1) hst hcf hin2 (by rw [q2]; exact h6) q1 q3 (by rw [hsl]; exact k2_hasslot (q4 i hi)) rfl rfl hdg fun H' e1 e2 e3 => ?_
  rw [hsl] at e1 ⊢
  exact kk H' _ (hM.set e2 e3 ⟨_, hc, t_OB.to (V := updV (vp_V fs) i v) ⟨_, e1, q2, q3, t_set q4 hap hi v⟩ (fun j _ => vp_updV_set hl v j)⟩) (hS.put e2 e3 (Nat.le_add_right _ _))
theorem KE.i (hK : KE E s) : ArrOfT s (E.2.2 9) .int := (hK.2 0 _ rfl).1
theorem KE.z (hK : KE E s) : ArrOfT s (E.2.2 10) .boolean := (hK.2 1 _ rfl).1
theorem Wc.arr {E : En} {n : Nat} {C : Nat → va_E} {H : Heap} (hM : Wc E n C H) {k : Nat} (hk : k < n) {x : ClassId × vp_A} (he : C k = .inl x) : H[E.1 + k]? = some (vp_cell x.1 x.2) := by
  have h0 := hM.2 k hk
  rw [he] at h0
  exact h0
/-- iaload -/
theorem wc_ild (hx : p.tables.exec = Jvm.exec) (hb : c.code = cc) (hK : KE E s) (hM : Wc E n C H) {k : Nat} (hk : k < n) {N : Nat} {f : Nat → Int32} (he : C k = .inl (E.2.2 9, N, .inl f)) {i : Int32} (hin : vp_in i N) (hdg : decode cc pc = .ok (.iaload, 1))
    (kk : W p l e R s m args below meth c H locs cells slots Q (F0 m (pc + 1) ls (.int (f i.toNatClampNeg) :: rest))) : W p l e R s m args below meth c H locs cells slots Q (F0 m pc ls (.int i :: .ref (E.1 + k) :: rest)) := by
  have hP : va_P E.2.1 vwCl [(E.1 + k, .inl (E.2.2 9, N, .inl f))] H := fun j q hj => by
    have hz : j < 1 := (List.getElem?_eq_some_iff.mp hj).1
    rw [show j = 0 by omega] at hj
    cases hj
    exact hM.arr hk he
  exact va_iald hx hb hK hP 0 0 rfl rfl hin hdg kk
/-- baload of a boolean row -/
theorem wc_zld (hx : p.tables.exec = Jvm.exec) (hb : c.code = cc) (hK : KE E s) (hM : Wc E n C H) {k : Nat} (hk : k < n) {N : Nat} {f : Nat → Int32} (he : C k = .inl (E.2.2 10, N, .inl f)) {i : Int32} (hin : vp_in i N) (hdg : decode cc pc = .ok (.baload, 1))
    (kk : W p l e R s m args below meth c H locs cells slots Q (F0 m (pc + 1) ls (.int (f i.toNatClampNeg) :: rest))) : W p l e R s m args below meth c H locs cells slots Q (F0 m pc ls (.int i :: .ref (E.1 + k) :: rest)) := by
  have hP : va_P E.2.1 vwCl [(E.1 + k, .inl (E.2.2 10, N, .inl f))] H := fun j q hj => by
    have hz : j < 1 := (List.getElem?_eq_some_iff.mp hj).1
    rw [show j = 0 by omega] at hj
    cases hj
    exact hM.arr hk he
  exact va_zald hx hb hK hP 0 1 rfl rfl hin hdg kk
/-- iastore -/
theorem wc_ist (hx : p.tables.exec = Jvm.exec) (hb : c.code = cc) (hK : KE E s) (hM : Wc E n C H) (hS : va_S (AE E) s.heap H locs) {k : Nat} (hk : k < n) {N : Nat} {f : Nat → Int32} (he : C k = .inl (E.2.2 9, N, .inl f)) {i x : Int32} (hin : vp_in i N) (hdg : decode cc pc = .ok (.iastore, 1))
    (kk : ∀ (H1 : Heap) (locs1 : List Loc), Wc E n (va_up C k (.inl (E.2.2 9, N, .inl (upd f i.toNatClampNeg x)))) H1 → va_S (AE E) s.heap H1 locs1 → W p l e R s m args below meth c H1 locs1 cells slots Q (F0 m (pc + 1) ls rest)) : W p l e R s m args below meth c H locs cells slots Q (F0 m pc ls (.int x :: .int i :: .ref (E.1 + k) :: rest)) := by
  refine W.iast hx hb (hM.arr hk he) (hK.i N (fun j => .int (f j))) (fun q => by cases q) (by show ¬ (i < 0 ∨ (arrV _ _ _).slots.size ≤ _); rw [arrV_size]; exact hin) rfl rfl hdg fun H1 e1 z oq => ?_
  refine kk H1 _ (hM.set z oq ?_) (hS.put z oq (Nat.le_add_right _ _))
  show H1[E.1 + k]? = some (vp_cell _ _)
  rw [e1]
  show some ((vp_cell (E.2.2 9) (N, .inl f)).setSlot _ _) = _
  rw [vp_cell_i, vp_cell_i, arrV_store]
  congr 2
  funext q
  by_cases hq : q = i.toNatClampNeg
  · subst hq; simp [updV, upd]
  · simp [updV, upd, hq]
/-- bastore into a boolean row -/
theorem wc_zst (hx : p.tables.exec = Jvm.exec) (hb : c.code = cc) (hK : KE E s) (hM : Wc E n C H) (hS : va_S (AE E) s.heap H locs) {k : Nat} (hk : k < n) {N : Nat} {f : Nat → Int32} (he : C k = .inl (E.2.2 10, N, .inl f)) {i x : Int32} (hin : vp_in i N) (hbx : vp_nar .boolean x = x) (hdg : decode cc pc = .ok (.bastore, 1))
    (kk : ∀ (H1 : Heap) (locs1 : List Loc), Wc E n (va_up C k (.inl (E.2.2 10, N, .inl (upd f i.toNatClampNeg x)))) H1 → va_S (AE E) s.heap H1 locs1 → W p l e R s m args below meth c H1 locs1 cells slots Q (F0 m (pc + 1) ls rest)) : W p l e R s m args below meth c H locs cells slots Q (F0 m pc ls (.int x :: .int i :: .ref (E.1 + k) :: rest)) := by
  refine W.zast hx hb (hM.arr hk he) (hK.z N (fun j => .int (f j))) (fun q => by cases q) (by show ¬ (i < 0 ∨ (arrV _ _ _).slots.size ≤ _); rw [arrV_size]; exact hin) rfl rfl hdg fun H1 e1 z oq => ?_
  refine kk H1 _ (hM.set z oq ?_) (hS.put z oq (Nat.le_add_right _ _))
  show H1[E.1 + k]? = some (vp_cell _ _)
  rw [e1]
  show some ((vp_cell (E.2.2 10) (N, .inl f)).setSlot _ _) = _
  rw [vp_cell_i, vp_cell_i, arrV_store]
  have hnx : narrow .boolean (.int x) = .int x := by
    have : narrow .boolean (.int x) = .int (vp_nar .boolean x) := by simp [vp_nar, narrow]
    rw [this, hbx]
  rw [hnx]
  congr 2
  funext q
  by_cases hq : q = i.toNatClampNeg
  · subst hq; simp [updV, upd]
  · simp [updV, upd, hq]
/-- aaload -/
theorem wc_ald (hx : p.tables.exec = Jvm.exec) (hb : c.code = cc) (hK : KE E s) (hM : Wc E n C H) {k : Nat} (hk : k < n) {N t0 : Nat} {cA : ClassId} {Cn : String} (ht : (tyE E)[t0]? = some (cA, .object Cn)) {f : Nat → Option Nat} (he : C k = .inl (cA, N, .inr (.inr (.inr (.inr f))))) {i : Int32} (hin : vp_in i N) {j : Nat} (hj : f i.toNatClampNeg = some j) (hdg : decode cc pc = .ok (.aaload, 1))
    (kk : W p l e R s m args below meth c H locs cells slots Q (F0 m (pc + 1) ls (.ref j :: rest))) : W p l e R s m args below meth c H locs cells slots Q (F0 m pc ls (.int i :: .ref (E.1 + k) :: rest)) := by
  have hP : va_P E.2.1 vwCl [(E.1 + k, .inl (cA, N, .inr (.inr (.inr (.inr f)))))] H := fun j q hj => by
    have hz : j < 1 := (List.getElem?_eq_some_iff.mp hj).1
    rw [show j = 0 by omega] at hj
    cases hj
    exact hM.arr hk he
  refine va_aldq hx hb hK hP 0 t0 rfl ht hin hdg ?_
  rw [hj]
  exact kk
/-- arraylength -/
theorem wc_len (hx : p.tables.exec = Jvm.exec) (hb : c.code = cc) (hK : KE E s) (hM : Wc E n C H) {k : Nat} (hk : k < n) {t0 : Nat} {cA : ClassId} {ty : FieldType} (ht : (tyE E)[t0]? = some (cA, ty)) {x : vp_A} (he : C k = .inl (cA, x)) (hdg : decode cc pc = .ok (.arraylength, 1))
    (kk : W p l e R s m args below meth c H locs cells slots Q (F0 m (pc + 1) ls (.int (nI x.1) :: rest))) : W p l e R s m args below meth c H locs cells slots Q (F0 m pc ls (.ref (E.1 + k) :: rest)) := by
  have hP : va_P E.2.1 vwCl [(E.1 + k, .inl (cA, x))] H := fun j q hj => by
    have hz : j < 1 := (List.getElem?_eq_some_iff.mp hj).1
    rw [show j = 0 by omega] at hj
    cases hj
    exact hM.arr hk he
  exact va_alen hx hb hK hP 0 t0 rfl ht rfl hdg kk
end FWc
