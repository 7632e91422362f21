/-! THE LAYOUT: what each of the 610 cells is, once both constructors are through. Kinds 0 .. 8: an object of that class (vwCl); 9 int[], 10 boolean[], 11 Limit[], 12 Row[], 13 Token[] -/
/-- a token's cells from its own on: itself, name, sign, the row of limits, ten limits of five cells -/
def tkK (r : Nat) : Nat := if r = 0 then 6 else if r = 1 ∨ r = 3 then 3 else if r = 2 ∨ r = 4 then 9 else if r = 5 then 11 else if (r - 6) % 5 = 0 then 1 else if (r - 6) % 5 = 1 ∨ (r - 6) % 5 = 3 then 3 else 9
def tkN (r : Nat) : Nat := if r = 0 then 5 else if r = 1 ∨ r = 3 then 2 else if r = 2 then 60 else if r = 4 then 32 else if r = 5 then 10 else if (r - 6) % 5 = 0 then 2 else if (r - 6) % 5 = 1 ∨ (r - 6) % 5 = 3 then 2 else if (r - 6) % 5 = 2 then 60 else 32
def tkF (b r i : Nat) : Option Nat := if r = 0 then (if i = 0 then some (b + 1) else if i = 1 then some (b + 3) else if i = 2 then some (b + 5) else none) else if r = 1 ∨ r = 3 then (if i = 0 then some (b + r + 1) else none) else if r = 2 ∨ r = 4 then none else if r = 5 then (if i < 10 then some (b + 6 + 5 * i) else none) else if (r - 6) % 5 = 0 then (if i = 0 then some (b + r + 1) else if i = 1 then some (b + r + 3) else none) else if (r - 6) % 5 = 1 ∨ (r - 6) % 5 = 3 then (if i = 0 then some (b + r + 1) else none) else none
/-- the fixed cells ahead of the tokens -/
def fxK (k : Nat) : Nat := match k with
  | 0 => 7 | 1 => 12 | 2 => 2 | 3 => 13 | 4 => 4 | 5 => 9 | 6 => 9 | 21 => 0 | 22 => 9 | 23 => 12 | 24 => 12
  | k => if k % 2 = 1 then 3 else 9
def fxN (k : Nat) : Nat := match k with
  | 0 => 9 | 1 => 8 | 2 => 11 | 3 => 8 | 4 => 9 | 5 => 8 | 6 => 64 | 21 => 2 | 22 => 8 | 23 => 8 | 24 => 8 | 8 => 256 | 10 => 64 | 12 => 32 | 14 => 64 | 16 => 32 | 18 => 32 | 20 => 32
  | _ => 2
def fxF (k i : Nat) : Option Nat := match k with
  | 0 => match i with | 0 => some 1 | 1 => some 2 | 2 => some 505 | 3 => some 508 | 4 => some 3 | 5 => some 4 | 6 => some 21 | 7 => some 22 | 8 => some 506 | _ => none
  | 1 => if i < 8 then some (564 + 2 * i) else none
  | 2 => match i with | 0 => some 3 | 1 => some 4 | 2 => some 21 | 3 => some 23 | 4 => some 24 | _ => none
  | 3 => if i < 8 then some (25 + 60 * i) else none
  | 4 => match i with | 0 => some 5 | 1 => some 6 | 2 => some 7 | 3 => some 9 | 4 => some 11 | 5 => some 13 | 6 => some 15 | 7 => some 17 | 8 => some 19 | _ => none
  | 5 => none | 6 => none
  | 21 => if i = 0 then some 22 else none
  | 22 => none
  | 23 => if i < 8 then some (81 + 60 * i) else none
  | 24 => if i < 8 then some (83 + 60 * i) else none
  | k => if k % 2 = 1 then (if i = 0 then some (k + 1) else none) else none
/-- the model's cells from 580 on -/
def mdK (r : Nat) : Nat := if r = 0 then 8 else if r = 16 ∨ r = 22 ∨ r = 29 then 10 else 9
def mdN (r : Nat) : Nat := match r with
  | 0 => 42 | 1 => 8 | 2 => 64 | 3 => 8 | 4 => 64 | 5 => 8 | 6 => 400 | 7 => 32 | 8 => 100 | 9 => 200 | 10 => 32 | 11 => 32 | 12 => 32 | 13 => 800 | 14 => 8 | 15 => 1200 | 16 => 9 | 17 => 9 | 18 => 540 | 19 => 9 | 20 => 90 | 21 => 5400 | 22 => 90 | 23 => 2880 | 24 => 288 | 25 => 8 | 26 => 9 | 27 => 9 | 28 => 288 | _ => 8
def mdF (r i : Nat) : Option Nat := if r = 0 then (match i with
  | 1 => some 581 | 2 => some 582 | 3 => some 583 | 4 => some 584 | 5 => some 585 | 6 => some 586 | 8 => some 587 | 9 => some 588 | 11 => some 589 | 13 => some 590 | 14 => some 591 | 15 => some 592 | 16 => some 593 | 17 => some 594 | 18 => some 595 | 21 => some 596 | 22 => some 597 | 23 => some 598 | 24 => some 599 | 25 => some 600 | 26 => some 601 | 27 => some 602 | 28 => some 603 | 29 => some 604 | 30 => some 605 | 32 => some 606 | 33 => some 607 | 34 => some 608 | 35 => some 609 | _ => none) else none
def sk (k : Nat) : Nat := if k < 25 then fxK k else if k < 505 then (if (k - 25) % 60 < 56 then tkK ((k - 25) % 60) else if (k - 25) % 2 = 0 then 3 else 9) else if k = 505 then 5 else if k = 506 then 3 else if k = 507 then 9 else if k < 564 then tkK (k - 508) else if k < 580 then (if k % 2 = 0 then 3 else 9) else mdK (k - 580)
def sn (k : Nat) : Nat := if k < 25 then fxN k else if k < 505 then (if (k - 25) % 60 < 56 then tkN ((k - 25) % 60) else if (k - 25) % 2 = 0 then 2 else 32) else if k = 505 then 4 else if k = 506 then 2 else if k = 507 then 1200 else if k < 564 then tkN (k - 508) else if k < 580 then (if k % 2 = 0 then 2 else 100) else mdN (k - 580)
def sf (k i : Nat) : Option Nat := if k < 25 then fxF k i else if k < 505 then (if (k - 25) % 60 < 56 then tkF (k - (k - 25) % 60) ((k - 25) % 60) i else if (k - 25) % 2 = 0 then (if i = 0 then some (k + 1) else none) else none) else if k = 505 then (if i = 0 then some 506 else none) else if k = 506 then (if i = 0 then some 507 else none) else if k = 507 then none else if k < 564 then tkF 508 (k - 508) i else if k < 580 then (if k % 2 = 0 then (if i = 0 then some (k + 1) else none) else none) else mdF (k - 580) i
/-- the value of a field: a fixed reference, or a number -/
def fv (E : En) (V : Vt) (k i : Nat) : Value := match sf k i with
  | some j => .ref (E.1 + j)
  | none => .int (V k i)
def cont (E : En) (V : Vt) (k : Nat) : va_E :=
  if sk k ≤ 8 then .inr (sk k, (List.range (sn k)).map (fv E V k))
  else if sk k ≤ 10 then .inl (E.2.2 (sk k), sn k, .inl (V k))
  else .inl (E.2.2 (sk k), sn k, .inr (.inr (.inr (.inr (fun i => (sf k i).map (fun j => E.1 + j))))))
def Wd (E : En) (V : Vt) (H : Heap) : Prop := Wc E 610 (cont E V) H
def up2 (V : Vt) (k i : Nat) (x : Int32) : Vt := va_up V k (upd (V k) i x)
theorem cont_obj (E : En) (V : Vt) {k : Nat} (h : sk k ≤ 8) : cont E V k = .inr (sk k, (List.range (sn k)).map (fv E V k)) := by simp [cont, h]
theorem cont_arr (E : En) (V : Vt) {k : Nat} (h : sk k = 9 ∨ sk k = 10) : cont E V k = .inl (E.2.2 (sk k), sn k, .inl (V k)) := by
  rcases h with h | h <;> simp [cont, h]
theorem cont_ref (E : En) (V : Vt) {k : Nat} (h : 10 < sk k) : cont E V k = .inl (E.2.2 (sk k), sn k, .inr (.inr (.inr (.inr (fun i => (sf k i).map (fun j => E.1 + j)))))) := by
  simp [cont, show ¬ sk k ≤ 8 by omega, show ¬ sk k ≤ 10 by omega]
theorem cont_ext (E : En) {V V' : Vt} {k : Nat} (h : V k = V' k) : cont E V k = cont E V' k := by
  have : fv E V k = fv E V' k := by funext i; simp [fv, h]
  simp only [cont, h, this]
theorem cont_put (E : En) (V : Vt) {k i : Nat} (h : sk k ≤ 8) (hi : i < sn k) (hf : sf k i = none) (x : Int32) : va_up (cont E V) k (.inr (sk k, ((List.range (sn k)).map (fv E V k)).set i (.int x))) = cont E (up2 V k i x) := by
  funext j
  by_cases e : j = k
  · subst e
    rw [cont_obj E _ h]
    simp only [va_up, if_true]
    congr 2
    apply List.ext_getElem?
    intro a
    rw [List.getElem?_set, List.getElem?_map, List.getElem?_map]
    by_cases ha : i = a
    · subst ha
      simp [hi, fv, hf, up2, va_up, upd]
    · simp only [ha, if_false]
      by_cases hb : a < sn j
      · simp [List.getElem?_range, hb, fv, up2, va_up, upd, Ne.symm ha]
      · simp [List.getElem?_range, hb]
  · have h1 : cont E (up2 V k i x) j = cont E V j := cont_ext E (by simp [up2, va_up, e])
    rw [h1]
    simp [va_up, e]
theorem cont_st (E : En) (V : Vt) {k : Nat} (h : sk k = 9 ∨ sk k = 10) (i : Nat) (x : Int32) : va_up (cont E V) k (.inl (E.2.2 (sk k), sn k, .inl (upd (V k) i x))) = cont E (up2 V k i x) := by
  funext j
  by_cases e : j = k
  · subst e
    rw [cont_arr E _ h]
    simp [va_up, up2]
  · have h1 : cont E (up2 V k i x) j = cont E V j := cont_ext E (by simp [up2, va_up, e])
    rw [h1]
    simp [va_up, e]
section FWd
variable {p : Program} {l : Launch} {e : Env} {R : Room} {s : State} {m : MethodId} {args : Array Value} {below : List Frame} {meth : Method} {c : Code} {H : Heap} {locs : List Loc} {cells slots : Nat} {Q : State → Prop}
variable {cc : ByteArray} {pc : Nat} {ls : Array Slot} {rest : List Value} {E : En} {V : Vt}
/-- getfield of a number -/
theorem w_gi {own ref Cn : String} {T : u_T} {N index : Nat} {Ts : List Cond} (ci i : Nat) (hx : p.tables.exec = Jvm.exec) (hb : c.code = cc) (hts : ∀ w ∈ Ts, w.before args s = true) (hin : ∀ w ∈ u_ws Cn T N, w ∈ Ts) (hown : s.vm.findClass own = some m.cls) (hK : KE E s) (hM : Wd E V H) {k : Nat} (hk : k < 610) (hs : sk k = ci) (hn : sn k = N) (hf : sf k i = none) (h8 : ci ≤ 8) (hc : vwCl[ci]? = some (Cn, T, N)) (hi : i < N) (hlink : (Cond.fieldLink own index ref (T i).2.1 (T i).2.2.1).before args s = true) (hsame : (T i).1 = ref) (hdg : decode cc pc = .ok (.getfield index, 3))
    (kk : W p l e R s m args below meth c H locs cells slots Q (F0 m (pc + 3) ls (.int (V k i) :: rest))) : W p l e R s m args below meth c H locs cells slots Q (F0 m pc ls (.ref (E.1 + k) :: rest)) := by
  subst hs
  refine wc_get hx hb hts hin hown hK hM hk (cont_obj E V h8) hc i hi hlink hsame (v := .int (V k i)) ?_ hdg kk
  simp [List.getElem?_range, hn, hi, fv, hf]
/-- getfield of a reference -/
theorem w_gr {own ref Cn : String} {T : u_T} {N index : Nat} {Ts : List Cond} (ci i j : Nat) (hx : p.tables.exec = Jvm.exec) (hb : c.code = cc) (hts : ∀ w ∈ Ts, w.before args s = true) (hin : ∀ w ∈ u_ws Cn T N, w ∈ Ts) (hown : s.vm.findClass own = some m.cls) (hK : KE E s) (hM : Wd E V H) {k : Nat} (hk : k < 610) (hs : sk k = ci) (hn : sn k = N) (hf : sf k i = some j) (h8 : ci ≤ 8) (hc : vwCl[ci]? = some (Cn, T, N)) (hi : i < N) (hlink : (Cond.fieldLink own index ref (T i).2.1 (T i).2.2.1).before args s = true) (hsame : (T i).1 = ref) (hdg : decode cc pc = .ok (.getfield index, 3))
    (kk : W p l e R s m args below meth c H locs cells slots Q (F0 m (pc + 3) ls (.ref (E.1 + j) :: rest))) : W p l e R s m args below meth c H locs cells slots Q (F0 m pc ls (.ref (E.1 + k) :: rest)) := by
  subst hs
  refine wc_get hx hb hts hin hown hK hM hk (cont_obj E V h8) hc i hi hlink hsame (v := .ref (E.1 + j)) ?_ hdg kk
  simp [List.getElem?_range, hn, hi, fv, hf]
/-- putfield of a number -/
theorem w_pi {own ref Cn : String} {T : u_T} {N index : Nat} {Ts : List Cond} (ci i : Nat) (hx : p.tables.exec = Jvm.exec) (hb : c.code = cc) (hts : ∀ w ∈ Ts, w.before args s = true) (hin : ∀ w ∈ u_ws Cn T N, w ∈ Ts) (ty0 : Nat → FieldType) (hty : ∀ k, k < N → parseFieldDescriptor (T k).2.2.1 = some (ty0 k)) (hnm : ∀ a, a < N → ∀ b, b < N → a ≠ b → (T a).2.1 ≠ (T b).2.1) (hown : s.vm.findClass own = some m.cls) (hK : KE E s) (hM : Wd E V H) (hS : va_S (AE E) s.heap H locs) {k : Nat} (hk : k < 610) (hs : sk k = ci) (hn : sn k = N) (hf : sf k i = none) (h8 : ci ≤ 8) (hc : vwCl[ci]? = some (Cn, T, N)) (hi : i < N) (hlink : (Cond.fieldLink own index ref (T i).2.1 (T i).2.2.1).before args s = true) (hsame : (T i).1 = ref) (hfin : (T i).2.2.2 = false) {x : Int32} (hnr : narrow (ty0 i) (.int x) = .int x) (hfit : fits (ty0 i) (.int x) = true) (hdg : decode cc pc = .ok (.putfield index, 3))
    (kk : ∀ (H1 : Heap) (locs1 : List Loc), Wd E (up2 V k i x) H1 → va_S (AE E) s.heap H1 locs1 → W p l e R s m args below meth c H1 locs1 cells slots Q (F0 m (pc + 3) ls rest)) : W p l e R s m args below meth c H locs cells slots Q (F0 m pc ls (.int x :: .ref (E.1 + k) :: rest)) := by
  subst hs
  refine wc_put hx hb hts hin ty0 hty hnm hown hK hM hS hk (cont_obj E V h8) hc i hi hlink hsame hfin hnr hfit (by simp [hn, hi]) hdg fun H1 locs1 h1 h2 => kk H1 locs1 ?_ h2
  rw [cont_put E V h8 (by rw [hn]; exact hi) hf] at h1
  exact h1
theorem w_ild (hx : p.tables.exec = Jvm.exec) (hb : c.code = cc) (hK : KE E s) (hM : Wd E V H) {k N : Nat} (hk : k < 610) (hs : sk k = 9) (hn : sn k = N) {i : Int32} (hin : vp_in i N) (hdg : decode cc pc = .ok (.iaload, 1))
    (kk : W p l e R s m args below meth c H locs cells slots Q (F0 m (pc + 1) ls (.int (V k i.toNatClampNeg) :: rest))) : W p l e R s m args below meth c H locs cells slots Q (F0 m pc ls (.int i :: .ref (E.1 + k) :: rest)) := by
  subst hn
  refine wc_ild hx hb hK hM hk (f := V k) ?_ hin hdg kk
  rw [cont_arr E V (Or.inl hs), hs]
theorem w_zld (hx : p.tables.exec = Jvm.exec) (hb : c.code = cc) (hK : KE E s) (hM : Wd E V H) {k N : Nat} (hk : k < 610) (hs : sk k = 10) (hn : sn k = N) {i : Int32} (hin : vp_in i N) (hdg : decode cc pc = .ok (.baload, 1))
    (kk : W p l e R s m args below meth c H locs cells slots Q (F0 m (pc + 1) ls (.int (V k i.toNatClampNeg) :: rest))) : W p l e R s m args below meth c H locs cells slots Q (F0 m pc ls (.int i :: .ref (E.1 + k) :: rest)) := by
  subst hn
  refine wc_zld hx hb hK hM hk (f := V k) ?_ hin hdg kk
  rw [cont_arr E V (Or.inr hs), hs]
theorem w_ist (hx : p.tables.exec = Jvm.exec) (hb : c.code = cc) (hK : KE E s) (hM : Wd E V H) (hS : va_S (AE E) s.heap H locs) {k N : Nat} (hk : k < 610) (hs : sk k = 9) (hn : sn k = N) {i x : Int32} (hin : vp_in i N) (hdg : decode cc pc = .ok (.iastore, 1))
    (kk : ∀ (H1 : Heap) (locs1 : List Loc), Wd E (up2 V k i.toNatClampNeg x) H1 → va_S (AE E) s.heap H1 locs1 → W p l e R s m args below meth c H1 locs1 cells slots Q (F0 m (pc + 1) ls rest)) : W p l e R s m args below meth c H locs cells slots Q (F0 m pc ls (.int x :: .int i :: .ref (E.1 + k) :: rest)) := by
  subst hn
  refine wc_ist hx hb hK hM hS hk (f := V k) (by rw [cont_arr E V (Or.inl hs), hs]) hin hdg fun H1 locs1 h1 h2 => kk H1 locs1 ?_ h2
  have := cont_st E V (Or.inl hs) i.toNatClampNeg x
  rw [hs] at this
  rw [this] at h1
  exact h1
theorem w_zst (hx : p.tables.exec = Jvm.exec) (hb : c.code = cc) (hK : KE E s) (hM : Wd E V H) (hS : va_S (AE E) s.heap H locs) {k N : Nat} (hk : k < 610) (hs : sk k = 10) (hn : sn k = N) {i x : Int32} (hin : vp_in i N) (hbx : vp_nar .boolean x = x) (hdg : decode cc pc = .ok (.bastore, 1))
    (kk : ∀ (H1 : Heap) (locs1 : List Loc), Wd E (up2 V k i.toNatClampNeg x) H1 → va_S (AE E) s.heap H1 locs1 → W p l e R s m args below meth c H1 locs1 cells slots Q (F0 m (pc + 1) ls rest)) : W p l e R s m args below meth c H locs cells slots Q (F0 m pc ls (.int x :: .int i :: .ref (E.1 + k) :: rest)) := by
  subst hn
  refine wc_zst hx hb hK hM hS hk (f := V k) (by rw [cont_arr E V (Or.inr hs), hs]) hin hbx hdg fun H1 locs1 h1 h2 => kk H1 locs1 ?_ h2
  have := cont_st E V (Or.inr hs) i.toNatClampNeg x
  rw [hs] at this
  rw [this] at h1
  exact h1
theorem w_ald (t0 : Nat) (hx : p.tables.exec = Jvm.exec) (hb : c.code = cc) (hK : KE E s) (hM : Wd E V H) {k N : Nat} (hk : k < 610) {Cn : String} (ht : (tyE E)[t0]? = some (E.2.2 (sk k), .object Cn)) (hs : 10 < sk k) (hn : sn k = N) {i : Int32} (hin : vp_in i N) (j : Nat) (hj : sf k i.toNatClampNeg = some j) (hdg : decode cc pc = .ok (.aaload, 1))
    (kk : W p l e R s m args below meth c H locs cells slots Q (F0 m (pc + 1) ls (.ref (E.1 + j) :: rest))) : W p l e R s m args below meth c H locs cells slots Q (F0 m pc ls (.int i :: .ref (E.1 + k) :: rest)) := by
  subst hn
  refine wc_ald hx hb hK hM hk ht (cont_ref E V hs) hin (j := E.1 + j) ?_ hdg kk
  simp [hj]
theorem w_len (hx : p.tables.exec = Jvm.exec) (hb : c.code = cc) (hK : KE E s) (hM : Wd E V H) {k N : Nat} (hk : k < 610) (hs : sk k = 9) (hn : sn k = N) (hdg : decode cc pc = .ok (.arraylength, 1))
    (kk : W p l e R s m args below meth c H locs cells slots Q (F0 m (pc + 1) ls (.int (nI N) :: rest))) : W p l e R s m args below meth c H locs cells slots Q (F0 m pc ls (.ref (E.1 + k) :: rest)) := by
  subst hn
  refine wc_len (t0 := 0) (ty := .int) hx hb hK hM hk (x := (sn k, .inl (V k))) rfl ?_ hdg kk
  rw [cont_arr E V (Or.inl hs), hs]
theorem lv_eqi {x y : Int32} (h : x = y) (k : W p l e R s m args below meth c H locs cells slots Q (F0 m pc ls (.int y :: rest))) : W p l e R s m args below meth c H locs cells slots Q (F0 m pc ls (.int x :: rest)) := h ▸ k
end FWd
