/-! THE CALLS, as functions of the state: the answer, and the state behind it -/
def rj (r : Int32) : Nat := r.toNatClampNeg
def lo8 (w : Int64) (i : Nat) : Int32 := ((w.toUInt64 >>> ((8 * nI i).toInt64.toUInt64 &&& Int64.toUInt64 63)).toInt64).toInt32 &&& 255
def lowB (w : Int64) (n : Nat) : List Int32 := (List.range n).map (lo8 w)
def okW1 (l : List Int32) : Bool := decide (1 ≤ l.length) && decide (l.length ≤ 60)
def thr (σ : St) (t : Int32) : Option Tk := if in8 t then σ.2.1 (rj t) else none
def opAdd (σ : St) (r n : Int32) (w : Int64) : Int32 × St := if in8 r && inR n 1 8 then (if (σ.1 (rj r)).length + rj n ≤ 100 then (nI ((σ.1 (rj r)).length + rj n), sReg σ (rj r) (σ.1 (rj r) ++ lowB w (rj n))) else (-3, σ)) else (-2, σ)
def opClear (σ : St) (r : Int32) : Int32 × St := if in8 r then (nI (σ.1 (rj r)).length, sReg σ (rj r) []) else (-2, σ)
def opAt (σ : St) (r i : Int32) : Int32 × St := (if in8 r then bAt (σ.1 (rj r)) i else -2, σ)
def opHash (σ : St) (a b : Int32) : Int32 × St := if in8 a && in8 b then (32, sReg σ (rj a) (sha (σ.1 (rj b)))) else (-2, σ)
def opSeal (σ : St) (a k m : Int32) : Int32 × St := if in8 a && in8 k && in8 m then (32, sReg σ (rj a) (hmac (σ.1 (rj k)) (σ.1 (rj m)))) else (-2, σ)
def opMake (σ : St) (t k n : Int32) : Int32 × St := if in8 t && in8 k && in8 n then (if okW1 (σ.1 (rj n)) then (0, sTok σ (rj t) (some (σ.1 (rj n), hmac (σ.1 (rj k)) (σ.1 (rj n)), []))) else (-3, σ)) else (-2, σ)
def opLimit (σ : St) (t x : Int32) : Int32 × St := match thr σ t with
  | none => (-2, σ)
  | some T => if in8 x then (if okW1 (σ.1 (rj x)) && decide (T.2.2.length < 10) then (nI (T.2.2.length + 1), sTok σ (rj t) (some (T.1, hmac T.2.1 (σ.1 (rj x)), T.2.2 ++ [(σ.1 (rj x), [])]))) else (-3, σ)) else (-2, σ)
def opOthers (σ : St) (t k x : Int32) : Int32 × St := match thr σ t with
  | none => (-2, σ)
  | some T => if in8 k && in8 x then (if okW1 (σ.1 (rj x)) && decide (T.2.2.length < 10) && decide ((σ.1 (rj k)).length = 32) then (nI (T.2.2.length + 1), sTok σ (rj t) (some (T.1, hmac T.2.1 (hmac T.2.1 (xorL (σ.1 (rj k)) (hmac T.2.1 (σ.1 (rj x)))) ++ hmac T.2.1 (σ.1 (rj x))), T.2.2 ++ [(σ.1 (rj x), xorL (σ.1 (rj k)) (hmac T.2.1 (σ.1 (rj x))))]))) else (-3, σ)) else (-2, σ)
def opBind (σ : St) (t u : Int32) : Int32 × St := match thr σ t with
  | none => (-2, σ)
  | some T => match thr σ u with
    | none => (-2, σ)
    | some U => (0, sTok σ (rj t) (some (T.1, hmac zr (U.2.1 ++ T.2.1), T.2.2)))
def opCopy (σ : St) (t u : Int32) : Int32 × St := match thr σ t with
  | none => (-2, σ)
  | some T => if in8 u then (nI T.2.2.length, sTok σ (rj u) (some T)) else (-2, σ)
def opDrop (σ : St) (t : Int32) : Int32 × St := if in8 t then (b2i (σ.2.1 (rj t)).isSome, sTok σ (rj t) none) else (-2, σ)
def opTold (σ : St) (t w : Int32) : Int32 × St := (match thr σ t with
  | none => -2
  | some T => if inR w 0 11 then (if w = 0 then nI T.1.length else if w = 1 then nI T.2.2.length else if rj (w - 2) < T.2.2.length then nI ((T.2.2.getD (rj (w - 2)) lz).1.length + (if (T.2.2.getD (rj (w - 2)) lz).2 = [] then 0 else 100)) else 0) else -2, σ)
def opSign (σ : St) (t i : Int32) : Int32 × St := (match thr σ t with
  | none => -2
  | some T => if inR i 0 31 then T.2.1.getD (rj i) 0 else -2, σ)
def has (l : List Int32) (i : Int32) : Bool := decide (0 ≤ i) && decide (i < nI l.length)
def opSpoil (σ : St) (t k i x : Int32) : Int32 × St := match thr σ t with
  | none => (-2, σ)
  | some T => if inR k 0 (nI T.2.2.length) && inR x 0 255 then (if k = 0 then (if has T.2.1 i then (T.2.1.getD (rj i) 0 ^^^ x, sTok σ (rj t) (some (T.1, T.2.1.set (rj i) (T.2.1.getD (rj i) 0 ^^^ x), T.2.2))) else (-2, σ)) else (if has (T.2.2.getD (rj (k - 1)) lz).1 i then ((T.2.2.getD (rj (k - 1)) lz).1.getD (rj i) 0 ^^^ x, sTok σ (rj t) (some (T.1, T.2.1, T.2.2.set (rj (k - 1)) ((T.2.2.getD (rj (k - 1)) lz).1.set (rj i) ((T.2.2.getD (rj (k - 1)) lz).1.getD (rj i) 0 ^^^ x), (T.2.2.getD (rj (k - 1)) lz).2)))) else (-2, σ))) else (-2, σ)
def opAsk (σ : St) (i v : Int32) : Int32 × St := if in8 i && inR v 0 999999 then (σ.2.2.2.1 (rj i), sReq σ (rj i) v) else (-2, σ)
def opTruth (σ : St) (r : Int32) : Int32 × St := (if in8 r then truth σ.2.2.2.1 (σ.1 (rj r)) else -2, σ)
def tkf (σ : St) (t : Nat) : Tk := (σ.2.1 t).getD ([], [], [])
def areT (σ : St) (h : Int32) : Bool := inR h 0 255 && (List.range 8).all (fun t => !(rj h).testBit t || (σ.2.1 t).isSome)
def opProve (σ : St) (t k h : Int32) : Int32 × St := match thr σ t with
  | none => (-2, σ)
  | some T => if in8 k && areT σ h then (match wk σ.2.2.2.1 (tkf σ) T.2.1 8 (rj t) (σ.1 (rj k)) (clr (rj h) (rj t), 0) with
    | (.inl f, s) => (-10 - nI f.1, sFlt σ (nI f.2.1, nI f.2.2, nI s.2))
    | (.inr g, s) => if g = T.2.1 then (0, sFlt σ (-1, -1, nI s.2)) else (-15, sFlt σ (nI (rj t), nI T.2.2.length, nI s.2))) else (-2, σ)
def opFault (σ : St) (w : Int32) : Int32 × St := (if w = 0 then σ.2.2.2.2.1.1 else if w = 1 then σ.2.2.2.2.1.2.1 else if w = 2 then σ.2.2.2.2.1.2.2 else -2, σ)
def opWrite (σ : St) (t : Int32) : Int32 × St := match thr σ t with
  | none => (-2, σ)
  | some T => (nI (tokB T).length, sTape σ (tokB T))
def opType (σ : St) (w : Int64) (n : Int32) : Int32 × St := if inR n 1 8 then (if σ.2.2.1.length + rj n ≤ 1200 then (nI (σ.2.2.1.length + rj n), sTape σ (σ.2.2.1 ++ lowB w (rj n))) else (-3, σ)) else (-2, σ)
def opTape (σ : St) (i : Int32) : Int32 × St := (bAt σ.2.2.1 i, σ)
def opCut (σ : St) (n : Int32) : Int32 × St := if inR n 0 (nI σ.2.2.1.length) then (nI (σ.2.2.1.length - rj n), sTape σ (σ.2.2.1.take (rj n))) else (-2, σ)
def opForge (σ : St) (i x : Int32) : Int32 × St := if has σ.2.2.1 i && inR x 0 255 then (σ.2.2.1.getD (rj i) 0 ^^^ x, sTape σ (σ.2.2.1.set (rj i) (σ.2.2.1.getD (rj i) 0 ^^^ x))) else (-2, σ)
def opRead (σ : St) (t : Int32) : Int32 × St := if in8 t then (match rTok σ.2.2.1 with
  | .inl e => (-10 - nI e.1, sPlc σ (nI e.2))
  | .inr T => (nI T.2.2.length, sTok (sPlc σ (-1)) (rj t) (some T))) else (-2, σ)
def opPlace (σ : St) : Int32 × St := (σ.2.2.2.2.2, σ)
theorem inR_j {x a b : Int32} {m n : Nat} (h : inR x a b = true) (ha : a = nI m) (hb : b = nI n) (hm : m < 2 ^ 31) (hn : n < 2 ^ 31) : m ≤ rj x ∧ rj x ≤ n ∧ x = nI (rj x) := by
  simp only [inR, Bool.and_eq_true, decide_eq_true_eq] at h
  subst ha; subst hb
  have h0 : ¬ x < 0 := fun q => h.1 (Int32.lt_of_lt_of_le q (nI_pos' hm))
  obtain ⟨j, hj, e⟩ := nI_of2 (nI_toInt hn) h0 (Int32.not_lt.mp h.2)
  have hr : rj x = j := by unfold rj; rw [e, nI_clamp (by omega)]
  rw [hr]
  refine ⟨?_, hj, e⟩
  rw [e] at h
  exact Nat.not_lt.mp (fun q => h.1 (nI_lt q hm))
theorem has_j {l : List Int32} {i : Int32} (h : has l i = true) (hl : l.length < 2 ^ 31) : rj i < l.length ∧ i = nI (rj i) := by
  simp only [has, Bool.and_eq_true, decide_eq_true_eq] at h
  obtain ⟨j, hj, e⟩ := ix_of (i := i) (n := l.length) (Int32.not_lt.mpr h.1) (Int32.not_le.mpr h.2) hl
  have hr : rj i = j := by unfold rj; rw [e, nI_clamp (by omega)]
  rw [hr]; exact ⟨hj, e⟩
theorem has_if (l : List Int32) (i : Int32) : (if 0 ≤ i ∧ i < nI l.length then (1 : Int32) else 0) = b2i (has l i) := by
  unfold has b2i
  by_cases h : 0 ≤ i ∧ i < nI l.length
  · rw [if_pos h]; simp [h.1, h.2]
  · rw [if_neg h]
    rw [if_neg (by simp only [Bool.and_eq_true, decide_eq_true_eq]; exact h)]
theorem thr_some {σ : St} {t : Int32} {T : Tk} (h : thr σ t = some T) : in8 t = true ∧ rj t < 8 ∧ t = nI (rj t) ∧ σ.2.1 (rj t) = some T := by
  unfold thr at h
  by_cases hi : in8 t = true
  · rw [if_pos hi] at h
    exact ⟨hi, (in8_j hi).1, (in8_j hi).2, h⟩
  · rw [if_neg hi] at h; cases h
theorem cTok1.s {V : Vt} {t : Nat} {o : Option Tk} {T : Tk} (h : cTok1 V t o) (e : o = some T) : V (25 + 60 * t) 4 = 1 ∧ tokIs V (25 + 60 * t) T := by subst e; exact h
theorem cTok1.b {V : Vt} {t : Nat} {o : Option Tk} (h : cTok1 V t o) : V (25 + 60 * t) 4 = b2i o.isSome := by
  cases o with
  | none => exact h
  | some T => exact h.1
theorem lowB_len (w : Int64) (n : Nat) : (lowB w n).length = n := by simp [lowB]
theorem lowB_s (w : Int64) (n : Nat) : lowB w (n + 1) = lowB w n ++ [lo8 w n] := by unfold lowB; rw [List.range_succ, List.map_append]; rfl
theorem and255 (x : Int32) : 0 ≤ x &&& 255 := by
  have h := pk_and x (m := 255) 8 (by decide)
  rw [h]
  exact nI_pos' (by omega)
theorem lowB_ok (w : Int64) (n : Nat) : okL (lowB w n) := by
  intro x hx
  obtain ⟨i, -, e⟩ := List.mem_map.mp hx
  rw [← e]; exact and255 _
theorem okL.app {a b : List Int32} (h1 : okL a) (h2 : okL b) : okL (a ++ b) := fun x hx => (List.mem_append.mp hx).elim (h1 x) (h2 x)
theorem w4_ok (w : Int32) : okL (w4 w) := by
  have h0 : (0 : Int32) ≤ (w.toUInt32 >>> ((24 : Int32).toUInt32 &&& Int32.toUInt32 31)).toInt32 := by
    have h := pk_ushr w 24 24 (by decide)
    have hw : w.toBitVec.toNat < 2 ^ 32 := w.toBitVec.isLt
    have e : (w.toUInt32 >>> ((24 : Int32).toUInt32 &&& Int32.toUInt32 31)).toInt32 = nI (w.toBitVec.toNat / 2 ^ 24) := by
      apply Int32.toBitVec_inj.mp
      apply BitVec.eq_of_toNat_eq
      rw [h, pk_tn (by omega)]
    rw [e]; exact nI_pos' (by omega)
  intro x hx
  simp only [w4, List.mem_cons, List.not_mem_nil, or_false] at hx
  rcases hx with rfl | rfl | rfl | rfl
  · exact h0
  · exact and255 _
  · exact and255 _
  · exact and255 _
theorem sha_ok (l : List Int32) : okL (sha l) := by
  intro x hx
  obtain ⟨i, -, h⟩ := List.mem_flatMap.mp hx
  exact w4_ok _ x h
theorem hmac_ok (k m : List Int32) : okL (hmac k m) := sha_ok _
theorem xor_ok {x y : Int32} (hx : 0 ≤ x) (hy : 0 ≤ y) : 0 ≤ x ^^^ y := by
  obtain ⟨a, ha, rfl⟩ := nI_of (Int32.not_lt.mpr hx)
  obtain ⟨b, hb, rfl⟩ := nI_of (Int32.not_lt.mpr hy)
  rw [show nI a ^^^ nI b = nI (a ^^^ b) from by
    apply Int32.toBitVec_inj.mp
    apply BitVec.eq_of_toNat_eq
    show ((nI a).toBitVec ^^^ (nI b).toBitVec).toNat = _
    rw [BitVec.toNat_xor, pk_tn (by omega), pk_tn (by omega), pk_tn (Nat.lt_trans (Nat.xor_lt_two_pow ha hb) (by omega))]]
  exact nI_pos' (Nat.xor_lt_two_pow ha hb)
theorem xorL_ok {a b : List Int32} (h1 : okL a) (h2 : okL b) : okL (xorL a b) := by
  induction a generalizing b with
  | nil => intro x hx; simp [xorL] at hx
  | cons x a ih =>
    cases b with
    | nil => intro x hx; simp [xorL] at hx
    | cons y b =>
      intro z hz
      have hz : z ∈ (x ^^^ y) :: xorL a b := hz
      rcases List.mem_cons.mp hz with rfl | hz
      · exact xor_ok (h1 x (by simp)) (h2 y (by simp))
      · exact ih (fun u hu => h1 u (by simp [hu])) (fun u hu => h2 u (by simp [hu])) z hz
theorem okL.set {l : List Int32} (h : okL l) {i : Nat} {y : Int32} (hy : 0 ≤ y) : okL (l.set i y) := fun x hx => (List.mem_or_eq_of_mem_set hx).elim (h x) (fun e => by rw [e]; exact hy)
theorem okL.gd {l : List Int32} (h : okL l) (i : Nat) : 0 ≤ l.getD i 0 := by
  rw [List.getD_eq_getElem?_getD]
  cases e : l[i]? with
  | none => decide
  | some x => exact h x (List.mem_of_getElem? e)
