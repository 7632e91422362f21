/-! arraycopy out of a table; THE HASH as a function of lists -/
section FTab
variable {p : Program} {l : Launch} {e : Env} {R : Room} {s : State} {m : MethodId} {args : Array Value} {below : List Frame} {meth : Method} {c : Code} {H : Heap} {locs : List Loc} {cells slots : Nat} {Q : State → Prop}
variable {cc : ByteArray} {pc : Nat} {ls : Array Slot} {rest : List Value} {E : En} {V : Vt}
theorem w_cpyT (hx : p.tables.exec = Jvm.exec) (hb : c.code = cc) (hml : c.maxLocals = ls.size) {own : String} {index : Nat} (hown : s.vm.findClass own = some m.cls) (hlink : (Cond.methodLink own index arraycopyName).before args s = true) (hnat : (Cond.native arraycopyName).before args s = true) (hstat : (Cond.static arraycopyName).before args s = true) (hini : (Cond.initialized "java/lang/System").before args s = true)
    (hK : KX E s) (hM : Wd E V H) (hS : va_S (AE E) s.heap H locs) {t0 n0 : Nat} {f : Nat → Int32} (hTb : va_T .int t0 n0 (fun j => .int (f j)) (AE E) s s.heap) {k1 n1 : Nat} (hk1 : k1 < 610) (hs1 : sk k1 = 9) (hn1 : sn k1 = n1)
    {sp dp n : Int32} (h1 : ¬ sp < 0) (h2 : ¬ dp < 0) (h3 : ¬ n < 0) (h4 : sp.toNatClampNeg + n.toNatClampNeg ≤ n0) (h5 : dp.toNatClampNeg + n.toNatClampNeg ≤ n1)
    (hframes : 1 ≤ R.frames) (hlocals : (rest.map fun v => v.category).sum + (nativeFrameWords "java/lang/System" "arraycopy" 5 + 11) ≤ R.locals) (hdg : decode cc pc = .ok (.invokestatic index, 3))
    (kk : ∀ (H1 : Heap) (locs1 : List Loc), Wd E (va_up V k1 (va_cpy f (V k1) sp.toNatClampNeg dp.toNatClampNeg n.toNatClampNeg)) H1 → va_S (AE E) s.heap H1 locs1 → W p l e R s m args below meth c H1 locs1 cells slots Q (F0 m (pc + 3) ls rest)) : W p l e R s m args below meth c H locs cells slots Q (F0 m pc ls (.int n :: .int dp :: .ref (E.1 + k1) :: .int sp :: .ref t0 :: rest)) := by
  have nn : ∀ z : Int32, ¬ z < 0 → z.toInt = (z.toNatClampNeg : Int) := by
    intro z hz
    have hz0 : (0 : Int) ≤ z.toInt := by
      have := Int32.not_lt.mp hz
      simpa using Int32.le_iff_toInt_le.mp this
    show z.toInt = ((z.toInt.toNat : Nat) : Int)
    omega
  intro T hT X
  obtain ⟨scr, hs1', hs2, hs3, hs4, -, hs5, hs7⟩ := hTb
  have hc0 : H[t0]? = some scr := by rw [hS.2.1 t0 (Array.getElem?_eq_some_iff.mp hs1').1 hs7]; exact hs1'
  have hc1 : H[E.1 + k1]? = some (vp_cell (E.2.2 9) (n1, .inl (V k1))) := by
    have h0 := hM.2 k1 hk1
    rw [cont_arr E V (Or.inl hs1), hs1, hn1] at h0
    exact h0
  obtain ⟨hs6, k0, hk0, cm0, hkk0⟩ := hs2
  obtain ⟨-, kk1, hkk, cm1, hkk1⟩ := hK.1.i n1 (fun j => .int (V k1 j))
  obtain ⟨vm', X', step⟩ := X.arraycopy hx hown hlink hnat hstat hini (src := t0) (dst := E.1 + k1) (cs := scr) (cd := vp_cell (E.2.2 9) (n1, .inl (V k1))) (srcPos := sp) (destPos := dp) (n := n) (by rw [hT]; exact hc0) (by rw [hT]; exact hc1)
    hs6 (fun _ h => by cases h) hs3 (fun h => by cases h) hk0 hkk hkk0 hkk1 (by simp [refKind]) h1 h2 h3
    (by rw [nn sp h1, nn n h3]; omega)
    (by rw [nn dp h2, nn n h3]; show ¬ _ > ((arrV (E.2.2 9) n1 (fun j => .int (V k1 j))).slots.size : Int); rw [arrV_size]; omega)
    (fun vm₁ _ i hi => by
      have e : scr.slots.getD (sp.toNatClampNeg + i) .null = .int (f (sp.toNatClampNeg + i)) := by
        rw [Array.getD_eq_getD_getElem?, hs5 _ (by omega)]
        rfl
      refine ⟨?_, ?_⟩
      · rw [e]; rfl
      · rw [e]; exact trivial)
    (g := F0 m pc ls (.int n :: .int dp :: .ref (E.1 + k1) :: .int sp :: .ref t0 :: rest)) rfl (by rw [hml]) (rest := rest) rfl (by rw [hb]; exact hdg) hframes (by show 2 * 0 + _ + _ ≤ _; omega)
  have e1 : copied scr (vp_cell (E.2.2 9) (n1, .inl (V k1))) sp dp n = vp_cell (E.2.2 9) (n1, .inl (va_cpy f (V k1) sp.toNatClampNeg dp.toNatClampNeg n.toNatClampNeg)) := va_copiedX (fun z => .int z) scr (E.2.2 9) f (V k1) hs5 h4
  rw [e1] at X' step
  have hl : E.1 + k1 < H.size := (Array.getElem?_eq_some_iff.mp hc1).1
  generalize hH1 : H.setIfInBounds (E.1 + k1) (vp_cell (E.2.2 9) (n1, .inl (va_cpy f (V k1) sp.toNatClampNeg dp.toNatClampNeg n.toNatClampNeg))) = H1
  have hheap : ((T.setVm vm').setCell (E.1 + k1) (vp_cell (E.2.2 9) (n1, .inl (va_cpy f (V k1) sp.toNatClampNeg dp.toNatClampNeg n.toNatClampNeg)))).heap = H1 := by rw [← hH1, ← hT]; rfl
  have oq : ∀ q : Nat, q ≠ E.1 + k1 → H1[q]? = H[q]? := fun q hq => by rw [← hH1]; simp [Array.getElem?_setIfInBounds, Ne.symm hq]
  have hz : H1.size = H.size := by rw [← hH1]; simp
  have hq : H1[E.1 + k1]? = some (vp_cell (E.2.2 9) (n1, .inl (va_cpy f (V k1) sp.toNatClampNeg dp.toNatClampNeg n.toNatClampNeg))) := by rw [← hH1]; simp [Array.getElem?_setIfInBounds, hl]
  obtain ⟨t, a1, b1⟩ := kk H1 _ (by
      have h := hM.set (x := .inl (E.2.2 9, n1, .inl (va_cpy f (V k1) sp.toNatClampNeg dp.toNatClampNeg n.toNatClampNeg))) hz oq hq
      refine h.congr (fun j hj => ?_)
      by_cases ej : j = k1
      · subst ej
        rw [cont_arr E _ (Or.inl hs1), hs1, hn1]
        simp [va_up]
      · rw [cont_ext E (V := va_up V k1 _) (V' := V) (by simp [va_up, ej])]
        simp [va_up, ej]) ⟨by rw [hz]; exact hS.1, fun q g1 g2 => by
      rw [oq q (fun e => g2 (by rw [e]; exact Nat.le_add_right _ _))]
      exact hS.2.1 q g1 g2, fun q hq => by
      rcases List.mem_append.mp hq with h | h
      · exact hS.2.2 q h
      · obtain ⟨z, -, hz⟩ := List.mem_map.mp h
        rw [← hz]
        exact Nat.le_add_right _ _⟩ _ hheap X'
  exact ⟨t, step t a1, b1⟩
end FTab
def ush (x k : Int32) : Int32 := (x.toUInt32 >>> (k.toUInt32 &&& Int32.toUInt32 31)).toInt32
/-- turned to the right -/
def rt (x k : Int32) : Int32 := ush x k ||| x <<< ((32 - k) &&& 31)
def sg0 (a : Int32) : Int32 := (rt a 7 ^^^ rt a 18) ^^^ ush a 3
def sg1 (b : Int32) : Int32 := (rt b 17 ^^^ rt b 19) ^^^ ush b 10
def wNext (w : Nat → Int32) (t : Nat) : Int32 := ((w (t - 16) + sg0 (w (t - 15))) + w (t - 7)) + sg1 (w (t - 2))
/-- the words as n steps have spread them -/
def sched (w : Nat → Int32) : Nat → Nat → Int32
  | 0 => w
  | n + 1 => upd (sched w n) (16 + n) (wNext (sched w n) (16 + n))
theorem sched_congr {w w' : Nat → Int32} (h : ∀ t, t < 16 → w t = w' t) : ∀ n t, t < 16 + n → sched w n t = sched w' n t := by
  intro n
  induction n with
  | zero => intro t ht; exact h t ht
  | succ n ih =>
    intro t ht
    simp only [sched, upd]
    by_cases e : t = 16 + n
    · rw [if_pos e, if_pos e]
      unfold wNext
      rw [ih (16 + n - 16) (by omega), ih (16 + n - 15) (by omega), ih (16 + n - 7) (by omega), ih (16 + n - 2) (by omega)]
    · rw [if_neg e, if_neg e]
      exact ih t (by omega)
def rX (k w : Int32) (s : Nat → Int32) : Int32 := (((s 7 + ((rt (s 4) 6 ^^^ rt (s 4) 11) ^^^ rt (s 4) 25)) + ((s 4 &&& s 5) ^^^ ((s 4 ^^^ (-1)) &&& s 6))) + k) + w
def rY (s : Nat → Int32) : Int32 := ((rt (s 0) 2 ^^^ rt (s 0) 13) ^^^ rt (s 0) 22) + (((s 0 &&& s 1) ^^^ (s 0 &&& s 2)) ^^^ (s 1 &&& s 2))
def rnd (k w : Int32) (s : Nat → Int32) : Nat → Int32
  | 0 => rX k w s + rY s
  | 1 => s 0
  | 2 => s 1
  | 3 => s 2
  | 4 => s 3 + rX k w s
  | 5 => s 4
  | 6 => s 5
  | _ => s 6
def rnds (w : Nat → Int32) (s : Nat → Int32) : Nat → Nat → Int32
  | 0 => s
  | n + 1 => rnd (cuT.getD n 0) (w n) (rnds w s n)
theorem rnds_congr {w w' s s' : Nat → Int32} (hs : ∀ i, i < 8 → s i = s' i) : ∀ n, (∀ t, t < n → w t = w' t) → ∀ i, i < 8 → rnds w s n i = rnds w' s' n i := by
  intro n
  induction n with
  | zero => intro _ i hi; exact hs i hi
  | succ n ih =>
    intro hw i hi
    have hr := ih (fun t ht => hw t (by omega))
    have hw' := hw n (by omega)
    have hX : rX (cuT.getD n 0) (w n) (rnds w s n) = rX (cuT.getD n 0) (w' n) (rnds w' s' n) := by
      unfold rX; rw [hw', hr 7 (by omega), hr 4 (by omega), hr 5 (by omega), hr 6 (by omega)]
    have hY : rY (rnds w s n) = rY (rnds w' s' n) := by
      unfold rY; rw [hr 0 (by omega), hr 1 (by omega), hr 2 (by omega)]
    simp only [rnds]
    rcases (show i = 0 ∨ i = 1 ∨ i = 2 ∨ i = 3 ∨ i = 4 ∨ i = 5 ∨ i = 6 ∨ i = 7 by omega) with rfl | rfl | rfl | rfl | rfl | rfl | rfl | rfl
    · simp only [rnd]; rw [hX, hY]
    · exact hr 0 (by omega)
    · exact hr 1 (by omega)
    · exact hr 2 (by omega)
    · simp only [rnd]; rw [hX, hr 3 (by omega)]
    · exact hr 4 (by omega)
    · exact hr 5 (by omega)
    · exact hr 6 (by omega)
/-- one block -/
def shaB (h w : Nat → Int32) : Nat → Int32 := fun i => h i + rnds (sched w 48) h 64 i
def be32 (b : Nat → Int32) (a : Nat) : Nat → Int32 := fun t => ((b (a + 4 * t) <<< ((24 : Int32) &&& 31) ||| b (a + 4 * t + 1) <<< ((16 : Int32) &&& 31)) ||| b (a + 4 * t + 2) <<< ((8 : Int32) &&& 31)) ||| b (a + 4 * t + 3)
def shaH (b : Nat → Int32) : Nat → Nat → Int32
  | 0 => fun i => sqT.getD i 0
  | n + 1 => shaB (shaH b n) (be32 b (64 * n))
theorem shaB_congr {h h' w w' : Nat → Int32} (hh : ∀ i, i < 8 → h i = h' i) (hw : ∀ t, t < 16 → w t = w' t) : ∀ i, i < 8 → shaB h w i = shaB h' w' i := by
  intro i hi
  unfold shaB
  rw [hh i hi, rnds_congr hh 64 (fun t ht => sched_congr hw 48 t (by omega)) i hi]
theorem shaH_congr {b b' : Nat → Int32} : ∀ n, (∀ t, t < 64 * n → b t = b' t) → ∀ i, i < 8 → shaH b n i = shaH b' n i := by
  intro n
  induction n with
  | zero => intro _ i _; rfl
  | succ n ih =>
    intro hb i hi
    exact shaB_congr (ih (fun t ht => hb t (by omega))) (fun t ht => by unfold be32; rw [hb _ (by omega), hb _ (by omega), hb _ (by omega), hb _ (by omega)]) i hi
def zN (n : Nat) : Nat := (120 - (n + 1) % 64) % 64
def padL (l : List Int32) : List Int32 := (((l ++ [128]) ++ List.replicate (zN l.length) 0) ++ w4 0) ++ w4 (nI (8 * l.length))
def fL (l : List Int32) : Nat → Int32 := fun i => l.getD i 0
/-- the hash of some bytes -/
def sha (l : List Int32) : List Int32 := (List.range 8).flatMap (fun i => w4 (shaH (fL (padL l)) ((padL l).length / 64) i))
theorem w4_len (w : Int32) : (w4 w).length = 4 := rfl
theorem padL_len (l : List Int32) : (padL l).length = l.length + 9 + zN l.length := by
  simp [padL, w4_len]; omega
theorem padL_mod (l : List Int32) : (padL l).length % 64 = 0 := by
  rw [padL_len]; unfold zN; omega
theorem sha_len (l : List Int32) : (sha l).length = 32 := by
  simp [sha, List.length_flatMap, w4_len]
  decide
/-- THE SEAL -/
def kB (k : List Int32) : List Int32 := (if k.length > 64 then sha k else k) ++ List.replicate (64 - (if k.length > 64 then sha k else k).length) 0
def hmac (k m : List Int32) : List Int32 := sha ((kB k).map (fun x => x ^^^ 92) ++ sha ((kB k).map (fun x => x ^^^ 54) ++ m))
theorem kB_len (k : List Int32) : (kB k).length = 64 := by
  unfold kB
  by_cases h : k.length > 64
  · simp [h, sha_len]
  · simp [h]; omega
theorem hmac_len (k m : List Int32) : (hmac k m).length = 32 := sha_len _
