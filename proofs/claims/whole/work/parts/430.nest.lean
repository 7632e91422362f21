/-! PRIVATE METHODS AND CONSTRUCTORS of nest mates: the four links, as words of the tables -/
def NW (U : State) : Prop := va_Nw (.methodLinkNest RX7 184 yX2_walk "LimitTokens") U ∧ va_Nw (.methodLinkNest RX2 26 yX0_init "LimitTokens") U ∧ va_Nw (.methodLinkNest RX6 29 yX1_init "LimitTokens") U ∧ va_Nw (.methodLinkNest RX7 24 yX5_init "LimitTokens") U
theorem NW.same {u U : State} (h : u.vm = U.vm) (hN : NW u) : NW U := ⟨hN.1.same rfl h, hN.2.1.same rfl h, hN.2.2.1.same rfl h, hN.2.2.2.same rfl h⟩
theorem NW.warm {s U : State} (hW : s.WarmedH U.vm) (hN : NW s) : NW U := ⟨hN.1.warmM hW, hN.2.1.warmM hW, hN.2.2.1.warmM hW, hN.2.2.2.warmM hW⟩
def PN (E : En) (X : Heap → Prop) (av : List Value) : Array Value → State → Prop := va_Pc av (fun U => X U.heap ∧ KX E U ∧ NW U)
theorem PN.blind {E : En} {X : Heap → Prop} {av : List Value} : FrameBlind (PN E X av) := by
  intro a U g mk h
  obtain ⟨h1, h2, ⟨h3, h4⟩, h5⟩ := h
  exact ⟨h1, h2, ⟨va_K.moved (u := U) (U := U.calling g mk a) (Vm.Alike.refl U.vm) h3, STE.moved (u := U) (U := U.calling g mk a) (Vm.Alike.refl U.vm) h4⟩, h5.same rfl⟩
abbrev CIN (l : Launch) (y : MethodName) (ws : List Cond) (d : Nat) (E : En) (V : Vt) (av : List Value) (post : Int32 → Vt → Prop) : Prop := Met l y ws (rmD d) (PN E (Wd E V) av) (QI E (fun V' => Wd E V') post) 0 0 (AE E)
section FNest
variable {p : Program} {l : Launch} {e : Env} {R : Room} {s : State} {m : MethodId} {args : Array Value} {below : List Frame} {meth : Method} {c : Code} {H : Heap} {locs : List Loc} {cells slots : Nat} {Q : State → Prop}
variable {cc : ByteArray} {pc : Nat} {ls : Array Slot} {rest : List Value} {E : En} {V : Vt}
variable {S : Type} {X : Heap → Prop} {X' : S → Heap → Prop} {y : MethodName} {ws : List Cond} {rm : Room} {mc ms nL n index maxL : Nat} {Ts : List Cond} {own C host : String} {bytes : ByteArray} {ret : Option FieldType} {As : List Value}
theorem w_cVNi {post : Int32 → S → Prop} (Sx : CallFix p m c cc nL s args Ts own) {b : Nat} (hM : Met l y ws rm (PG E X (.ref b :: As)) (QI E X' post) mc ms (AE E)) (cw : va_CN R s args own index y host bytes maxL ret ws rm mc ms n ∧ (Cond.instanceMethod y).before args s = true ∧ (Cond.selects C y y).before args s = true) (hr : ∃ cellB : Cell, H[b]? = some cellB ∧ cellB.vm.isStatics = false ∧ s.vm.findClass C = some cellB.cls) (hX : X H) (hK : KX E s) (hS : va_S (AE E) s.heap H locs)
    (hn : As.length = n) (hsize : ls.size = nL) {st : List Value} (hst : st = As.reverse ++ .ref b :: rest) (hW : 2 * (F0 m pc ls st).monitorRoom + (rest.map fun v => v.category).sum ≤ 8) (hdg : decode cc pc = .ok (.invokevirtual index, 3)) (hf : cells + mc ≤ R.cells ∧ slots + ms ≤ R.slots)
    (kk : ∀ (r : Int32) (u : S) (H1 : Heap) (locs1 : List Loc), post r u → X' u H1 → va_S (AE E) s.heap H1 locs1 → W p l e R s m args below meth c H1 locs1 (cells + mc) (slots + ms) Q (F0 m (pc + 3) ls (.int r :: rest))) : W p l e R s m args below meth c H locs cells slots Q (F0 m pc ls st) := by
  refine va_calli (va_runVN (As := As) (rest := rest) Sx hM cw ⟨PG.blind, hr, fun U hU hW => ⟨rfl, by rw [hU]; exact hX, hK.go hS hU hW.alike⟩⟩ rfl hn hsize hst hW hdg hf) hS (fun q _ h => h) (fun q h => h) (fun r u t H1 locs1 ht hvm hw hB hz1 hk1 hS => ?_)
  obtain ⟨hB1, -⟩ := hB
  rw [ht] at hB1
  exact kk r u H1 locs1 hw hB1 hS
/-- a call of an instance method whose start wants the links of nest mates too -/
theorem w_cVPi {post : Int32 → S → Prop} (Sx : CallFix p m c cc nL s args Ts own) {b : Nat} (hM : Met l y ws rm (PN E X (.ref b :: As)) (QI E X' post) mc ms (AE E)) (hN : NW s) (cw : CallW R s args own C index y bytes maxL ret ws rm mc ms n) (hr : ∃ cellB : Cell, H[b]? = some cellB ∧ cellB.vm.isStatics = false ∧ s.vm.findClass C = some cellB.cls) (hX : X H) (hK : KX E s) (hS : va_S (AE E) s.heap H locs)
    (hn : As.length = n) (hsize : ls.size = nL) {st : List Value} (hst : st = As.reverse ++ .ref b :: rest) (hW : 2 * (F0 m pc ls st).monitorRoom + (rest.map fun v => v.category).sum ≤ 8) (hdg : decode cc pc = .ok (.invokevirtual index, 3)) (hf : cells + mc ≤ R.cells ∧ slots + ms ≤ R.slots)
    (kk : ∀ (r : Int32) (u : S) (H1 : Heap) (locs1 : List Loc), post r u → X' u H1 → va_S (AE E) s.heap H1 locs1 → W p l e R s m args below meth c H1 locs1 (cells + mc) (slots + ms) Q (F0 m (pc + 3) ls (.int r :: rest))) : W p l e R s m args below meth c H locs cells slots Q (F0 m pc ls st) := by
  refine va_calli (va_runV (As := As) (rest := rest) Sx hM cw ⟨PN.blind, hr, fun U hU hW => ⟨rfl, by rw [hU]; exact hX, hK.go hS hU hW.alike, hN.warm hW⟩⟩ rfl hn hsize hst hW hdg hf) hS (fun q _ h => h) (fun q h => h) (fun r u t H1 locs1 ht hvm hw hB hz1 hk1 hS => ?_)
  obtain ⟨hB1, -⟩ := hB
  rw [ht] at hB1
  exact kk r u H1 locs1 hw hB1 hS
end FNest
/-! the walk looks at the request through truth alone; its faults are 1 to 4 -/
theorem wOne_q {q q' : Nat → Int32} (h : ∀ l, truth q l = truth q' l) (tk : Nat → Tk) (ps : List Int32) (rc : Nat → List Int32 → Nat × Nat → WR) (t i : Nat) (L : Lm) (s : List Int32) (σ : Nat × Nat) : wOne q tk ps rc t i L s σ = wOne q' tk ps rc t i L s σ := by
  simp only [wOne, h]
theorem wLims_q {q q' : Nat → Int32} (h : ∀ l, truth q l = truth q' l) (tk : Nat → Tk) (ps : List Int32) (rc : Nat → List Int32 → Nat × Nat → WR) (t : Nat) : ∀ (ls : List Lm) (i : Nat) (s : List Int32) (σ : Nat × Nat), wLims q tk ps rc t ls i s σ = wLims q' tk ps rc t ls i s σ
  | [], i, s, σ => rfl
  | L :: ls, i, s, σ => by
    simp only [wLims, wOne_q h]
    split
    · rfl
    · exact wLims_q h tk ps rc t ls _ _ _
theorem wk_q {q q' : Nat → Int32} (h : ∀ l, truth q l = truth q' l) (tk : Nat → Tk) (ps : List Int32) : ∀ f, wk q tk ps f = wk q' tk ps f
  | 0 => rfl
  | f + 1 => by
    funext t k σ
    simp only [wk, wk_q h tk ps f]
    exact wLims_q h _ _ _ _ _ _ _ _
/-- where rc's faults are 1 to 4 at a mask with fewer helpers -/
def okF (rc : Nat → List Int32 → Nat × Nat → WR) (n : Nat) : Prop := ∀ t k σ, σ.1 < 256 → cnt σ.1 < n → ∀ F, (rc t k σ).1 = .inl F → 1 ≤ F.1 ∧ F.1 ≤ 4
theorem wOne_F {q : Nat → Int32} {tk : Nat → Tk} {ps : List Int32} {rc : Nat → List Int32 → Nat × Nat → WR} {n : Nat} (hr : okF rc n) (t i : Nat) (L : Lm) (s : List Int32) (σ : Nat × Nat) (hm : σ.1 < 256) (hc : cnt σ.1 < n + 1) : ∀ F, (wOne q tk ps rc t i L s σ).1 = .inl F → 1 ≤ F.1 ∧ F.1 ≤ 4 := by
  unfold wOne
  intro F
  split
  · split
    · intro h; cases h
    · intro h; cases h; dsimp only; split <;> decide
  · split
    · intro h; cases h; exact ⟨show 1 ≤ 3 by decide, show 3 ≤ 4 by decide⟩
    · rename_i h hq
      obtain ⟨h1, h2, h3⟩ := fH_some hq
      simp only [Bool.and_eq_true] at h1
      have ho := okW.one hm (show h < 8 by omega) h1.1
      have hcc := (clr_lt σ.1 hm h (by omega)).2 h1.1
      have hrr := hr h (xorL L.2 (hmac s L.1)) (clr σ.1 h, σ.2 + 1) ho.1 (by dsimp only; omega)
      split
      · rename_i f σ' hz
        rw [hz] at hrr
        intro h; cases h; exact hrr _ rfl
      · split
        · intro h; cases h
        · intro h; cases h; exact ⟨show 1 ≤ 4 by decide, show 4 ≤ 4 by decide⟩
theorem wLims_F {q : Nat → Int32} {tk : Nat → Tk} {ps : List Int32} {rc : Nat → List Int32 → Nat × Nat → WR} {n : Nat} (hr : okF rc n) (hk : okR rc) (t : Nat) : ∀ (ls : List Lm) (i : Nat) (s : List Int32) (σ : Nat × Nat), σ.1 < 256 → cnt σ.1 < n + 1 → ∀ F, (wLims q tk ps rc t ls i s σ).1 = .inl F → 1 ≤ F.1 ∧ F.1 ≤ 4
  | [], i, s, σ, hm, hs => fun F h => by cases h
  | L :: ls, i, s, σ, hm, hs => by
    have h1 := wOne_F (q := q) (tk := tk) (ps := ps) hr t i L s σ hm hs
    have h2 := wOne_ok (q := q) (tk := tk) (ps := ps) hk t i L s σ hm
    simp only [wLims]
    split
    · rename_i f σ' hz
      rw [hz] at h1
      exact h1
    · rename_i s2 σ' hz
      rw [hz] at h2
      exact wLims_F hr hk t ls (i + 1) s2 σ' h2.1.1 (Nat.lt_of_le_of_lt h2.1.2.2.1 hs)
theorem wk_F (q : Nat → Int32) (tk : Nat → Tk) (ps : List Int32) : ∀ f, okF (wk q tk ps f) f := by
  intro f
  induction f with
  | zero => intro t k σ hm hc; omega
  | succ f ih => intro t k σ hm hc; exact wLims_F ih (wk_ok q tk ps f) t _ 0 _ σ hm hc
theorem areT_j {σ : St} {h : Int32} (i : areT σ h = true) : rj h < 256 ∧ h = nI (rj h) ∧ ∀ t, t < 8 → (rj h).testBit t = true → (σ.2.1 t).isSome = true := by
  simp only [areT, Bool.and_eq_true, List.all_eq_true, List.mem_range, Bool.or_eq_true, Bool.not_eq_true'] at i
  have hj := inR_j i.1 (m := 0) (n := 255) rfl rfl (by omega) (by omega)
  exact ⟨by omega, hj.2.2, fun t ht hb => (i.2 t ht).elim (fun q => by rw [hb] at q; cases q) id⟩
theorem repC.tkE {V : Vt} {σ : St} (h : repC V σ) : tkE V (tkf σ) (fun t => (σ.2.1 t).isSome) := by
  obtain ⟨⟨-, oT, -⟩, -, cT, -, -, -, -, cZ⟩ := h
  refine ⟨fun t ht hD => ?_, cZ⟩
  obtain ⟨T, hT⟩ := Option.isSome_iff_exists.mp hD
  have e : tkf σ t = T := by unfold tkf; rw [hT]; rfl
  rw [e]
  exact ⟨((cT t ht).s hT).2, oT t ht T hT⟩
/-- what fault() tells has changed -/
theorem repC.flt {V V' : Vt} {σ : St} (h : repC V σ) {a b c : Int32} (ha : V' 2 8 = a) (hb : V' 2 9 = b) (hc : V' 2 10 = c) (f : ∀ j, j = 19 ∨ j = 20 ∨ j = 22 ∨ (25 ≤ j ∧ j < 505 ∧ (j - 25) % 60 < 56) ∨ j = 505 ∨ j = 506 ∨ j = 507 ∨ 564 ≤ j → V' j = V j) : repC V' (sFlt σ (a, b, c)) := by
  obtain ⟨ho, h1, h2, h3, h4, h5, h6, h7⟩ := h
  exact ⟨ho, h1.fr (fun j a b => f j (by omega)), h2.fr ho.2.1 (fun j a b c => f j (by omega)), h3.keep (f _ (by omega)) (f _ (by omega)), h4.fr (f 22 (by omega)), ⟨ha, hb, hc⟩, by rw [f 505 (by omega)]; exact h6, h7.keep (f _ (by omega)) (f _ (by omega))⟩
theorem cnI_ne {a : Nat} (h : 1 ≤ a) (h2 : a < 2 ^ 31) : ¬ nI a = 0 := fun e => by
  have := congrArg Int32.toNatClampNeg e
  rw [nI_clamp h2] at this
  have h0 : (0 : Int32).toNatClampNeg = 0 := by decide
  omega
