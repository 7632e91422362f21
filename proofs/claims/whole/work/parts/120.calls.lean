/-! CONTRACTS over a world: what a method is given and gives back; calls; the two tables of the sealer -/
def sqT : List Int32 := [1779033703, -1150833019, 1013904242, -1521486534, 1359893119, -1694144372, 528734635, 1541459225]
def cuT : List Int32 := [1116352408, 1899447441, -1245643825, -373957723, 961987163, 1508970993, -1841331548, -1424204075, -670586216, 310598401, 607225278, 1426881987, 1925078388, -2132889090, -1680079193, -1046744716, -459576895, -272742522, 264347078, 604807628, 770255983, 1249150122, 1555081692, 1996064986, -1740746414, -1473132947, -1341970488, -1084653625, -958395405, -710438585, 113926993, 338241895, 666307205, 773529912, 1294757372, 1396182291, 1695183700, 1986661051, -2117940946, -1838011259, -1564481375, -1474664885, -1035236496, -949202525, -778901479, -694614492, -200395387, 275423344, 430227734, 506948616, 659060556, 883997877, 958139571, 1322822218, 1537002063, 1747873779, 1955562222, 2024104815, -2067236844, -1933114872, -1866530822, -1538233109, -1090935817, -965641998]
def STE (E : En) (U : State) (H : Heap) : Prop := ∃ t1 t2 : Nat, va_Z RX4 "SQUARE_ROOTS" "[I" (.ref t1) (AE E) U H ∧ va_T .int t1 8 (fun j => .int (sqT.getD j 0)) (AE E) U H ∧ va_Z RX4 "CUBE_ROOTS" "[I" (.ref t2) (AE E) U H ∧ va_T .int t2 64 (fun j => .int (cuT.getD j 0)) (AE E) U H
def KX (E : En) (U : State) : Prop := KE E U ∧ STE E U U.heap
theorem STE.moved {E : En} {u U : State} {H : Heap} (hvm : u.vm.Alike U.vm) (h : STE E u H) : STE E U H := by
  obtain ⟨t1, t2, h1, h2, h3, h4⟩ := h
  exact ⟨t1, t2, h1.moved hvm, h2.moved hvm, h3.moved hvm, h4.moved hvm⟩
theorem STE.kept {E : En} {U : State} {H H1 : Heap} (h : STE E U H) (hq : ∀ a : Nat, a < H.size → ¬ AE E a → H1[a]? = H[a]?) : STE E U H1 := by
  obtain ⟨t1, t2, h1, h2, h3, h4⟩ := h
  exact ⟨t1, t2, h1.kept hq, h2.kept hq, h3.kept hq, h4.kept hq⟩
theorem KX.go {E : En} {s t : State} {H : Heap} {locs : List Loc} (h : KX E s) (hS : va_S (AE E) s.heap H locs) (ht : t.heap = H) (hvm : s.vm.Alike t.vm) : KX E t :=
  ⟨va_K.moved hvm h.1, by rw [ht]; exact (h.2.moved hvm).kept hS.2.1⟩
/-- a method's start: its arguments, the world X, the tables -/
def PG (E : En) (X : Heap → Prop) (av : List Value) : Array Value → State → Prop := va_Pc av (fun U => X U.heap ∧ KX E U)
theorem PG.blind {E : En} {X : Heap → Prop} {av : List Value} : FrameBlind (PG E X av) := by
  intro a U g mk h
  obtain ⟨h1, h2, h3, h4⟩ := h
  exact ⟨h1, h2, va_K.moved (u := U) (U := U.calling g mk a) (Vm.Alike.refl U.vm) h3, STE.moved (u := U) (U := U.calling g mk a) (Vm.Alike.refl U.vm) h4⟩
def QI (E : En) {S : Type} (X : S → Heap → Prop) (post : Int32 → S → Prop) : Array Value → State → Outcome → State → Prop := va_Qi post (fun u t => X u t.heap ∧ KX E t) (AE E)
def QV (E : En) {S : Type} (X : S → Heap → Prop) (post : S → Prop) : Array Value → State → Outcome → State → Prop := va_Qv post (fun u t => X u t.heap ∧ KX E t) (AE E)
/-- the room of a method that calls d deep -/
abbrev rmD (d : Nat) : Room := { frames := d, cells := 0, slots := 0, locals := 60 * d }
/-- a contract of a method that makes nothing, over the whole world: V before, an answer and V' behind -/
abbrev CI (l : Launch) (y : MethodName) (ws : List Cond) (d : Nat) (E : En) (V : Vt) (av : List Value) (post : Int32 → Vt → Prop) : Prop := Met l y ws (rmD d) (PG E (Wd E V) av) (QI E (fun V' => Wd E V') post) 0 0 (AE E)
abbrev CV (l : Launch) (y : MethodName) (ws : List Cond) (d : Nat) (E : En) (V : Vt) (av : List Value) (post : Vt → Prop) : Prop := Met l y ws (rmD d) (PG E (Wd E V) av) (QV E (fun V' => Wd E V') post) 0 0 (AE E)
section FCall
variable {p : Program} {l : Launch} {e : Env} {R : Room} {s : State} {m : MethodId} {args : Array Value} {below : List Frame} {meth : Method} {c : Code} {H : Heap} {locs : List Loc} {cells slots : Nat} {Q : State → Prop}
variable {cc : ByteArray} {pc : Nat} {ls : Array Slot} {rest : List Value} {E : En} {V : Vt}
theorem W.sz {g : JFrame} (k : H.size ≤ s.heap.size + cells → W p l e R s m args below meth c H locs cells slots Q g) : W p l e R s m args below meth c H locs cells slots Q g := fun T hT X => k (by have := X.heapSize; rw [hT] at this; exact this) T hT X
variable {S : Type} {X : Heap → Prop} {X' : S → Heap → Prop} {y : MethodName} {ws : List Cond} {rm : Room} {mc ms nL n index maxL : Nat} {Ts : List Cond} {own C : String} {bytes : ByteArray} {ret : Option FieldType} {As : List Value}
theorem w_recv (hK : KX E s) (hM : Wd E V H) {k : Nat} (hk : k < 610) {ci : Nat} (hs : sk k = ci) (h8 : ci ≤ 8) {T : u_T} {N : Nat} (hc : vwCl[ci]? = some (C, T, N)) : ∃ cellB : Cell, H[E.1 + k]? = some cellB ∧ cellB.vm.isStatics = false ∧ s.vm.findClass C = some cellB.cls := by
  subst hs
  have h0 := hM.2 k hk
  rw [cont_obj E V h8] at h0
  obtain ⟨r, h1, cell, q1, q2, q3, -⟩ := h0
  refine ⟨cell, q1, by rw [q3]; rfl, ?_⟩
  rw [q2]
  exact (hK.1.1 _ _ hc).2.1
theorem w_cVi {post : Int32 → S → Prop} (Sx : CallFix p m c cc nL s args Ts own) {b : Nat} (hM : Met l y ws rm (PG E X (.ref b :: As)) (QI E X' post) mc ms (AE E)) (cw : CallW R s args own C index y bytes maxL ret ws rm mc ms n) (hr : ∃ cellB : Cell, H[b]? = some cellB ∧ cellB.vm.isStatics = false ∧ s.vm.findClass C = some cellB.cls) (hX : X H) (hK : KX E s) (hS : va_S (AE E) s.heap H locs)
    (hn : As.length = n) (hsize : ls.size = nL) {st : List Value} (hst : st = As.reverse ++ .ref b :: rest) (hW : 2 * (F0 m pc ls st).monitorRoom + (rest.map fun v => v.category).sum ≤ 8) (hdg : decode cc pc = .ok (.invokevirtual index, 3)) (hf : cells + mc ≤ R.cells ∧ slots + ms ≤ R.slots)
    (kk : ∀ (r : Int32) (u : S) (H1 : Heap) (locs1 : List Loc), post r u → X' u H1 → va_S (AE E) s.heap H1 locs1 → W p l e R s m args below meth c H1 locs1 (cells + mc) (slots + ms) Q (F0 m (pc + 3) ls (.int r :: rest))) : W p l e R s m args below meth c H locs cells slots Q (F0 m pc ls st) := by
  refine va_calli (va_runV (As := As) (rest := rest) Sx hM cw ⟨PG.blind, hr, fun U hU hW => ⟨rfl, by rw [hU]; exact hX, hK.go hS hU hW.alike⟩⟩ rfl hn hsize hst hW hdg hf) hS (fun q _ h => h) (fun q h => h) (fun r u t H1 locs1 ht hvm hw hB hz1 hk1 hS => ?_)
  obtain ⟨hB1, -⟩ := hB
  rw [ht] at hB1
  exact kk r u H1 locs1 hw hB1 hS
theorem w_cVv {post : S → Prop} (Sx : CallFix p m c cc nL s args Ts own) {b : Nat} (hM : Met l y ws rm (PG E X (.ref b :: As)) (QV E X' post) mc ms (AE E)) (cw : CallW R s args own C index y bytes maxL ret ws rm mc ms n) (hr : ∃ cellB : Cell, H[b]? = some cellB ∧ cellB.vm.isStatics = false ∧ s.vm.findClass C = some cellB.cls) (hX : X H) (hK : KX E s) (hS : va_S (AE E) s.heap H locs)
    (hn : As.length = n) (hsize : ls.size = nL) {st : List Value} (hst : st = As.reverse ++ .ref b :: rest) (hW : 2 * (F0 m pc ls st).monitorRoom + (rest.map fun v => v.category).sum ≤ 8) (hdg : decode cc pc = .ok (.invokevirtual index, 3)) (hf : cells + mc ≤ R.cells ∧ slots + ms ≤ R.slots)
    (kk : ∀ (u : S) (H1 : Heap) (locs1 : List Loc), post u → X' u H1 → va_S (AE E) s.heap H1 locs1 → W p l e R s m args below meth c H1 locs1 (cells + mc) (slots + ms) Q (F0 m (pc + 3) ls rest)) : W p l e R s m args below meth c H locs cells slots Q (F0 m pc ls st) := by
  refine va_callv (va_runV (As := As) (rest := rest) Sx hM cw ⟨PG.blind, hr, fun U hU hW => ⟨rfl, by rw [hU]; exact hX, hK.go hS hU hW.alike⟩⟩ rfl hn hsize hst hW hdg hf) hS (fun q _ h => h) (fun q h => h) (fun u t H1 locs1 ht hvm hw hB hz1 hk1 hS => ?_)
  obtain ⟨hB1, -⟩ := hB
  rw [ht] at hB1
  exact kk u H1 locs1 hw hB1 hS
theorem w_cSi {post : Int32 → S → Prop} (Sx : CallFix p m c cc nL s args Ts own) (hM : Met l y ws rm (PG E X As) (QI E X' post) mc ms (AE E)) (cw : CallB R s args own index y bytes maxL ret ws rm mc ms n ∧ (Cond.static y).before args s = true) (hX : X H) (hK : KX E s) (hS : va_S (AE E) s.heap H locs)
    (hn : As.length = n) (hsize : ls.size = nL) {st : List Value} (hst : st = As.reverse ++ rest) (hW : 2 * (F0 m pc ls st).monitorRoom + (rest.map fun v => v.category).sum ≤ 8) (hdg : decode cc pc = .ok (.invokestatic index, 3)) (hf : cells + mc ≤ R.cells ∧ slots + ms ≤ R.slots)
    (kk : ∀ (r : Int32) (u : S) (H1 : Heap) (locs1 : List Loc), post r u → X' u H1 → va_S (AE E) s.heap H1 locs1 → W p l e R s m args below meth c H1 locs1 (cells + mc) (slots + ms) Q (F0 m (pc + 3) ls (.int r :: rest))) : W p l e R s m args below meth c H locs cells slots Q (F0 m pc ls st) := by
  refine va_calli (va_runS (As := As) (rest := rest) Sx hM cw ⟨PG.blind, fun U hU hW => ⟨rfl, by rw [hU]; exact hX, hK.go hS hU hW.alike⟩⟩ rfl hn hsize hst hW hdg hf) hS (fun q _ h => h) (fun q h => h) (fun r u t H1 locs1 ht hvm hw hB hz1 hk1 hS => ?_)
  obtain ⟨hB1, -⟩ := hB
  rw [ht] at hB1
  exact kk r u H1 locs1 hw hB1 hS
theorem w_cSv {post : S → Prop} (Sx : CallFix p m c cc nL s args Ts own) (hM : Met l y ws rm (PG E X As) (QV E X' post) mc ms (AE E)) (cw : CallB R s args own index y bytes maxL ret ws rm mc ms n ∧ (Cond.static y).before args s = true) (hX : X H) (hK : KX E s) (hS : va_S (AE E) s.heap H locs)
    (hn : As.length = n) (hsize : ls.size = nL) {st : List Value} (hst : st = As.reverse ++ rest) (hW : 2 * (F0 m pc ls st).monitorRoom + (rest.map fun v => v.category).sum ≤ 8) (hdg : decode cc pc = .ok (.invokestatic index, 3)) (hf : cells + mc ≤ R.cells ∧ slots + ms ≤ R.slots)
    (kk : ∀ (u : S) (H1 : Heap) (locs1 : List Loc), post u → X' u H1 → va_S (AE E) s.heap H1 locs1 → W p l e R s m args below meth c H1 locs1 (cells + mc) (slots + ms) Q (F0 m (pc + 3) ls rest)) : W p l e R s m args below meth c H locs cells slots Q (F0 m pc ls st) := by
  refine va_callv (va_runS (As := As) (rest := rest) Sx hM cw ⟨PG.blind, fun U hU hW => ⟨rfl, by rw [hU]; exact hX, hK.go hS hU hW.alike⟩⟩ rfl hn hsize hst hW hdg hf) hS (fun q _ h => h) (fun q h => h) (fun u t H1 locs1 ht hvm hw hB hz1 hk1 hS => ?_)
  obtain ⟨hB1, -⟩ := hB
  rw [ht] at hB1
  exact kk u H1 locs1 hw hB1 hS
theorem w_cIv {post : S → Prop} (Sx : CallFix p m c cc nL s args Ts own) {b : Nat} (hM : Met l y ws rm (PG E X (.ref b :: As)) (QV E X' post) mc ms (AE E)) (cw : CallB R s args own index y bytes maxL none ws rm mc ms n ∧ y.name = "<init>" ∧ (Cond.instanceMethod y).before args s = true) (hX : X H) (hK : KX E s) (hS : va_S (AE E) s.heap H locs)
    (hn : As.length = n) (hsize : ls.size = nL) {st : List Value} (hst : st = As.reverse ++ .ref b :: rest) (hW : 2 * (F0 m pc ls st).monitorRoom + (rest.map fun v => v.category).sum ≤ 8) (hdg : decode cc pc = .ok (.invokespecial index, 3)) (hf : cells + mc ≤ R.cells ∧ slots + ms ≤ R.slots)
    (kk : ∀ (u : S) (H1 : Heap) (locs1 : List Loc), post u → X' u H1 → va_S (AE E) s.heap H1 locs1 → W p l e R s m args below meth c H1 locs1 (cells + mc) (slots + ms) Q (F0 m (pc + 3) ls rest)) : W p l e R s m args below meth c H locs cells slots Q (F0 m pc ls st) := by
  refine va_callv (va_runI (As := As) (rest := rest) Sx hM cw ⟨PG.blind, fun U hU hW => ⟨rfl, by rw [hU]; exact hX, hK.go hS hU hW.alike⟩⟩ rfl hn hsize hst hW hdg hf) hS (fun q _ h => h) (fun q h => h) (fun u t H1 locs1 ht hvm hw hB hz1 hk1 hS => ?_)
  obtain ⟨hB1, -⟩ := hB
  rw [ht] at hB1
  exact kk u H1 locs1 hw hB1 hS
/-- ends -/
theorem w_vret {free : Addr → Prop} {S : Type} {X' : S → Heap → Prop} {post : S → Prop} (u : S) (hx : p.tables.exec = Jvm.exec) (hb : c.code = cc) (hr : meth.sig.returnType = none) (hK : KX E s) (hS : va_S (AE E) s.heap H locs) (hM : X' u H) (hp : post u) (hlocks : meth.locks = false) (hdg : decode cc pc = .ok (.return_, 1)) :
    W p l e R s m args below meth c H locs cells slots (MQ below (QV E X' post) args s cells slots (AE E)) (F0 m pc ls []) :=
  W.vret hx hb hr (fun t ht hW => ⟨⟨u, rfl, hp, by rw [ht]; exact hM, hK.go hS ht hW.alike⟩, hS.F ht⟩) hS.2.2 hdg hlocks
theorem w_iret {S : Type} {X' : S → Heap → Prop} {post : Int32 → S → Prop} {v : Int32} (u : S) (hx : p.tables.exec = Jvm.exec) (hb : c.code = cc) (hr : meth.sig.returnType = some .int) (hK : KX E s) (hS : va_S (AE E) s.heap H locs) (hM : X' u H) (hp : post v u) (hlocks : meth.locks = false) (hdg : decode cc pc = .ok (.ireturn, 1)) :
    W p l e R s m args below meth c H locs cells slots (MQ below (QI E X' post) args s cells slots (AE E)) (F0 m pc ls [.int v]) :=
  W.iret hx hb hr (fun t ht hW => ⟨⟨v, u, rfl, hp, by rw [ht]; exact hM, hK.go hS ht hW.alike⟩, hS.F ht⟩) hS.2.2 hdg hlocks
theorem w_zret {S : Type} {X' : S → Heap → Prop} {post : Int32 → S → Prop} {v : Int32} (u : S) (hx : p.tables.exec = Jvm.exec) (hb : c.code = cc) (hr : meth.sig.returnType = some .boolean) (hK : KX E s) (hS : va_S (AE E) s.heap H locs) (hM : X' u H) (hp : post v u) (hv : narrow .boolean (.int v) = .int v) (hlocks : meth.locks = false) (hdg : decode cc pc = .ok (.ireturn, 1)) :
    W p l e R s m args below meth c H locs cells slots (MQ below (QI E X' post) args s cells slots (AE E)) (F0 m pc ls [.int v]) :=
  W.zret hx hb hr hv (fun t ht hW => ⟨⟨v, u, rfl, hp, by rw [ht]; exact hM, hK.go hS ht hW.alike⟩, hS.F ht⟩) hS.2.2 hdg hlocks
/-- System.arraycopy from one int row to another -/
theorem w_cpy (hx : p.tables.exec = Jvm.exec) (hb : c.code = cc) (hml : c.maxLocals = ls.size) {own : String} {index : Nat} (hown : s.vm.findClass own = some m.cls) (hlink : (Cond.methodLink own index arraycopyName).before args s = true) (hnat : (Cond.native arraycopyName).before args s = true) (hstat : (Cond.static arraycopyName).before args s = true) (hini : (Cond.initialized "java/lang/System").before args s = true)
    (hK : KX E s) (hM : Wd E V H) (h0 : s.heap.size = E.1 + 610) (hS : va_S (AE E) s.heap H locs) {k0 k1 n0 n1 : Nat} (hne : k0 ≠ k1) (hk0 : k0 < 610) (hk1 : k1 < 610) (hs0 : sk k0 = 9) (hs1 : sk k1 = 9) (hn0 : sn k0 = n0) (hn1 : sn k1 = n1)
    {sp dp n : Int32} (h1 : ¬ sp < 0) (h2 : ¬ dp < 0) (h3 : ¬ n < 0) (h4 : sp.toNatClampNeg + n.toNatClampNeg ≤ n0) (h5 : dp.toNatClampNeg + n.toNatClampNeg ≤ n1)
    (hframes : 1 ≤ R.frames) (hlocals : (rest.map fun v => v.category).sum + (nativeFrameWords "java/lang/System" "arraycopy" 5 + 11) ≤ R.locals) (hdg : decode cc pc = .ok (.invokestatic index, 3))
    (kk : ∀ (H1 : Heap) (locs1 : List Loc), Wd E (va_up V k1 (va_cpy (V k0) (V k1) sp.toNatClampNeg dp.toNatClampNeg n.toNatClampNeg)) H1 → va_S (AE E) s.heap H1 locs1 → W p l e R s m args below meth c H1 locs1 0 slots Q (F0 m (pc + 3) ls rest)) : W p l e R s m args below meth c H locs 0 slots Q (F0 m pc ls (.int n :: .int dp :: .ref (E.1 + k1) :: .int sp :: .ref (E.1 + k0) :: rest)) := by
  have hg : ∀ k, k < 610 → ((List.range 610).map (fun k => (E.1 + k, cont E V k)))[k]? = some (E.1 + k, cont E V k) := fun k hk => by simp [List.getElem?_range, hk]
  have hP : va_P E.2.1 vwCl ((List.range 610).map (fun k => (E.1 + k, cont E V k))) H := fun j q hj => by
    have hz : j < 610 := by have := (List.getElem?_eq_some_iff.mp hj).1; simpa using this
    rw [hg j hz] at hj
    cases hj
    exact hM.2 j hz
  have hD : va_D (AE E) ((List.range 610).map (fun k => (E.1 + k, cont E V k))) := by
    refine ⟨fun i j x y hi hj hxy => ?_, fun j q hj => ?_⟩
    · have zi : i < 610 := by have := (List.getElem?_eq_some_iff.mp hi).1; simpa using this
      have zj : j < 610 := by have := (List.getElem?_eq_some_iff.mp hj).1; simpa using this
      rw [hg i zi] at hi
      rw [hg j zj] at hj
      cases hi
      cases hj
      simp at hxy
      exact hxy
    · have zj : j < 610 := by have := (List.getElem?_eq_some_iff.mp hj).1; simpa using this
      rw [hg j zj] at hj
      cases hj
      exact Nat.le_add_right _ _
  refine va_copyi hx hb hml hown hlink hnat hstat hini hK.1 hP hD hS k0 k1 0 0 (f := V k0) (g := V k1) (n0 := n0) (n1 := n1) (ty := .int) (by rw [hg k0 hk0, cont_arr E V (Or.inl hs0), hs0, hn0]) (by rw [hg k1 hk1, cont_arr E V (Or.inl hs1), hs1, hn1]) rfl rfl rfl h1 h2 h3 h4 h5 (fun _ _ => rfl) hframes hlocals hdg (fun H1 locs1 hP1 _ hS1 => W.sz (fun hz => kk H1 locs1 ?_ hS1))
  refine ⟨by have := hS1.1; omega, fun j hj => ?_⟩
  have hj2 := hP1 j
  by_cases ej : j = k1
  · subst ej
    have := hj2 (E.1 + j, _) (by rw [List.getElem?_set_self (by simpa using hj)])
    rw [cont_arr E _ (Or.inl hs1), hs1, hn1]
    simpa [va_up] using this
  · have := hj2 (E.1 + j, cont E V j) (by rw [List.getElem?_set_ne (Ne.symm ej)]; exact hg j hj)
    rw [cont_ext E (V' := V) (by simp [va_up, ej])]
    exact this
end FCall
