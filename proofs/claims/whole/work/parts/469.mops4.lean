-- needs: 450 451 456 460 461 462 464 466
section FZst
variable {p : Program} {l : Launch} {e : Env} {R : Room} {s : State} {m : MethodId} {args : Array Value} {below : List Frame} {meth : Method} {c : Code} {H : Heap} {locs : List Loc} {cells slots : Nat} {Q : State → Prop}
variable {cc : ByteArray} {pc : Nat} {ls : Array Slot} {rest : List Value} {E : En} {V : Vt}
/-- bastore into a boolean row, of any int -/
theorem w_zstN (hx : p.tables.exec = Jvm.exec) (hb : c.code = cc) (hK : KE E s) (hM : Wd E V H) (hS : va_S (AE E) s.heap H locs) {k N : Nat} (hk : k < 610) (hs : sk k = 10) (hn : sn k = N) {i x : Int32} (hin : vp_in i N) (hdg : decode cc pc = .ok (.bastore, 1))
    (kk : ∀ (H1 : Heap) (locs1 : List Loc), Wd E (up2 V k i.toNatClampNeg (vp_nar .boolean x)) H1 → va_S (AE E) s.heap H1 locs1 → W p l e R s m args below meth c H1 locs1 cells slots Q (F0 m (pc + 1) ls rest)) : W p l e R s m args below meth c H locs cells slots Q (F0 m pc ls (.int x :: .int i :: .ref (E.1 + k) :: rest)) := by
  subst hn
  have he : cont E V k = .inl (E.2.2 10, sn k, .inl (V k)) := by rw [cont_arr E V (Or.inr hs), hs]
  have harr := Wc.arr hM hk he
  refine W.zast hx hb harr (hK.z (sn k) (fun j => .int (V k j))) (fun q => by cases q) (by show ¬ (i < 0 ∨ (arrV _ _ _).slots.size ≤ _); rw [arrV_size]; exact hin) rfl rfl hdg fun H1 e1 z oq => ?_
  refine kk H1 _ ?_ (hS.put z oq (Nat.le_add_right _ _))
  have h1 : Wc E 610 (va_up (cont E V) k (.inl (E.2.2 10, sn k, .inl (upd (V k) i.toNatClampNeg (vp_nar .boolean x))))) H1 := by
    refine Wc.set hM z oq ?_
    show H1[E.1 + k]? = some (vp_cell _ _)
    rw [e1]
    show some ((vp_cell (E.2.2 10) (sn k, .inl (V k))).setSlot _ _) = _
    rw [vp_cell_i, vp_cell_i, arrV_store]
    have hnx : narrow .boolean (.int x) = .int (vp_nar .boolean x) := by simp [vp_nar, narrow]
    rw [hnx]
    congr 2
    funext q
    by_cases hq : q = i.toNatClampNeg
    · subst hq; simp [updV, upd]
    · simp [updV, upd, hq]
  have := cont_st E V (Or.inr hs) i.toNatClampNeg (vp_nar .boolean x)
  rw [hs] at this
  rw [this] at h1
  exact h1
end FZst
theorem nar_b2i (b : Bool) : vp_nar .boolean (b2i b) = b2i b := by cases b <;> rfl
/-- the token in the places a has been copied to the places b -/
def cpT (V V' : Vt) (a b : Nat) : Prop := (V' 596 b = 1 ∧ V' 597 b = V 597 a ∧ V' 599 b = V 599 a) ∧ (∀ i, i < 60 → V' 598 (60 * b + i) = V 598 (60 * a + i)) ∧ (∀ i, i < 10 → V' 600 (10 * b + i) = V 600 (10 * a + i)) ∧ (∀ i, i < 10 → V' 602 (10 * b + i) = vp_nar .boolean (V 602 (10 * a + i))) ∧ (∀ i, i < 600 → V' 601 (600 * b + i) = V 601 (600 * a + i)) ∧ (∀ i, i < 320 → V' 603 (320 * b + i) = V 603 (320 * a + i)) ∧ (∀ i, i < 32 → V' 604 (32 * b + i) = V 604 (32 * a + i)) ∧ (∀ u, u ≠ b → tFr V V' u) ∧ ∀ k, (k < 596 ∨ 604 < k) → V' k = V k
theorem cpT.tok {V V' : Vt} {a b : Nat} {T : Tk} (h : cpT V V' a b) (hT : mTokIs V a T) (ho : okTk T) : V' 596 b = 1 ∧ mTokIs V' b T := by
  obtain ⟨⟨h1, h2, h3⟩, h4, h5, h6, h7, h8, h9, -, -⟩ := h
  obtain ⟨t1, t2, t3, t4, t5⟩ := hT
  obtain ⟨⟨-, o1, -⟩, ⟨o2, -⟩, o3, o4⟩ := ho
  refine ⟨h1, h2.trans t1, fun i hi => (h4 i (by omega)).trans (t2 i hi), h3.trans t3, fun i hi => (h9 i (by omega)).trans (t4 i hi), fun j hj => ?_⟩
  have hm := t5 j hj
  have ho := o4 j hj
  have hl := ho.2.1
  have hl2 := ho.l2
  refine ⟨(h5 j (by omega)).trans hm.1, fun i hi => ?_, ?_, fun i hi => ?_⟩
  · have := h7 (60 * j + i) (by omega)
    rw [show 60 * (10 * b + j) + i = 600 * b + (60 * j + i) by omega, this, show 600 * a + (60 * j + i) = 60 * (10 * a + j) + i by omega]
    exact hm.2.1 i hi
  · rw [h6 j (by omega), hm.2.2.1]; exact nar_b2i _
  · have := h8 (32 * j + i) (by omega)
    rw [show 32 * (10 * b + j) + i = 320 * b + (32 * j + i) by omega, this, show 320 * a + (32 * j + i) = 32 * (10 * a + j) + i by omega]
    exact hm.2.2.2 i hi
theorem nam_s {a b : List Int32} {j : Nat} (hle : a.length = b.length) (hj : j < b.length) (d : decide (a.take j = b.take j) = true) : b2i (decide (a.length = b.length) && decide (a.take (j + 1) = b.take (j + 1))) = b2i (decide (a.getD j 0 = b.getD j 0)) := by
  congr 1
  rw [decide_eq_true hle, Bool.true_and]
  refine decide_eq_decide.mpr ⟨fun h => ((take_eq_s (by omega) hj).mp h).2, fun h => (take_eq_s (by omega) hj).mpr ⟨of_decide_eq_true d, h⟩⟩
theorem nam_e {a b : List Int32} {j : Nat} (h : b.length ≤ j ∨ (decide (a.length = b.length) && decide (a.take j = b.take j)) = false) : b2i (decide (a.length = b.length) && decide (a.take j = b.take j)) = b2i (decide (a = b)) := by
  congr 1
  by_cases e : a = b
  · subst e; simp
  · rw [decide_eq_false e]
    rcases h with h | h
    · by_cases hl : a.length = b.length
      · rw [List.take_of_length_le (by omega), List.take_of_length_le (by omega), decide_eq_false e, Bool.and_false]
      · rw [decide_eq_false hl, Bool.false_and]
    · exact h
theorem okW1_j {l : List Int32} (h : okW1 l = true) : 1 ≤ l.length ∧ l.length ≤ 60 := by
  simp only [okW1, Bool.and_eq_true, decide_eq_true_eq] at h; exact h
