def WalkC (l : Launch) (E : En) (f : Nat) : Prop := ∀ {V : Vt} {tk : Nat → Tk} {D : Nat → Bool} (_ : tkE V tk D) {pt : Nat} (_ : V 2 5 = nI pt) (_ : pt < 8) (_ : D pt = true) {t : Nat} (_ : t < 8) (_ : D t = true) {d0 : Nat} (_ : d0 + f = 8) {m0 bg : Nat} (_ : V 2 6 = nI m0) (_ : m0 < 256) (_ : ∀ h, h < 8 → m0.testBit h = true → D h = true) (_ : V 2 10 = nI bg) (_ : cnt m0 + d0 ≤ 7) {k cap : Nat} (_ : isRow k cap) (_ : 20 < k) {kl : List Int32} (_ : rowIs V k kl) (_ : kl.length ≤ 100) (_ : kl.length ≤ cap), CI l yX2_walk wsX2_walk (6 + 2 * f) E V [.ref (E.1 + 2), .int (nI t), .ref (E.1 + k), .int (nI d0)] (fun r V' => wkP (wk (V 22) tk (tk pt).2.1 f t kl (m0, bg)) r V V' d0 ∧ frW V V' d0)
section WONE
variable {q : Nat → Int32} {tk : Nat → Tk} {ps : List Int32} {rc : Nat → List Int32 → Nat × Nat → WR} {t i h : Nat} {L : Lm} {s s' : List Int32} {σ σ' : Nat × Nat} {f : Flt}
theorem wOne_3 (h0 : ¬ L.2 = []) (h1 : fH (fun h => σ.1.testBit h && decide ((tk h).1 = L.1)) 8 0 = none) : wOne q tk ps rc t i L s σ = (.inl (3, t, i), σ) := by
  unfold wOne; rw [if_neg h0]; simp only [h1]
theorem wOne_r (h0 : ¬ L.2 = []) (h1 : fH (fun h => σ.1.testBit h && decide ((tk h).1 = L.1)) 8 0 = some h) (h2 : (rc h (xorL L.2 (hmac s L.1)) (clr σ.1 h, σ.2 + 1)).1 = .inl f) : wOne q tk ps rc t i L s σ = (.inl f, (rc h (xorL L.2 (hmac s L.1)) (clr σ.1 h, σ.2 + 1)).2) := by
  unfold wOne; rw [if_neg h0]; simp only [h1]
  rcases hz : rc h (xorL L.2 (hmac s L.1)) (clr σ.1 h, σ.2 + 1) with ⟨a, b⟩
  rw [hz] at h2; simp only at h2; subst h2; rfl
theorem wOne_4 (h0 : ¬ L.2 = []) (h1 : fH (fun h => σ.1.testBit h && decide ((tk h).1 = L.1)) 8 0 = some h) (h2 : (rc h (xorL L.2 (hmac s L.1)) (clr σ.1 h, σ.2 + 1)).1 = .inr s') (h3 : ¬ hmac zr (ps ++ s') = (tk h).2.1) : wOne q tk ps rc t i L s σ = (.inl (4, h, i), (rc h (xorL L.2 (hmac s L.1)) (clr σ.1 h, σ.2 + 1)).2) := by
  unfold wOne; rw [if_neg h0]; simp only [h1]
  rcases hz : rc h (xorL L.2 (hmac s L.1)) (clr σ.1 h, σ.2 + 1) with ⟨a, b⟩
  rw [hz] at h2; simp only at h2; subst h2
  simp only [if_neg h3]
theorem wOne_5 (h0 : ¬ L.2 = []) (h1 : fH (fun h => σ.1.testBit h && decide ((tk h).1 = L.1)) 8 0 = some h) (h2 : (rc h (xorL L.2 (hmac s L.1)) (clr σ.1 h, σ.2 + 1)).1 = .inr s') (h3 : hmac zr (ps ++ s') = (tk h).2.1) : wOne q tk ps rc t i L s σ = (.inr (hmac s (hmac s L.2 ++ hmac s L.1)), (rc h (xorL L.2 (hmac s L.1)) (clr σ.1 h, σ.2 + 1)).2) := by
  unfold wOne; rw [if_neg h0]; simp only [h1]
  rcases hz : rc h (xorL L.2 (hmac s L.1)) (clr σ.1 h, σ.2 + 1) with ⟨a, b⟩
  rw [hz] at h2; simp only at h2; subst h2
  simp only [if_pos h3]
end WONE
theorem wkP.ofl {x : WR} {V V' : Vt} {d : Nat} {f : Flt} {σ' : Nat × Nat} (h : x = (.inl f, σ')) (h1 : V' 2 5 = V 2 5) (h2 : V' 2 6 = nI σ'.1) (h3 : V' 2 10 = nI σ'.2) (h4 : V' 2 7 = nI f.1 ∧ V' 2 8 = nI f.2.1 ∧ V' 2 9 = nI f.2.2) : wkP x 0 V V' d := by
  subst h
  exact ⟨h1, h2, h3, fun f' e => (by cases e; exact ⟨rfl, h4⟩), fun s e => (by cases e)⟩
theorem wkP.ofr {x : WR} {V V' : Vt} {d : Nat} {s : List Int32} {σ' : Nat × Nat} (h : x = (.inr s, σ')) (h1 : V' 2 5 = V 2 5) (h2 : V' 2 6 = nI σ'.1) (h3 : V' 2 10 = nI σ'.2) (h4 : V' 2 7 = V 2 7 ∧ V' 2 8 = V 2 8 ∧ V' 2 9 = V 2 9) (h5 : rowIs V' (81 + 60 * d) s) : wkP x 1 V V' d := by
  subst h
  exact ⟨h1, h2, h3, fun f' e => (by cases e), fun s e => (by cases e; exact ⟨rfl, h4.1, h4.2.1, h4.2.2, h5⟩)⟩
theorem cnt_pos {m h : Nat} (hm : m < 256) (hh : h < 8) (hb : m.testBit h = true) : cnt (clr m h) + 1 = cnt m := (clr_lt m hm h hh).2 hb
