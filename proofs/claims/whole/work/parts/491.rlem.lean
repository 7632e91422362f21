-- needs: 450 451 456 460 462 464 466 469 475 490
theorem rdS.wr {V V1 V' : Vt} {l : List Int32} {w a : Int32} {ee : Nat × Nat} (e : V' = up2 (up2 V 580 41 w) 580 20 a) (hw : w = nI ee.1) (ha : a = nI ee.2) (h1 : 1 ≤ ee.1 ∧ ee.1 ≤ 5) : rdS V' l (.inl ee) ∧ frN V V' := by
  subst e
  exact ⟨⟨by rw [up2_o _ _ (by decide), up2_s]; exact hw, h1, by rw [up2_s]; exact ha⟩, fun k a => by rw [up2_k _ _ a, up2_k _ _ a], fun i a b c => by rw [up2_o _ _ a, up2_o _ _ c]⟩
theorem nx_z {V : Vt} {l : List Int32} {x : RS} (h : rdS V l (nxs l x)) (c : V 580 41 = 0) : ∃ p, x = .inr p ∧ p < l.length ∧ V 580 40 = nI (p + 1) ∧ nxv l x = l.getD p 0 ∧ nxs l x = .inr (p + 1) := by
  cases x with
  | inl e => obtain ⟨p, hp, -⟩ := h.z c; cases hp
  | inr p =>
    by_cases hp : l.length ≤ p
    · have e1 : nxs l (.inr p) = .inl (1, p) := by simp only [nxs, if_pos hp]
      rw [e1] at h; obtain ⟨q, hq, -⟩ := h.z c; cases hq
    · have e1 : nxs l (.inr p) = .inr (p + 1) := by simp only [nxs, if_neg hp]
      have e2 : nxv l (.inr p) = l.getD p 0 := by simp only [nxv, if_neg hp]
      rw [e1] at h
      exact ⟨p, rfl, by omega, h.2.1, e2, e1⟩
theorem nx_n {V : Vt} {l : List Int32} {x : RS} (h : rdS V l (nxs l x)) (c : ¬ V 580 41 = 0) : nxv l x = 0 ∧ ∃ e, nxs l x = .inl e ∧ (x = .inl e ∨ ∃ p, x = .inr p ∧ l.length ≤ p ∧ e = (1, p)) := by
  cases x with
  | inl e => exact ⟨rfl, e, rfl, Or.inl rfl⟩
  | inr p =>
    by_cases hp : l.length ≤ p
    · exact ⟨by simp only [nxv, if_pos hp], (1, p), by simp only [nxs, if_pos hp], Or.inr ⟨p, rfl, hp, rfl⟩⟩
    · have e1 : nxs l (.inr p) = .inr (p + 1) := by simp only [nxs, if_neg hp]
      rw [e1] at h; exact absurd h.1 c
theorem want_a {V : Vt} {l : List Int32} {x : RS} {b : Int32} (h : rdS V l (nxs l x)) (c : ¬ V 580 41 = 0) : rdS V l (kS x (rMark l b)) := by
  obtain ⟨-, e, he, hh⟩ := nx_n h c
  rw [he] at h
  rcases hh with rfl | ⟨p, rfl, hp, rfl⟩
  · exact h
  · show rdS V l (rMark l b p)
    rw [show rMark l b p = .inl (1, p) from if_pos hp]; exact h
theorem want_b {V : Vt} {l : List Int32} {x : RS} {b : Int32} (h : rdS V l (nxs l x)) (c : V 580 41 = 0) (hb : nxv l x = b) : rdS V l (kS x (rMark l b)) := by
  obtain ⟨p, rfl, hp, -, hv, he⟩ := nx_z h c
  rw [he] at h
  show rdS V l (rMark l b p)
  rw [show rMark l b p = .inr (p + 1) from by unfold rMark; rw [if_neg (by omega), if_pos (hv.symm.trans hb)]]; exact h
theorem want_c {V : Vt} {l : List Int32} {x : RS} {b : Int32} (h : rdS V l (nxs l x)) (c : V 580 41 = 0) (hb : ¬ nxv l x = b) : ∃ p, x = .inr p ∧ V 580 40 = nI (p + 1) ∧ kS x (rMark l b) = .inl (2, p) := by
  obtain ⟨p, rfl, hp, h40, hv, he⟩ := nx_z h c
  exact ⟨p, rfl, h40, by show rMark l b p = _; unfold rMark; rw [if_neg (by omega), if_neg (fun q => hb (hv.trans q))]⟩
/-- a row on its way -/
def rowSt (V : Vt) (l : List Int32) (lo hi : Nat) (x : RS) (r : Int32) (y : RS) (j c b : Nat) : Prop := (∀ ee, y = .inl ee → rb l lo hi x = .inl ee) ∧ ∀ p1, y = .inr p1 → ∃ p0 n, x = .inr p0 ∧ p0 < l.length ∧ p1 = p0 + 1 + j ∧ l.getD p0 0 = nI n ∧ r = nI n ∧ (lo ≤ n ∧ n ≤ hi) ∧ j ≤ n ∧ p1 ≤ l.length ∧ seg V c b ((l.drop (p0 + 1)).take j)
theorem rb_ok {l : List Int32} {lo hi p0 n : Nat} (hlo : lo < 2 ^ 31) (hhi : hi < 2 ^ 31) (hp : p0 < l.length) (hn : l.getD p0 0 = nI n) (h1 : lo ≤ n ∧ n ≤ hi) : rBytes l lo hi p0 = if l.length < p0 + 1 + n then .inl (1, l.length) else .inr ((l.drop (p0 + 1)).take n, p0 + 1 + n) := by
  unfold rBytes
  rw [if_neg (by omega), hn, nI_clamp (by omega), if_neg]
  rintro (q | q)
  · have := (nI_ltI (by omega) (by omega)).mp q; omega
  · have := (nI_ltI (by omega) (by omega)).mp q; omega
theorem rb_no {l : List Int32} {lo hi p0 : Nat} (hp : p0 < l.length) (hn : inR (l.getD p0 0) (nI lo) (nI hi) = false) : rBytes l lo hi p0 = .inl (3, p0) := by
  unfold rBytes
  rw [if_neg (by omega), if_pos]
  by_cases h1 : l.getD p0 0 < nI lo
  · exact Or.inl h1
  · by_cases h2 : nI hi < l.getD p0 0
    · exact Or.inr h2
    · simp only [inR, decide_eq_true h1, decide_eq_true h2, Bool.and_self] at hn; cases hn
theorem rowSt.s {V V1 : Vt} {l : List Int32} {lo hi : Nat} {x : RS} {r : Int32} {j c b p1 n : Nat} (h : rowSt V l lo hi x r (.inr p1) j c b) (hlo : lo < 2 ^ 31) (hhi : hi < 2 ^ 31) (hn : r = nI n) (hjn : j < n) (hn2 : n < 2 ^ 31) (hs : ∀ i, i < j → V1 c (b + i) = V c (b + i)) (hv : V1 c (b + j) = nxv l (.inr p1)) : rowSt V1 l lo hi x r (nxs l (.inr p1)) (j + 1) c b := by
  obtain ⟨p0, n0, hx, hp0, hp1, hg, hr, h1, hj, hpl, hsg⟩ := h.2 p1 rfl
  have hnn : n = n0 := (nEq (a := n) (b := n0) rfl rfl hn2 (by omega)).mp (hn.symm.trans hr)
  subst hnn
  by_cases hq : l.length ≤ p1
  · have e1 : nxs l (.inr p1) = .inl (1, p1) := by simp only [nxs, if_pos hq]
    rw [e1]
    refine ⟨fun ee q => ?_, fun p2 q => by cases q⟩
    cases q
    subst hx
    show rBytes l lo hi p0 = _
    rw [rb_ok hlo hhi hp0 hg h1, if_pos (by omega), show p1 = l.length by omega]
  · have e1 : nxs l (.inr p1) = .inr (p1 + 1) := by simp only [nxs, if_neg hq]
    have e2 : nxv l (.inr p1) = l.getD p1 0 := by simp only [nxv, if_neg hq]
    rw [e1]
    refine ⟨fun ee q => (by cases q), fun p2 q => ?_⟩
    cases q
    refine ⟨p0, n, hx, hp0, by omega, hg, hr, h1, by omega, by omega, fun i hi => ?_⟩
    rw [List.length_take, List.length_drop] at hi
    have hgi : ∀ k z, z < k → ((l.drop (p0 + 1)).take k).getD z 0 = l.getD (p0 + 1 + z) 0 := fun k z hz => by
      rw [List.getD_eq_getElem?_getD, List.getD_eq_getElem?_getD, List.getElem?_take_of_lt hz, List.getElem?_drop]
    rw [hgi _ _ (by omega)]
    by_cases hij : i = j
    · subst hij; rw [hv, e2, hp1]
    · rw [hs i (by omega), hsg i (by rw [List.length_take, List.length_drop]; omega), hgi _ _ (by omega)]
theorem rowSt.e {V : Vt} {l : List Int32} {lo hi : Nat} {x : RS} {r : Int32} {y : RS} {j c b : Nat} (h : rowSt V l lo hi x r y j c b) (hlo : lo < 2 ^ 31) (hhi : hi < 2 ^ 31) (hy : rdS V l y) (he : r ≤ nI j ∨ ¬ V 580 41 = 0) : rdS V l (sS (rb l lo hi x)) ∧ ∀ bs p1, rb l lo hi x = .inr (bs, p1) → r = nI bs.length ∧ seg V c b bs := by
  cases y with
  | inl ee =>
    have e1 := h.1 ee rfl
    rw [e1]
    exact ⟨hy, fun bs p1 q => by cases q⟩
  | inr p1 =>
    obtain ⟨p0, n, hx, hp0, hp1, hg, hr, h1, hj, hpl, hsg⟩ := h.2 p1 rfl
    have hjn : j = n := by
      rcases he with q | q
      · rw [hr] at q
        have := (nI_leI (a := n) (b := j) (by omega) (by omega)).mp q
        omega
      · exact absurd hy.1 q
    subst hjn
    subst hx
    have e1 : rb l lo hi (.inr p0) = .inr ((l.drop (p0 + 1)).take j, p0 + 1 + j) := by
      show rBytes l lo hi p0 = _
      rw [rb_ok hlo hhi hp0 hg h1, if_neg (by omega)]
    rw [e1]
    refine ⟨by rw [hp1] at hy; exact hy, fun bs p2 q => ?_⟩
    cases q
    refine ⟨?_, hsg⟩
    rw [hr, List.length_take, List.length_drop]
    congr 1
    omega
theorem rowSt.i {V : Vt} {l : List Int32} {lo hi : Nat} {x : RS} {c b : Nat} (hl : okL l) (hlo : lo < 2 ^ 31) (hhi : hi < 2 ^ 31) (h : rdS V l (nxs l x)) (c0 : V 580 41 = 0) (hin : inR (nxv l x) (nI lo) (nI hi) = true) : rowSt V l lo hi x (nxv l x) (nxs l x) 0 c b := by
  obtain ⟨p, rfl, hp, h40, hv, he⟩ := nx_z h c0
  rw [hv] at hin ⊢
  rw [he]
  obtain ⟨g1, g2, g3⟩ := inR_j hin (m := lo) (n := hi) rfl rfl hlo hhi
  refine ⟨fun ee q => (by cases q), fun p1 q => ?_⟩
  cases q
  exact ⟨p, _, rfl, hp, rfl, g3, g3, ⟨g1, g2⟩, Nat.zero_le _, by omega, by rw [List.take_zero]; exact seg.nil _ _ _⟩
theorem rowSt.f {V : Vt} {l : List Int32} {lo hi : Nat} {x : RS} {r : Int32} {c b : Nat} {ee : Nat × Nat} (h : rb l lo hi x = .inl ee) : rowSt V l lo hi x r (.inl ee) 0 c b := ⟨fun e2 q => (by cases q; exact h), fun p1 q => by cases q⟩
theorem rb_n {V : Vt} {l : List Int32} {lo hi : Nat} {x : RS} (h : rdS V l (nxs l x)) (c : ¬ V 580 41 = 0) : ∃ e, nxs l x = .inl e ∧ rb l lo hi x = .inl e := by
  obtain ⟨-, e, he, hh⟩ := nx_n h c
  refine ⟨e, he, ?_⟩
  rcases hh with rfl | ⟨p, rfl, hp, rfl⟩
  · rfl
  · show rBytes l lo hi p = _
    unfold rBytes; rw [if_pos hp]
theorem rb_3 {V : Vt} {l : List Int32} {lo hi : Nat} {x : RS} (h : rdS V l (nxs l x)) (c : V 580 41 = 0) (hin : inR (nxv l x) (nI lo) (nI hi) = false) : ∃ p, V 580 40 = nI (p + 1) ∧ rb l lo hi x = .inl (3, p) := by
  obtain ⟨p, rfl, hp, h40, hv, he⟩ := nx_z h c
  rw [hv] at hin
  exact ⟨p, h40, rb_no hp hin⟩
