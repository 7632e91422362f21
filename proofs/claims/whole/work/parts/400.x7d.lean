theorem nI_clampR {n : Nat} (h : n < 2 ^ 31) : rj (nI n) = n := nI_clamp h
theorem sw3b {x : Int32} (h0 : ¬ x = 0) (h1 : ¬ x = 1) (h2 : ¬ x = 2) : x.toInt < 0 ∨ 2 < x.toInt := by
  by_cases q : x.toInt < 0
  · exact Or.inl q
  · by_cases q2 : 2 < x.toInt
    · exact Or.inr q2
    · exfalso
      rcases (show x.toInt = 0 ∨ x.toInt = 1 ∨ x.toInt = 2 by omega) with e | e | e
      · exact h0 (Int32.toInt_inj.mp (by rw [e]; rfl))
      · exact h1 (Int32.toInt_inj.mp (by rw [e]; rfl))
      · exact h2 (Int32.toInt_inj.mp (by rw [e]; rfl))
theorem tst_congr {q q' : Nat → Int32} (h : ∀ i, i < 8 → q i = q' i) (l : List Int32) (p : Nat) : tst q l p = tst q' l p := by
  unfold tst
  split
  · rename_i hc
    obtain ⟨j, hj, e⟩ := ix_of (i := Bt l (p1 l p) - 97) (n := 8) (Int32.not_lt.mpr hc.1) (Int32.not_le.mpr hc.2.1) (by omega)
    rw [e, nI_clamp (by omega), h j hj]
  · rfl
theorem txt_congr {q q' : Nat → Int32} (h : ∀ i, i < 8 → q i = q' i) (l : List Int32) : ∀ f p a b, txt q l f p a b = txt q' l f p a b := by
  intro f
  induction f with
  | zero => intro p a b; rfl
  | succ f ih => intro p a b; simp only [txt, tst_congr h, ih]
theorem truth_congr {q q' : Nat → Int32} (h : ∀ i, i < 8 → q i = q' i) {l : List Int32} : truth q l = truth q' l := txt_congr h l _ _ _ _
set_option maxHeartbeats 4000000 in
set_option maxRecDepth 100000 in
theorem c_X7_copy (l : Launch) {E : En} {V : Vt} {σ : St} (hC : repC V σ) (t u : Int32) : CI l yX7_copy wsX7_copy 5 E V [.ref (E.1 + 0), .int t, .int u] (fun v V' => v = (opCopy σ t u).1 ∧ repC V' (opCopy σ t u).2 ∧ frM V V') := by
  refine Met.ofW (cc := cX7_copy) (maxL := 3) (ret := (some .int)) (by decide) rfl ?_
  intro p e s m args below meth c s₁ B hml hv
  obtain ⟨rfl, hM, hK⟩ := hv
  have hx := B.exec
  have hb := B.bytes
  have hret := B.returns
  have hts := atoms_spec (ws := wsX7_copy) B.pre
  have hown : s.vm.findClass RX7 = some m.cls := findClass_of_methodNamed B.named
  have hlocks := B.notSynchronized
  have hsz : s.heap.size = E.1 + 610 := hM.1
  have hS : va_S (AE E) s.heap s.heap [] := va_S.rf
  have in6 : ∀ w ∈ u_ws RX6 TX6 5, w ∈ wsX7_copy := by decide +kernel
  have in7 : ∀ w ∈ u_ws RX7 TX7 9, w ∈ wsX7_copy := by decide +kernel
  have k40 := hts (.fieldLink RX7 40 "LimitTokens" "tokens" "[LLimitTokens$Token;") (by decide +kernel)
  have k110 := hts (.fieldLink RX7 110 "LimitTokens$Token" "count" "I") (by decide +kernel)
  have hl := lv_entry ([.ref (E.1 + 0), .int t, .int u]) (n := 3) (Nat.le_of_ble_eq_true rfl)
  rw [lg_entry_eq]
  generalize (lg_sl ([.ref (E.1 + 0), .int t, .int u]) ++ List.replicate (3 - (lg_sl ([.ref (E.1 + 0), .int t, .int u])).length) Slot.unset).toArray = ls at hl ⊢
  have hl : lv_has ls 3 [(0, .ref (E.1 + 0)), (1, .int t), (2, .int u)] := hl
  obtain ⟨⟨oR, oT, oP⟩, cR, cT, cP, cQ, cF, cL, cZ⟩ := id hC
  refine lv_aload_n hx hb dX7_copy_0 rfl (lv_at hl 0 rfl) ?_
  refine lv_iload_n hx hb dX7_copy_1 rfl (lv_at hl 1 rfl) ?_
  refine w_cVi (C := RX7) (As := [.int t]) (rest := []) ⟨hx, hb, hml, hown, hts⟩ (c_X7_isThere l cT t) (cwV 1 hts gX7_copy_X7_isThere rfl rfl rfl (by decide +kernel) ⟨Nat.le_of_ble_eq_true rfl, Nat.le_of_ble_eq_true rfl⟩) (w_recv (ci := 7) hK hM (by decide) (by decide) (by decide) rfl) hM hK hS rfl hl.1 rfl (lv_room (Nat.le_of_ble_eq_true rfl)) dX7_copy_2 ⟨Nat.le_of_ble_eq_true rfl, Nat.le_of_ble_eq_true rfl⟩ (fun r2 V2 H locs hp2 hM hS => ?_)
  obtain ⟨er2, eV⟩ := hp2
  rw [eV] at hM; clear eV
  refine lv_if_eq (tgt := 15) hx hb dX7_copy_5 (by decide) (fun c_5 => ?_) (fun c_5 => ?_)
  · have hN : thr σ t = none := by have q9 := b2i_eq0 (er2.symm.trans c_5); cases q8 : thr σ t with | none => rfl | some x => rw [q8] at q9; cases q9
    refine lv_bipush (v := (-2)) hx hb dX7_copy_15 (by decide) ?_
    have hpost : (fun v V' => v = (opCopy σ t u).1 ∧ repC V' (opCopy σ t u).2 ∧ frM V V') (-2) V := by
      have hq : opCopy σ t u = (-2, σ) := by first | (simp [opCopy, hT, i2]; done) | (simp [opCopy, hN]; done)
      rw [hq]; exact ⟨rfl, hC, fun _ _ => rfl⟩
    exact w_iret V hx hb hret hK hS hM (hpost) hlocks dX7_copy_17
  · obtain ⟨T, hT⟩ : ∃ T, thr σ t = some T := Option.isSome_iff_exists.mp (b2i_ne0 (by rw [← er2]; exact c_5))
    obtain ⟨i1, ht, et, hTt⟩ := thr_some hT
    obtain ⟨hth, htk⟩ := (cT (rj t) ht).s hTt
    have hok := oT (rj t) ht T hTt
    refine lv_iload_n hx hb dX7_copy_8 rfl (lv_at hl 2 rfl) ?_
    refine w_cSi (As := [.int u]) (rest := []) ⟨hx, hb, hml, hown, hts⟩ (c_X7_isTokenNumber l u) (va_cwS 1 hts gX7_copy_X7_isTokenNumber rfl rfl rfl (by decide +kernel) ⟨Nat.le_of_ble_eq_true rfl, Nat.le_of_ble_eq_true rfl⟩) hM hK hS rfl hl.1 rfl (lv_room (Nat.le_of_ble_eq_true rfl)) dX7_copy_9 ⟨Nat.le_of_ble_eq_true rfl, Nat.le_of_ble_eq_true rfl⟩ (fun r9 V9 H locs hp9 hM hS => ?_)
    obtain ⟨er9, eV⟩ := hp9
    rw [eV] at hM; clear eV
    refine lv_if_ne (tgt := 18) hx hb dX7_copy_12 (by decide) (fun c_12 => ?_) (fun c_12 => ?_)
    · have i2 : in8 u = true := b2i_ne0 (by rw [← er9]; exact c_12)
      have hu8 : rj u < 8 := (in8_r i2).1
      refine lv_aload_n hx hb dX7_copy_18 rfl (lv_at hl 0 rfl) ?_
      refine w_gr 7 4 3 (T := TX7) (N := 9) hx hb hts in7 hown hK.1 hM (by decide) (by decide) (by decide) (by decide) (by decide) rfl (by decide) k40 rfl dX7_copy_19 ?_
      refine lv_iload_n hx hb dX7_copy_22 rfl (lv_at hl 2 rfl) ?_
      refine w_ald (N := 8) 4 hx hb hK.1 hM (by decide) (by first | rfl | (rw [(by decide)]; rfl)) (by first | decide | (rw [(by decide)]; decide)) (by decide) (vp8 i2) (25 + 60 * rj u) (sf3i i2) dX7_copy_23 ?_
      refine lv_aload_n hx hb dX7_copy_24 rfl (lv_at hl 0 rfl) ?_
      refine w_gr 7 4 3 (T := TX7) (N := 9) hx hb hts in7 hown hK.1 hM (by decide) (by decide) (by decide) (by decide) (by decide) rfl (by decide) k40 rfl dX7_copy_25 ?_
      refine lv_iload_n hx hb dX7_copy_28 rfl (lv_at hl 1 rfl) ?_
      refine w_ald (N := 8) 4 hx hb hK.1 hM (by decide) (by first | rfl | (rw [(by decide)]; rfl)) (by first | decide | (rw [(by decide)]; decide)) (by decide) (vp8 i1) (25 + 60 * rj t) (sf3i i1) dX7_copy_29 ?_
      refine w_cVv (C := RX6) (As := [.ref (E.1 + (25 + 60 * rj t))]) (rest := []) ⟨hx, hb, hml, hown, hts⟩ (c_X6_takeOver l (tok_t hu8) (tok_t ht) (by omega) htk hok hth) (cwV 1 hts gX7_copy_X6_takeOver rfl rfl rfl (by decide +kernel) ⟨Nat.le_of_ble_eq_true rfl, Nat.le_of_ble_eq_true rfl⟩) (w_recv (ci := 6) hK hM ((tok_t (in8_r i2).1)).lt ((tok_t (in8_r i2).1)).k (by decide) rfl) hM hK hS rfl hl.1 rfl (lv_room (Nat.le_of_ble_eq_true rfl)) dX7_copy_30 ⟨Nat.le_of_ble_eq_true rfl, Nat.le_of_ble_eq_true rfl⟩ (fun V30 H locs hp30 hM hS => ?_)
      refine lv_aload_n hx hb dX7_copy_33 rfl (lv_at hl 0 rfl) ?_
      refine w_gr 7 4 3 (T := TX7) (N := 9) hx hb hts in7 hown hK.1 hM (by decide) (by decide) (by decide) (by decide) (by decide) rfl (by decide) k40 rfl dX7_copy_34 ?_
      refine lv_iload_n hx hb dX7_copy_37 rfl (lv_at hl 2 rfl) ?_
      refine w_ald (N := 8) 4 hx hb hK.1 hM (by decide) (by first | rfl | (rw [(by decide)]; rfl)) (by first | decide | (rw [(by decide)]; decide)) (by decide) (vp8 i2) (25 + 60 * rj u) (sf3i i2) dX7_copy_38 ?_
      refine w_gi 6 3 (T := TX6) (N := 5) hx hb hts in6 hown hK.1 hM ((tok_t (in8_r i2).1)).lt ((tok_t (in8_r i2).1)).k ((tok_t (in8_r i2).1)).n ((tok_t (in8_r i2).1)).f3 (by decide) rfl (by decide) k110 rfl dX7_copy_39 ?_
      have q : (V30 (25 + 60 * rj u) 3 : Int32) = nI T.2.2.length := hp30.1.2.2.1
      refine lv_eqi q ?_
      have hpost : (fun v V' => v = (opCopy σ t u).1 ∧ repC V' (opCopy σ t u).2 ∧ frM V V') (nI T.2.2.length) V30 := by
        have hq : opCopy σ t u = (nI T.2.2.length, sTok σ (rj u) (some T)) := by simp [opCopy, hT, i2]
        rw [hq]; exact ⟨rfl, hC.tok hu8 (o := some T) ⟨hp30.2.1, hp30.1⟩ (fun T2 h2 => by cases h2; exact hok) (fun j a _ => hp30.2.2 j (by omega)), fun j hj => hp30.2.2 j (by omega)⟩
      exact w_iret V30 hx hb hret hK hS hM (hpost) hlocks dX7_copy_42
    · have i2 : in8 u = false := b2i_eq0 (by rw [← er9]; exact c_12)
      refine lv_bipush (v := (-2)) hx hb dX7_copy_15 (by decide) ?_
      have hpost : (fun v V' => v = (opCopy σ t u).1 ∧ repC V' (opCopy σ t u).2 ∧ frM V V') (-2) V := by
        have hq : opCopy σ t u = (-2, σ) := by first | (simp [opCopy, hT, i2]; done) | (simp [opCopy, hN]; done)
        rw [hq]; exact ⟨rfl, hC, fun _ _ => rfl⟩
      exact w_iret V hx hb hret hK hS hM (hpost) hlocks dX7_copy_17

set_option maxHeartbeats 4000000 in
set_option maxRecDepth 100000 in
theorem c_X7_drop (l : Launch) {E : En} {V : Vt} {σ : St} (hC : repC V σ) (t : Int32) : CI l yX7_drop wsX7_drop 1 E V [.ref (E.1 + 0), .int t] (fun v V' => v = (opDrop σ t).1 ∧ repC V' (opDrop σ t).2 ∧ frM V V') := by
  refine Met.ofW (cc := cX7_drop) (maxL := 3) (ret := (some .int)) (by decide) rfl ?_
  intro p e s m args below meth c s₁ B hml hv
  obtain ⟨rfl, hM, hK⟩ := hv
  have hx := B.exec
  have hb := B.bytes
  have hret := B.returns
  have hts := atoms_spec (ws := wsX7_drop) B.pre
  have hown : s.vm.findClass RX7 = some m.cls := findClass_of_methodNamed B.named
  have hlocks := B.notSynchronized
  have hsz : s.heap.size = E.1 + 610 := hM.1
  have hS : va_S (AE E) s.heap s.heap [] := va_S.rf
  have in6 : ∀ w ∈ u_ws RX6 TX6 5, w ∈ wsX7_drop := by decide +kernel
  have in7 : ∀ w ∈ u_ws RX7 TX7 9, w ∈ wsX7_drop := by decide +kernel
  have k40 := hts (.fieldLink RX7 40 "LimitTokens" "tokens" "[LLimitTokens$Token;") (by decide +kernel)
  have k106 := hts (.fieldLink RX7 106 "LimitTokens$Token" "there" "Z") (by decide +kernel)
  have hl := lv_entry ([.ref (E.1 + 0), .int t]) (n := 3) (Nat.le_of_ble_eq_true rfl)
  rw [lg_entry_eq]
  generalize (lg_sl ([.ref (E.1 + 0), .int t]) ++ List.replicate (3 - (lg_sl ([.ref (E.1 + 0), .int t])).length) Slot.unset).toArray = ls at hl ⊢
  have hl : lv_has ls 3 [(0, .ref (E.1 + 0)), (1, .int t)] := hl
  obtain ⟨⟨oR, oT, oP⟩, cR, cT, cP, cQ, cF, cL, cZ⟩ := id hC
  refine lv_iload_n hx hb dX7_drop_0 rfl (lv_at hl 1 rfl) ?_
  refine w_cSi (As := [.int t]) (rest := []) ⟨hx, hb, hml, hown, hts⟩ (c_X7_isTokenNumber l t) (va_cwS 1 hts gX7_drop_X7_isTokenNumber rfl rfl rfl (by decide +kernel) ⟨Nat.le_of_ble_eq_true rfl, Nat.le_of_ble_eq_true rfl⟩) hM hK hS rfl hl.1 rfl (lv_room (Nat.le_of_ble_eq_true rfl)) dX7_drop_1 ⟨Nat.le_of_ble_eq_true rfl, Nat.le_of_ble_eq_true rfl⟩ (fun r1 V1 H locs hp1 hM hS => ?_)
  obtain ⟨er1, eV⟩ := hp1
  rw [eV] at hM; clear eV
  refine lv_if_ne (tgt := 10) hx hb dX7_drop_4 (by decide) (fun c_4 => ?_) (fun c_4 => ?_)
  · have i1 : in8 t = true := b2i_ne0 (by rw [← er1]; exact c_4)
    have ht : rj t < 8 := (in8_r i1).1
    have hb0 := (cT (rj t) ht).b
    refine lv_aload_n hx hb dX7_drop_10 rfl (lv_at hl 0 rfl) ?_
    refine w_gr 7 4 3 (T := TX7) (N := 9) hx hb hts in7 hown hK.1 hM (by decide) (by decide) (by decide) (by decide) (by decide) rfl (by decide) k40 rfl dX7_drop_11 ?_
    refine lv_iload_n hx hb dX7_drop_14 rfl (lv_at hl 1 rfl) ?_
    refine w_ald (N := 8) 4 hx hb hK.1 hM (by decide) (by first | rfl | (rw [(by decide)]; rfl)) (by first | decide | (rw [(by decide)]; decide)) (by decide) (vp8 i1) (25 + 60 * rj t) (sf3i i1) dX7_drop_15 ?_
    refine w_gi 6 4 (T := TX6) (N := 5) hx hb hts in6 hown hK.1 hM ((tok_t ht)).lt ((tok_t ht)).k ((tok_t ht)).n ((tok_t ht)).f4 (by decide) rfl (by decide) k106 rfl dX7_drop_16 ?_
    refine lv_topi (fun x2_19 ex2_19 => ?_)
    refine lv_istore_n (lv' := [(2, .int x2_19), (0, .ref (E.1 + 0)), (1, .int t)]) hx hb dX7_drop_19 rfl hl (by decide) rfl (fun ls hl => ?_)
    refine lv_aload_n hx hb dX7_drop_20 rfl (lv_at hl 1 rfl) ?_
    refine w_gr 7 4 3 (T := TX7) (N := 9) hx hb hts in7 hown hK.1 hM (by decide) (by decide) (by decide) (by decide) (by decide) rfl (by decide) k40 rfl dX7_drop_21 ?_
    refine lv_iload_n hx hb dX7_drop_24 rfl (lv_at hl 2 rfl) ?_
    refine w_ald (N := 8) 4 hx hb hK.1 hM (by decide) (by first | rfl | (rw [(by decide)]; rfl)) (by first | decide | (rw [(by decide)]; decide)) (by decide) (vp8 i1) (25 + 60 * rj t) (sf3i i1) dX7_drop_25 ?_
    refine lv_iconst (v := 0) hx hb dX7_drop_26 (by decide) ?_
    refine w_pi 6 4 (T := TX6) (N := 5) hx hb hts in6 tyX6 tyX6_ok nmX6 hown hK.1 hM hS ((tok_t ht)).lt ((tok_t ht)).k ((tok_t ht)).n ((tok_t ht)).f4 (by decide) rfl (by decide) k106 rfl rfl rfl rfl dX7_drop_27 (fun H locs hM hS => ?_)
    generalize hV27 : up2 V (25 + 60 * rj t) 4 0 = V27 at hM
    refine lv_iload_n hx hb dX7_drop_30 rfl (lv_at hl 0 rfl) ?_
    refine lv_if_eq (tgt := 38) hx hb dX7_drop_31 (by decide) (fun c_31 => ?_) (fun c_31 => ?_)
    · refine lv_iconst (v := 0) hx hb dX7_drop_38 (by decide) ?_
      have hpost : (fun v V' => v = (opDrop σ t).1 ∧ repC V' (opDrop σ t).2 ∧ frM V V') 0 V27 := by
        have hq : opDrop σ t = (b2i (σ.2.1 (rj t)).isSome, sTok σ (rj t) none) := by simp [opDrop, i1]
        rw [hq]; refine ⟨?_, hC.tok ht (o := none) (by show V27 _ 4 = 0; rw [← hV27, up2_s]) (fun T2 h2 => by cases h2) (fun j a _ => by rw [← hV27, up2_k _ _ (by omega)]), fun j hj => by rw [← hV27, up2_k _ _ (by omega)]⟩
        rw [ex2_19, hb0] at c_31
        first | (rw [b2i_eq0 c_31]; rfl) | (rw [b2i_ne0 c_31]; rfl)
      exact w_iret V27 hx hb hret hK hS hM (hpost) hlocks dX7_drop_39
    · refine lv_iconst (v := 1) hx hb dX7_drop_34 (by decide) ?_
      refine lv_goto (tgt := 39) hx hb dX7_drop_35 (by decide) ?_
      have hpost : (fun v V' => v = (opDrop σ t).1 ∧ repC V' (opDrop σ t).2 ∧ frM V V') 1 V27 := by
        have hq : opDrop σ t = (b2i (σ.2.1 (rj t)).isSome, sTok σ (rj t) none) := by simp [opDrop, i1]
        rw [hq]; refine ⟨?_, hC.tok ht (o := none) (by show V27 _ 4 = 0; rw [← hV27, up2_s]) (fun T2 h2 => by cases h2) (fun j a _ => by rw [← hV27, up2_k _ _ (by omega)]), fun j hj => by rw [← hV27, up2_k _ _ (by omega)]⟩
        rw [ex2_19, hb0] at c_31
        first | (rw [b2i_eq0 c_31]; rfl) | (rw [b2i_ne0 c_31]; rfl)
      exact w_iret V27 hx hb hret hK hS hM (hpost) hlocks dX7_drop_39
  · have i1 : in8 t = false := b2i_eq0 (by rw [← er1]; exact c_4)
    refine lv_bipush (v := (-2)) hx hb dX7_drop_7 (by decide) ?_
    have hpost : (fun v V' => v = (opDrop σ t).1 ∧ repC V' (opDrop σ t).2 ∧ frM V V') (-2) V := by
      have hq : opDrop σ t = (-2, σ) := by first | (simp [opDrop, i1]; done)
      rw [hq]; exact ⟨rfl, hC, fun _ _ => rfl⟩
    exact w_iret V hx hb hret hK hS hM (hpost) hlocks dX7_drop_9

set_option maxHeartbeats 4000000 in
set_option maxRecDepth 100000 in
theorem c_X7_told (l : Launch) {E : En} {V : Vt} {σ : St} (hC : repC V σ) (t w : Int32) : CI l yX7_told wsX7_told 2 E V [.ref (E.1 + 0), .int t, .int w] (fun v V' => v = (opTold σ t w).1 ∧ repC V' (opTold σ t w).2 ∧ frM V V') := by
  refine Met.ofW (cc := cX7_told) (maxL := 3) (ret := (some .int)) (by decide) rfl ?_
  intro p e s m args below meth c s₁ B hml hv
  obtain ⟨rfl, hM, hK⟩ := hv
  have hx := B.exec
  have hb := B.bytes
  have hret := B.returns
  have hts := atoms_spec (ws := wsX7_told) B.pre
  have hown : s.vm.findClass RX7 = some m.cls := findClass_of_methodNamed B.named
  have hlocks := B.notSynchronized
  have hsz : s.heap.size = E.1 + 610 := hM.1
  have hS : va_S (AE E) s.heap s.heap [] := va_S.rf
  have in3 : ∀ w ∈ u_ws RX3 TX3 2, w ∈ wsX7_told := by decide +kernel
  have in6 : ∀ w ∈ u_ws RX6 TX6 5, w ∈ wsX7_told := by decide +kernel
  have in7 : ∀ w ∈ u_ws RX7 TX7 9, w ∈ wsX7_told := by decide +kernel
  have k40 := hts (.fieldLink RX7 40 "LimitTokens" "tokens" "[LLimitTokens$Token;") (by decide +kernel)
  have k110 := hts (.fieldLink RX7 110 "LimitTokens$Token" "count" "I") (by decide +kernel)
  have k113 := hts (.fieldLink RX7 113 "LimitTokens$Token" "name" "LLimitTokens$Row;") (by decide +kernel)
  have k79 := hts (.fieldLink RX7 79 "LimitTokens$Row" "length" "I") (by decide +kernel)
  have hl := lv_entry ([.ref (E.1 + 0), .int t, .int w]) (n := 3) (Nat.le_of_ble_eq_true rfl)
  rw [lg_entry_eq]
  generalize (lg_sl ([.ref (E.1 + 0), .int t, .int w]) ++ List.replicate (3 - (lg_sl ([.ref (E.1 + 0), .int t, .int w])).length) Slot.unset).toArray = ls at hl ⊢
  have hl : lv_has ls 3 [(0, .ref (E.1 + 0)), (1, .int t), (2, .int w)] := hl
  obtain ⟨⟨oR, oT, oP⟩, cR, cT, cP, cQ, cF, cL, cZ⟩ := id hC
  refine lv_aload_n hx hb dX7_told_0 rfl (lv_at hl 0 rfl) ?_
  refine lv_iload_n hx hb dX7_told_1 rfl (lv_at hl 1 rfl) ?_
  refine w_cVi (C := RX7) (As := [.int t]) (rest := []) ⟨hx, hb, hml, hown, hts⟩ (c_X7_isThere l cT t) (cwV 1 hts gX7_told_X7_isThere rfl rfl rfl (by decide +kernel) ⟨Nat.le_of_ble_eq_true rfl, Nat.le_of_ble_eq_true rfl⟩) (w_recv (ci := 7) hK hM (by decide) (by decide) (by decide) rfl) hM hK hS rfl hl.1 rfl (lv_room (Nat.le_of_ble_eq_true rfl)) dX7_told_2 ⟨Nat.le_of_ble_eq_true rfl, Nat.le_of_ble_eq_true rfl⟩ (fun r2 V2 H locs hp2 hM hS => ?_)
  obtain ⟨er2, eV⟩ := hp2
  rw [eV] at hM; clear eV
  refine lv_if_eq (tgt := 18) hx hb dX7_told_5 (by decide) (fun c_5 => ?_) (fun c_5 => ?_)
  · have hN : thr σ t = none := by have q9 := b2i_eq0 (er2.symm.trans c_5); cases q8 : thr σ t with | none => rfl | some x => rw [q8] at q9; cases q9
    have i2 : thr σ t = none ∨ inR w 0 11 = false := by first | exact Or.inl hN | (right; simp only [inR]; grind)
    refine lv_bipush (v := (-2)) hx hb dX7_told_18 (by decide) ?_
    have hpost : (fun v V' => v = (opTold σ t w).1 ∧ repC V' (opTold σ t w).2 ∧ frM V V') (-2) V := by
      have hq : opTold σ t w = (-2, σ) := by rcases i2 with q | q; (simp [opTold, q]); (cases h9 : thr σ t <;> simp [opTold, h9, q])
      rw [hq]; exact ⟨rfl, hC, fun _ _ => rfl⟩
    exact w_iret V hx hb hret hK hS hM (hpost) hlocks dX7_told_20
  · obtain ⟨T, hT⟩ : ∃ T, thr σ t = some T := Option.isSome_iff_exists.mp (b2i_ne0 (by rw [← er2]; exact c_5))
    obtain ⟨i1, ht, et, hTt⟩ := thr_some hT
    obtain ⟨hth, htk⟩ := (cT (rj t) ht).s hTt
    have hok := oT (rj t) ht T hTt
    refine lv_iload_n hx hb dX7_told_8 rfl (lv_at hl 2 rfl) ?_
    refine lv_if_lt (tgt := 18) hx hb dX7_told_9 (by decide) (fun c_9 => ?_) (fun c_9 => ?_)
    · have i2 : thr σ t = none ∨ inR w 0 11 = false := by first | exact Or.inl hN | (right; simp only [inR]; grind)
      refine lv_bipush (v := (-2)) hx hb dX7_told_18 (by decide) ?_
      have hpost : (fun v V' => v = (opTold σ t w).1 ∧ repC V' (opTold σ t w).2 ∧ frM V V') (-2) V := by
        have hq : opTold σ t w = (-2, σ) := by rcases i2 with q | q; (simp [opTold, q]); (cases h9 : thr σ t <;> simp [opTold, h9, q])
        rw [hq]; exact ⟨rfl, hC, fun _ _ => rfl⟩
      exact w_iret V hx hb hret hK hS hM (hpost) hlocks dX7_told_20
    · refine lv_iload_n hx hb dX7_told_12 rfl (lv_at hl 2 rfl) ?_
      refine lv_bipush (v := 11) hx hb dX7_told_13 (by decide) ?_
      refine lv_icmp_le (tgt := 21) hx hb dX7_told_15 (by decide) (fun c_15 => ?_) (fun c_15 => ?_)
      · have i2 : inR w 0 11 = true := by simp only [inR]; grind
        refine lv_iload_n hx hb dX7_told_21 rfl (lv_at hl 2 rfl) ?_
        refine lv_if_ne (tgt := 38) hx hb dX7_told_22 (by decide) (fun c_22 => ?_) (fun c_22 => ?_)
        · refine lv_iload_n hx hb dX7_told_38 rfl (lv_at hl 2 rfl) ?_
          refine lv_iconst (v := 1) hx hb dX7_told_39 (by decide) ?_
          refine lv_icmp_ne (tgt := 55) hx hb dX7_told_40 (by decide) (fun c_40 => ?_) (fun c_40 => ?_)
          · refine lv_aload_n hx hb dX7_told_55 rfl (lv_at hl 0 rfl) ?_
            refine w_gr 7 4 3 (T := TX7) (N := 9) hx hb hts in7 hown hK.1 hM (by decide) (by decide) (by decide) (by decide) (by decide) rfl (by decide) k40 rfl dX7_told_56 ?_
            refine lv_iload_n hx hb dX7_told_59 rfl (lv_at hl 1 rfl) ?_
            refine w_ald (N := 8) 4 hx hb hK.1 hM (by decide) (by first | rfl | (rw [(by decide)]; rfl)) (by first | decide | (rw [(by decide)]; decide)) (by decide) (vp8 i1) (25 + 60 * rj t) (sf3i i1) dX7_told_60 ?_
            refine lv_iload_n hx hb dX7_told_61 rfl (lv_at hl 2 rfl) ?_
            refine lv_iconst (v := 2) hx hb dX7_told_62 (by decide) ?_
            refine lv_isub hx hb dX7_told_63 ?_
            have hw := inR_j i2 (m := 0) (n := 11) rfl rfl (by omega) (by omega)
            have hw2 : 2 ≤ rj w := by
              rcases Nat.lt_or_ge (rj w) 2 with q | q
              · exfalso; rcases (show rj w = 0 ∨ rj w = 1 by omega) with z | z
                · exact c_22 (by rw [hw.2.2, z]; rfl)
                · exact c_40 (by rw [hw.2.2, z]; rfl)
              · exact q
            have ew : w - 2 = nI (rj w - 2) := by have q := pk_sub (a := rj w) (b := 2) hw2; rw [← hw.2.2] at q; exact q
            have ej : rj (w - 2) = rj w - 2 := by rw [ew]; unfold rj; rw [nI_clamp (by have := hw.2.1; unfold rj at this; omega)]
            have hj10 : rj (w - 2) < 10 := by omega
            have q : (w - 2 : Int32) = nI (rj (w - 2)) := by rw [ej]; exact ew
            refine lv_eqi q ?_
            refine w_cVi (C := RX6) (As := [.int (nI (rj (w - 2)))]) (rest := []) ⟨hx, hb, hml, hown, hts⟩ (c_X6_limitTold l (tok_t ht) htk hok (j := rj (w - 2)) hj10) (cwV 1 hts gX7_told_X6_limitTold rfl rfl rfl (by decide +kernel) ⟨Nat.le_of_ble_eq_true rfl, Nat.le_of_ble_eq_true rfl⟩) (w_recv (ci := 6) hK hM ((tok_t ht)).lt ((tok_t ht)).k (by decide) rfl) hM hK hS rfl hl.1 rfl (lv_room (Nat.le_of_ble_eq_true rfl)) dX7_told_64 ⟨Nat.le_of_ble_eq_true rfl, Nat.le_of_ble_eq_true rfl⟩ (fun r64 V64 H locs hp64 hM hS => ?_)
            obtain ⟨er64, eV⟩ := hp64
            rw [eV] at hM; clear eV
            exact w_iret V hx hb hret hK hS hM (⟨by first | (simp only [opTold, hT, i2, if_true, if_neg c_22, if_pos c_40]; done) | (rw [er64]; simp only [opTold, hT, i2, if_true, if_neg c_22, if_neg c_40]), hC, fun _ _ => rfl⟩) hlocks dX7_told_67
          · refine lv_aload_n hx hb dX7_told_43 rfl (lv_at hl 0 rfl) ?_
            refine w_gr 7 4 3 (T := TX7) (N := 9) hx hb hts in7 hown hK.1 hM (by decide) (by decide) (by decide) (by decide) (by decide) rfl (by decide) k40 rfl dX7_told_44 ?_
            refine lv_iload_n hx hb dX7_told_47 rfl (lv_at hl 1 rfl) ?_
            refine w_ald (N := 8) 4 hx hb hK.1 hM (by decide) (by first | rfl | (rw [(by decide)]; rfl)) (by first | decide | (rw [(by decide)]; decide)) (by decide) (vp8 i1) (25 + 60 * rj t) (sf3i i1) dX7_told_48 ?_
            refine w_gi 6 3 (T := TX6) (N := 5) hx hb hts in6 hown hK.1 hM ((tok_t ht)).lt ((tok_t ht)).k ((tok_t ht)).n ((tok_t ht)).f3 (by decide) rfl (by decide) k110 rfl dX7_told_49 ?_
            have q : (V (25 + 60 * rj t) 3 : Int32) = nI T.2.2.length := htk.2.2.1
            refine lv_eqi q ?_
            refine lv_goto (tgt := 67) hx hb dX7_told_52 (by decide) ?_
            exact w_iret V hx hb hret hK hS hM (⟨by first | (simp only [opTold, hT, i2, if_true, if_neg c_22, if_pos c_40]; done) | (rw [er64]; simp only [opTold, hT, i2, if_true, if_neg c_22, if_neg c_40]), hC, fun _ _ => rfl⟩) hlocks dX7_told_67
        · refine lv_aload_n hx hb dX7_told_25 rfl (lv_at hl 0 rfl) ?_
          refine w_gr 7 4 3 (T := TX7) (N := 9) hx hb hts in7 hown hK.1 hM (by decide) (by decide) (by decide) (by decide) (by decide) rfl (by decide) k40 rfl dX7_told_26 ?_
          refine lv_iload_n hx hb dX7_told_29 rfl (lv_at hl 1 rfl) ?_
          refine w_ald (N := 8) 4 hx hb hK.1 hM (by decide) (by first | rfl | (rw [(by decide)]; rfl)) (by first | decide | (rw [(by decide)]; decide)) (by decide) (vp8 i1) (25 + 60 * rj t) (sf3i i1) dX7_told_30 ?_
          refine w_gr 6 0 (25 + 60 * rj t + 1) (T := TX6) (N := 5) hx hb hts in6 hown hK.1 hM ((tok_t ht)).lt ((tok_t ht)).k ((tok_t ht)).n ((tok_t ht)).f0 (by decide) rfl (by decide) k113 rfl dX7_told_31 ?_
          refine w_gi 3 1 (T := TX3) (N := 2) hx hb hts in3 hown hK.1 hM (((tok_t ht)).name).lt (((tok_t ht)).name).k (((tok_t ht)).name).n (((tok_t ht)).name).f1 (by decide) rfl (by decide) k79 rfl dX7_told_34 ?_
          have q : (V (25 + 60 * rj t + 1) 1 : Int32) = nI T.1.length := htk.1.1
          refine lv_eqi q ?_
          exact w_iret V hx hb hret hK hS hM (⟨by simp only [opTold, hT, i2, if_true, if_pos c_22], hC, fun _ _ => rfl⟩) hlocks dX7_told_37
      · have i2 : thr σ t = none ∨ inR w 0 11 = false := by first | exact Or.inl hN | (right; simp only [inR]; grind)
        refine lv_bipush (v := (-2)) hx hb dX7_told_18 (by decide) ?_
        have hpost : (fun v V' => v = (opTold σ t w).1 ∧ repC V' (opTold σ t w).2 ∧ frM V V') (-2) V := by
          have hq : opTold σ t w = (-2, σ) := by rcases i2 with q | q; (simp [opTold, q]); (cases h9 : thr σ t <;> simp [opTold, h9, q])
          rw [hq]; exact ⟨rfl, hC, fun _ _ => rfl⟩
        exact w_iret V hx hb hret hK hS hM (hpost) hlocks dX7_told_20

set_option maxHeartbeats 4000000 in
set_option maxRecDepth 100000 in
theorem c_X7_sign (l : Launch) {E : En} {V : Vt} {σ : St} (hC : repC V σ) (t i : Int32) : CI l yX7_sign wsX7_sign 2 E V [.ref (E.1 + 0), .int t, .int i] (fun v V' => v = (opSign σ t i).1 ∧ repC V' (opSign σ t i).2 ∧ frM V V') := by
  refine Met.ofW (cc := cX7_sign) (maxL := 3) (ret := (some .int)) (by decide) rfl ?_
  intro p e s m args below meth c s₁ B hml hv
  obtain ⟨rfl, hM, hK⟩ := hv
  have hx := B.exec
  have hb := B.bytes
  have hret := B.returns
  have hts := atoms_spec (ws := wsX7_sign) B.pre
  have hown : s.vm.findClass RX7 = some m.cls := findClass_of_methodNamed B.named
  have hlocks := B.notSynchronized
  have hsz : s.heap.size = E.1 + 610 := hM.1
  have hS : va_S (AE E) s.heap s.heap [] := va_S.rf
  have in6 : ∀ w ∈ u_ws RX6 TX6 5, w ∈ wsX7_sign := by decide +kernel
  have in7 : ∀ w ∈ u_ws RX7 TX7 9, w ∈ wsX7_sign := by decide +kernel
  have k40 := hts (.fieldLink RX7 40 "LimitTokens" "tokens" "[LLimitTokens$Token;") (by decide +kernel)
  have k120 := hts (.fieldLink RX7 120 "LimitTokens$Token" "sign" "LLimitTokens$Row;") (by decide +kernel)
  have hl := lv_entry ([.ref (E.1 + 0), .int t, .int i]) (n := 3) (Nat.le_of_ble_eq_true rfl)
  rw [lg_entry_eq]
  generalize (lg_sl ([.ref (E.1 + 0), .int t, .int i]) ++ List.replicate (3 - (lg_sl ([.ref (E.1 + 0), .int t, .int i])).length) Slot.unset).toArray = ls at hl ⊢
  have hl : lv_has ls 3 [(0, .ref (E.1 + 0)), (1, .int t), (2, .int i)] := hl
  obtain ⟨⟨oR, oT, oP⟩, cR, cT, cP, cQ, cF, cL, cZ⟩ := id hC
  refine lv_aload_n hx hb dX7_sign_0 rfl (lv_at hl 0 rfl) ?_
  refine lv_iload_n hx hb dX7_sign_1 rfl (lv_at hl 1 rfl) ?_
  refine w_cVi (C := RX7) (As := [.int t]) (rest := []) ⟨hx, hb, hml, hown, hts⟩ (c_X7_isThere l cT t) (cwV 1 hts gX7_sign_X7_isThere rfl rfl rfl (by decide +kernel) ⟨Nat.le_of_ble_eq_true rfl, Nat.le_of_ble_eq_true rfl⟩) (w_recv (ci := 7) hK hM (by decide) (by decide) (by decide) rfl) hM hK hS rfl hl.1 rfl (lv_room (Nat.le_of_ble_eq_true rfl)) dX7_sign_2 ⟨Nat.le_of_ble_eq_true rfl, Nat.le_of_ble_eq_true rfl⟩ (fun r2 V2 H locs hp2 hM hS => ?_)
  obtain ⟨er2, eV⟩ := hp2
  rw [eV] at hM; clear eV
  refine lv_if_eq (tgt := 24) hx hb dX7_sign_5 (by decide) (fun c_5 => ?_) (fun c_5 => ?_)
  · have hN : thr σ t = none := by have q9 := b2i_eq0 (er2.symm.trans c_5); cases q8 : thr σ t with | none => rfl | some x => rw [q8] at q9; cases q9
    refine lv_bipush (v := (-2)) hx hb dX7_sign_24 (by decide) ?_
    have hpost : (fun v V' => v = (opSign σ t i).1 ∧ repC V' (opSign σ t i).2 ∧ frM V V') (-2) V := by
      have hq : opSign σ t i = (-2, σ) := by first | (simp [opSign, hT, i2]; done) | (simp [opSign, hN]; done)
      rw [hq]; exact ⟨rfl, hC, fun _ _ => rfl⟩
    exact w_iret V hx hb hret hK hS hM (hpost) hlocks dX7_sign_26
  · obtain ⟨T, hT⟩ : ∃ T, thr σ t = some T := Option.isSome_iff_exists.mp (b2i_ne0 (by rw [← er2]; exact c_5))
    obtain ⟨i1, ht, et, hTt⟩ := thr_some hT
    obtain ⟨hth, htk⟩ := (cT (rj t) ht).s hTt
    have hok := oT (rj t) ht T hTt
    refine lv_aload_n hx hb dX7_sign_8 rfl (lv_at hl 0 rfl) ?_
    refine w_gr 7 4 3 (T := TX7) (N := 9) hx hb hts in7 hown hK.1 hM (by decide) (by decide) (by decide) (by decide) (by decide) rfl (by decide) k40 rfl dX7_sign_9 ?_
    refine lv_iload_n hx hb dX7_sign_12 rfl (lv_at hl 1 rfl) ?_
    refine w_ald (N := 8) 4 hx hb hK.1 hM (by decide) (by first | rfl | (rw [(by decide)]; rfl)) (by first | decide | (rw [(by decide)]; decide)) (by decide) (vp8 i1) (25 + 60 * rj t) (sf3i i1) dX7_sign_13 ?_
    refine w_gr 6 1 (25 + 60 * rj t + 3) (T := TX6) (N := 5) hx hb hts in6 hown hK.1 hM ((tok_t ht)).lt ((tok_t ht)).k ((tok_t ht)).n ((tok_t ht)).f1 (by decide) rfl (by decide) k120 rfl dX7_sign_14 ?_
    refine lv_iload_n hx hb dX7_sign_17 rfl (lv_at hl 2 rfl) ?_
    refine w_cVi (C := RX3) (As := [.int i]) (rest := []) ⟨hx, hb, hml, hown, hts⟩ (c_X3_has l (tok_t ht).sign i) (cwV 1 hts gX7_sign_X3_has rfl rfl rfl (by decide +kernel) ⟨Nat.le_of_ble_eq_true rfl, Nat.le_of_ble_eq_true rfl⟩) (w_recv (ci := 3) hK hM (((tok_t ht)).sign).lt (((tok_t ht)).sign).k (by decide) rfl) hM hK hS rfl hl.1 rfl (lv_room (Nat.le_of_ble_eq_true rfl)) dX7_sign_18 ⟨Nat.le_of_ble_eq_true rfl, Nat.le_of_ble_eq_true rfl⟩ (fun r18 V18 H locs hp18 hM hS => ?_)
    obtain ⟨er18, eV⟩ := hp18
    rw [eV] at hM; clear eV
    have eh : r18 = b2i (inR i 0 31) := by rw [er18, htk.2.1.1, hok.2.1.1]; simp only [inR, b2i]; have : nI 32 = 32 := rfl; rw [this]; grind
    refine lv_if_ne (tgt := 27) hx hb dX7_sign_21 (by decide) (fun c_21 => ?_) (fun c_21 => ?_)
    · have i2 : inR i 0 31 = true := b2i_ne0 (by rw [← eh]; exact c_21)
      refine lv_aload_n hx hb dX7_sign_27 rfl (lv_at hl 0 rfl) ?_
      refine w_gr 7 4 3 (T := TX7) (N := 9) hx hb hts in7 hown hK.1 hM (by decide) (by decide) (by decide) (by decide) (by decide) rfl (by decide) k40 rfl dX7_sign_28 ?_
      refine lv_iload_n hx hb dX7_sign_31 rfl (lv_at hl 1 rfl) ?_
      refine w_ald (N := 8) 4 hx hb hK.1 hM (by decide) (by first | rfl | (rw [(by decide)]; rfl)) (by first | decide | (rw [(by decide)]; decide)) (by decide) (vp8 i1) (25 + 60 * rj t) (sf3i i1) dX7_sign_32 ?_
      refine w_gr 6 1 (25 + 60 * rj t + 3) (T := TX6) (N := 5) hx hb hts in6 hown hK.1 hM ((tok_t ht)).lt ((tok_t ht)).k ((tok_t ht)).n ((tok_t ht)).f1 (by decide) rfl (by decide) k120 rfl dX7_sign_33 ?_
      refine lv_iload_n hx hb dX7_sign_36 rfl (lv_at hl 2 rfl) ?_
      refine w_cVi (C := RX3) (As := [.int i]) (rest := []) ⟨hx, hb, hml, hown, hts⟩ (c_X3_byteAt l (tok_t ht).sign htk.2.1 (by rw [hok.2.1.1]; omega) i) (cwV 1 hts gX7_sign_X3_byteAt rfl rfl rfl (by decide +kernel) ⟨Nat.le_of_ble_eq_true rfl, Nat.le_of_ble_eq_true rfl⟩) (w_recv (ci := 3) hK hM (((tok_t ht)).sign).lt (((tok_t ht)).sign).k (by decide) rfl) hM hK hS rfl hl.1 rfl (lv_room (Nat.le_of_ble_eq_true rfl)) dX7_sign_37 ⟨Nat.le_of_ble_eq_true rfl, Nat.le_of_ble_eq_true rfl⟩ (fun r37 V37 H locs hp37 hM hS => ?_)
      obtain ⟨er37, eV⟩ := hp37
      rw [eV] at hM; clear eV
      exact w_iret V hx hb hret hK hS hM (⟨by have q := inR_j i2 (m := 0) (n := 31) rfl rfl (by omega) (by omega); rw [er37, bAt_in q.2.2 (by rw [hok.2.1.1]; omega) (by rw [hok.2.1.1]; omega)]; simp [opSign, hT, i2], hC, fun _ _ => rfl⟩) hlocks dX7_sign_40
    · have i2 : inR i 0 31 = false := b2i_eq0 (by rw [← eh]; exact c_21)
      refine lv_bipush (v := (-2)) hx hb dX7_sign_24 (by decide) ?_
      have hpost : (fun v V' => v = (opSign σ t i).1 ∧ repC V' (opSign σ t i).2 ∧ frM V V') (-2) V := by
        have hq : opSign σ t i = (-2, σ) := by first | (simp [opSign, hT, i2]; done) | (simp [opSign, hN]; done)
        rw [hq]; exact ⟨rfl, hC, fun _ _ => rfl⟩
      exact w_iret V hx hb hret hK hS hM (hpost) hlocks dX7_sign_26

set_option maxHeartbeats 4000000 in
set_option maxRecDepth 100000 in
theorem c_X7_ask (l : Launch) {E : En} {V : Vt} {σ : St} (hC : repC V σ) (i v0 : Int32) : CI l yX7_ask wsX7_ask 0 E V [.ref (E.1 + 0), .int i, .int v0] (fun v V' => v = (opAsk σ i v0).1 ∧ repC V' (opAsk σ i v0).2 ∧ frM V V') := by
  refine Met.ofW (cc := cX7_ask) (maxL := 4) (ret := (some .int)) (by decide) rfl ?_
  intro p e s m args below meth c s₁ B hml hv
  obtain ⟨rfl, hM, hK⟩ := hv
  have hx := B.exec
  have hb := B.bytes
  have hret := B.returns
  have hts := atoms_spec (ws := wsX7_ask) B.pre
  have hown : s.vm.findClass RX7 = some m.cls := findClass_of_methodNamed B.named
  have hlocks := B.notSynchronized
  have hsz : s.heap.size = E.1 + 610 := hM.1
  have hS : va_S (AE E) s.heap s.heap [] := va_S.rf
  have in7 : ∀ w ∈ u_ws RX7 TX7 9, w ∈ wsX7_ask := by decide +kernel
  have k57 := hts (.fieldLink RX7 57 "LimitTokens" "request" "[I") (by decide +kernel)
  have hl := lv_entry ([.ref (E.1 + 0), .int i, .int v0]) (n := 4) (Nat.le_of_ble_eq_true rfl)
  rw [lg_entry_eq]
  generalize (lg_sl ([.ref (E.1 + 0), .int i, .int v0]) ++ List.replicate (4 - (lg_sl ([.ref (E.1 + 0), .int i, .int v0])).length) Slot.unset).toArray = ls at hl ⊢
  have hl : lv_has ls 4 [(0, .ref (E.1 + 0)), (1, .int i), (2, .int v0)] := hl
  obtain ⟨⟨oR, oT, oP⟩, cR, cT, cP, cQ, cF, cL, cZ⟩ := id hC
  refine lv_iload_n hx hb dX7_ask_0 rfl (lv_at hl 1 rfl) ?_
  refine lv_if_lt (tgt := 20) hx hb dX7_ask_1 (by decide) (fun c_1 => ?_) (fun c_1 => ?_)
  · have ib : (in8 i && inR v0 0 999999) = false := by simp only [in8, inR]; grind
    refine lv_bipush (v := (-2)) hx hb dX7_ask_20 (by decide) ?_
    have hpost : (fun v V' => v = (opAsk σ i v0).1 ∧ repC V' (opAsk σ i v0).2 ∧ frM V V') (-2) V := by
      have hq : opAsk σ i v0 = (-2, σ) := by unfold opAsk; rw [ib]; rfl
      rw [hq]; exact ⟨rfl, hC, fun _ _ => rfl⟩
    exact w_iret V hx hb hret hK hS hM (hpost) hlocks dX7_ask_22
  · refine lv_iload_n hx hb dX7_ask_4 rfl (lv_at hl 1 rfl) ?_
    refine lv_bipush (v := 8) hx hb dX7_ask_5 (by decide) ?_
    refine lv_icmp_ge (tgt := 20) hx hb dX7_ask_7 (by decide) (fun c_7 => ?_) (fun c_7 => ?_)
    · have ib : (in8 i && inR v0 0 999999) = false := by simp only [in8, inR]; grind
      refine lv_bipush (v := (-2)) hx hb dX7_ask_20 (by decide) ?_
      have hpost : (fun v V' => v = (opAsk σ i v0).1 ∧ repC V' (opAsk σ i v0).2 ∧ frM V V') (-2) V := by
        have hq : opAsk σ i v0 = (-2, σ) := by unfold opAsk; rw [ib]; rfl
        rw [hq]; exact ⟨rfl, hC, fun _ _ => rfl⟩
      exact w_iret V hx hb hret hK hS hM (hpost) hlocks dX7_ask_22
    · refine lv_iload_n hx hb dX7_ask_10 rfl (lv_at hl 2 rfl) ?_
      refine lv_if_lt (tgt := 20) hx hb dX7_ask_11 (by decide) (fun c_11 => ?_) (fun c_11 => ?_)
      · have ib : (in8 i && inR v0 0 999999) = false := by simp only [in8, inR]; grind
        refine lv_bipush (v := (-2)) hx hb dX7_ask_20 (by decide) ?_
        have hpost : (fun v V' => v = (opAsk σ i v0).1 ∧ repC V' (opAsk σ i v0).2 ∧ frM V V') (-2) V := by
          have hq : opAsk σ i v0 = (-2, σ) := by unfold opAsk; rw [ib]; rfl
          rw [hq]; exact ⟨rfl, hC, fun _ _ => rfl⟩
        exact w_iret V hx hb hret hK hS hM (hpost) hlocks dX7_ask_22
      · refine lv_iload_n hx hb dX7_ask_14 rfl (lv_at hl 2 rfl) ?_
        refine lv_ldc (v := 999999) hx hb hown (hts (.constant RX7 172 999999) (by decide +kernel)) dX7_ask_15 ?_
        refine lv_icmp_le (tgt := 23) hx hb dX7_ask_17 (by decide) (fun c_17 => ?_) (fun c_17 => ?_)
        · have i1 : in8 i = true := by simp only [in8]; grind
          have i2 : inR v0 0 999999 = true := by simp only [inR]; grind
          have h8 : rj i < 8 := (in8_r i1).1
          refine lv_aload_n hx hb dX7_ask_23 rfl (lv_at hl 0 rfl) ?_
          refine w_gr 7 7 22 (T := TX7) (N := 9) hx hb hts in7 hown hK.1 hM (by decide) (by decide) (by decide) (by decide) (by decide) rfl (by decide) k57 rfl dX7_ask_24 ?_
          refine lv_iload_n hx hb dX7_ask_27 rfl (lv_at hl 1 rfl) ?_
          refine w_ild (N := 8) hx hb hK.1 hM (by decide) (by decide) (by decide) (vp8 i1) dX7_ask_28 ?_
          refine lv_topi (fun x3_29 ex3_29 => ?_)
          refine lv_istore_n (lv' := [(3, .int x3_29), (0, .ref (E.1 + 0)), (1, .int i), (2, .int v0)]) hx hb dX7_ask_29 rfl hl (by decide) rfl (fun ls hl => ?_)
          refine lv_aload_n hx hb dX7_ask_30 rfl (lv_at hl 1 rfl) ?_
          refine w_gr 7 7 22 (T := TX7) (N := 9) hx hb hts in7 hown hK.1 hM (by decide) (by decide) (by decide) (by decide) (by decide) rfl (by decide) k57 rfl dX7_ask_31 ?_
          refine lv_iload_n hx hb dX7_ask_34 rfl (lv_at hl 2 rfl) ?_
          refine lv_iload_n hx hb dX7_ask_35 rfl (lv_at hl 3 rfl) ?_
          refine w_ist (N := 8) hx hb hK.1 hM hS (by decide) (by decide) (by decide) (vp8 i1) dX7_ask_36 (fun H locs hM hS => ?_)
          generalize hV36 : up2 V 22 i.toNatClampNeg v0 = V36 at hM
          refine lv_iload_n hx hb dX7_ask_37 rfl (lv_at hl 0 rfl) ?_
          have hpost : (fun v V' => v = (opAsk σ i v0).1 ∧ repC V' (opAsk σ i v0).2 ∧ frM V V') x3_29 V36 := by
            have hq : opAsk σ i v0 = (σ.2.2.2.1 (rj i), sReq σ (rj i) v0) := by simp [opAsk, i1, i2]
            have o36 : ∀ j, j ≠ 22 → V36 j = V j := fun j hj => by subst hV36; exact up2_k _ _ hj
            rw [hq]; refine ⟨by rw [ex3_29]; exact cQ (rj i) h8, ⟨⟨oR, oT, oP⟩, cR.fr (fun j a b => o36 j (by omega)), cT.fr oT (fun j a b c => o36 j (by omega)), cP.keep (o36 _ (by omega)) (o36 _ (by omega)), fun q hq => ?_, cF.fr (o36 2 (by omega)), by rw [o36 505 (by omega)]; exact cL, cZ.keep (o36 _ (by omega)) (o36 _ (by omega))⟩, fun j hj => o36 j (by omega)⟩
            show V36 22 q = va_up σ.2.2.2.1 (rj i) v0 q
            subst hV36
            by_cases e : q = rj i
            · rw [e]; show up2 V 22 (rj i) v0 22 (rj i) = _; rw [up2_s]; simp [va_up]
            · show up2 V 22 (rj i) v0 22 q = _; rw [up2_o _ _ e]; simp [va_up, e]; exact cQ q hq
          exact w_iret V36 hx hb hret hK hS hM (hpost) hlocks dX7_ask_38
        · have ib : (in8 i && inR v0 0 999999) = false := by simp only [in8, inR]; grind
          refine lv_bipush (v := (-2)) hx hb dX7_ask_20 (by decide) ?_
          have hpost : (fun v V' => v = (opAsk σ i v0).1 ∧ repC V' (opAsk σ i v0).2 ∧ frM V V') (-2) V := by
            have hq : opAsk σ i v0 = (-2, σ) := by unfold opAsk; rw [ib]; rfl
            rw [hq]; exact ⟨rfl, hC, fun _ _ => rfl⟩
          exact w_iret V hx hb hret hK hS hM (hpost) hlocks dX7_ask_22

set_option maxHeartbeats 4000000 in
set_option maxRecDepth 100000 in
theorem c_X7_truth (l : Launch) {E : En} {V : Vt} {σ : St} (hC : repC V σ) (r : Int32) : CI l yX7_truth wsX7_truth 4 E V [.ref (E.1 + 0), .int r] (fun v V' => v = (opTruth σ r).1 ∧ repC V' (opTruth σ r).2 ∧ frM V V') := by
  refine Met.ofW (cc := cX7_truth) (maxL := 2) (ret := (some .int)) (by decide) rfl ?_
  intro p e s m args below meth c s₁ B hml hv
  obtain ⟨rfl, hM, hK⟩ := hv
  have hx := B.exec
  have hb := B.bytes
  have hret := B.returns
  have hts := atoms_spec (ws := wsX7_truth) B.pre
  have hown : s.vm.findClass RX7 = some m.cls := findClass_of_methodNamed B.named
  have hlocks := B.notSynchronized
  have hsz : s.heap.size = E.1 + 610 := hM.1
  have hS : va_S (AE E) s.heap s.heap [] := va_S.rf
  have in7 : ∀ w ∈ u_ws RX7 TX7 9, w ∈ wsX7_truth := by decide +kernel
  have k50 := hts (.fieldLink RX7 50 "LimitTokens" "judge" "LLimitTokens$Judge;") (by decide +kernel)
  have k11 := hts (.fieldLink RX7 11 "LimitTokens" "registers" "[LLimitTokens$Row;") (by decide +kernel)
  have hl := lv_entry ([.ref (E.1 + 0), .int r]) (n := 2) (Nat.le_of_ble_eq_true rfl)
  rw [lg_entry_eq]
  generalize (lg_sl ([.ref (E.1 + 0), .int r]) ++ List.replicate (2 - (lg_sl ([.ref (E.1 + 0), .int r])).length) Slot.unset).toArray = ls at hl ⊢
  have hl : lv_has ls 2 [(0, .ref (E.1 + 0)), (1, .int r)] := hl
  obtain ⟨⟨oR, oT, oP⟩, cR, cT, cP, cQ, cF, cL, cZ⟩ := id hC
  refine lv_iload_n hx hb dX7_truth_0 rfl (lv_at hl 1 rfl) ?_
  refine w_cSi (As := [.int r]) (rest := []) ⟨hx, hb, hml, hown, hts⟩ (c_X7_isRegister l r) (va_cwS 1 hts gX7_truth_X7_isRegister rfl rfl rfl (by decide +kernel) ⟨Nat.le_of_ble_eq_true rfl, Nat.le_of_ble_eq_true rfl⟩) hM hK hS rfl hl.1 rfl (lv_room (Nat.le_of_ble_eq_true rfl)) dX7_truth_1 ⟨Nat.le_of_ble_eq_true rfl, Nat.le_of_ble_eq_true rfl⟩ (fun r1 V1 H locs hp1 hM hS => ?_)
  obtain ⟨er1, eV⟩ := hp1
  rw [eV] at hM; clear eV
  refine lv_if_eq (tgt := 23) hx hb dX7_truth_4 (by decide) (fun c_4 => ?_) (fun c_4 => ?_)
  · have i1 : in8 r = false := b2i_eq0 (by rw [← er1]; exact c_4)
    refine lv_bipush (v := (-2)) hx hb dX7_truth_23 (by decide) ?_
    exact w_iret V hx hb hret hK hS hM (⟨by simp [opTruth, i1], hC, fun _ _ => rfl⟩) hlocks dX7_truth_25
  · have i1 : in8 r = true := b2i_ne0 (by rw [← er1]; exact c_4)
    refine lv_aload_n hx hb dX7_truth_7 rfl (lv_at hl 0 rfl) ?_
    refine w_gr 7 6 21 (T := TX7) (N := 9) hx hb hts in7 hown hK.1 hM (by decide) (by decide) (by decide) (by decide) (by decide) rfl (by decide) k50 rfl dX7_truth_8 ?_
    refine lv_aload_n hx hb dX7_truth_11 rfl (lv_at hl 0 rfl) ?_
    refine w_gr 7 0 1 (T := TX7) (N := 9) hx hb hts in7 hown hK.1 hM (by decide) (by decide) (by decide) (by decide) (by decide) rfl (by decide) k11 rfl dX7_truth_12 ?_
    refine lv_iload_n hx hb dX7_truth_15 rfl (lv_at hl 1 rfl) ?_
    refine w_ald (N := 8) 3 hx hb hK.1 hM (by decide) (by first | rfl | (rw [(by decide)]; rfl)) (by first | decide | (rw [(by decide)]; decide)) (by decide) (vp8 i1) (564 + 2 * rj r) (sf1i i1) dX7_truth_16 ?_
    refine w_cVi (C := RX0) (As := [.ref (E.1 + (564 + 2 * rj r))]) (rest := []) ⟨hx, hb, hml, hown, hts⟩ (c_X0_judgeText l (rw_R _ (in8_r i1).1) (cR _ (in8_r i1).1) (oR _ (in8_r i1).1).1) (cwV 1 hts gX7_truth_X0_judgeText rfl rfl rfl (by decide +kernel) ⟨Nat.le_of_ble_eq_true rfl, Nat.le_of_ble_eq_true rfl⟩) (w_recv (ci := 0) hK hM (by decide) (by decide) (by decide) rfl) hM hK hS rfl hl.1 rfl (lv_room (Nat.le_of_ble_eq_true rfl)) dX7_truth_17 ⟨Nat.le_of_ble_eq_true rfl, Nat.le_of_ble_eq_true rfl⟩ (fun r17 V17 H locs hp17 hM hS => ?_)
    refine lv_goto (tgt := 25) hx hb dX7_truth_20 (by decide) ?_
    exact w_iret V17 hx hb hret hK hS hM (⟨by rw [hp17.1, truth_congr cQ]; simp [opTruth, i1], hC.fr (fun j hj => hp17.2 j (by omega)), fun j hj => hp17.2 j (by omega)⟩) hlocks dX7_truth_25

set_option maxHeartbeats 4000000 in
set_option maxRecDepth 100000 in
theorem c_X7_fault (l : Launch) {E : En} {V : Vt} {σ : St} (hC : repC V σ) (w : Int32) : CI l yX7_fault wsX7_fault 0 E V [.ref (E.1 + 0), .int w] (fun v V' => v = (opFault σ w).1 ∧ repC V' (opFault σ w).2 ∧ frM V V') := by
  refine Met.ofW (cc := cX7_fault) (maxL := 2) (ret := (some .int)) (by decide) rfl ?_
  intro p e s m args below meth c s₁ B hml hv
  obtain ⟨rfl, hM, hK⟩ := hv
  have hx := B.exec
  have hb := B.bytes
  have hret := B.returns
  have hts := atoms_spec (ws := wsX7_fault) B.pre
  have hown : s.vm.findClass RX7 = some m.cls := findClass_of_methodNamed B.named
  have hlocks := B.notSynchronized
  have hsz : s.heap.size = E.1 + 610 := hM.1
  have hS : va_S (AE E) s.heap s.heap [] := va_S.rf
  have in2 : ∀ w ∈ u_ws RX2 TX2 11, w ∈ wsX7_fault := by decide +kernel
  have in7 : ∀ w ∈ u_ws RX7 TX7 9, w ∈ wsX7_fault := by decide +kernel
  have k18 := hts (.fieldLink RX7 18 "LimitTokens" "prover" "LLimitTokens$Prover;") (by decide +kernel)
  have k194 := hts (.fieldLink RX7 194 "LimitTokens$Prover" "foundToken" "I") (by decide +kernel)
  have k197 := hts (.fieldLink RX7 197 "LimitTokens$Prover" "foundLimit" "I") (by decide +kernel)
  have k200 := hts (.fieldLink RX7 200 "LimitTokens$Prover" "begun" "I") (by decide +kernel)
  have hl := lv_entry ([.ref (E.1 + 0), .int w]) (n := 2) (Nat.le_of_ble_eq_true rfl)
  rw [lg_entry_eq]
  generalize (lg_sl ([.ref (E.1 + 0), .int w]) ++ List.replicate (2 - (lg_sl ([.ref (E.1 + 0), .int w])).length) Slot.unset).toArray = ls at hl ⊢
  have hl : lv_has ls 2 [(0, .ref (E.1 + 0)), (1, .int w)] := hl
  obtain ⟨⟨oR, oT, oP⟩, cR, cT, cP, cQ, cF, cL, cZ⟩ := id hC
  refine lv_iload_n hx hb dX7_fault_0 rfl (lv_at hl 1 rfl) ?_
  by_cases sw_0 : w = 0
  · refine lv_tableIn (x := w) (off := 27) (tgt := 28) hx hb dX7_fault_1 (by rw [sw_0]; decide) (by rw [sw_0]; decide) (by rw [sw_0]; rfl) (by decide) ?_
    refine lv_aload_n hx hb dX7_fault_28 rfl (lv_at hl 0 rfl) ?_
    refine w_gr 7 1 2 (T := TX7) (N := 9) hx hb hts in7 hown hK.1 hM (by decide) (by decide) (by decide) (by decide) (by decide) rfl (by decide) k18 rfl dX7_fault_29 ?_
    refine w_gi 2 8 (T := TX2) (N := 11) hx hb hts in2 hown hK.1 hM (by decide) (by decide) (by decide) (by decide) (by decide) rfl (by decide) k194 rfl dX7_fault_32 ?_
    exact w_iret V hx hb hret hK hS hM (⟨by first | (simp [opFault, sw_0]; first | exact cF.1 | done) | (simp [opFault, sw_1]; exact cF.2.1) | (simp [opFault, sw_2]; exact cF.2.2) | simp [opFault, sw_0, sw_1, sw_2], hC, fun _ _ => rfl⟩) hlocks dX7_fault_35
  by_cases sw_1 : w = 1
  · refine lv_tableIn (x := w) (off := 35) (tgt := 36) hx hb dX7_fault_1 (by rw [sw_1]; decide) (by rw [sw_1]; decide) (by rw [sw_1]; rfl) (by decide) ?_
    refine lv_aload_n hx hb dX7_fault_36 rfl (lv_at hl 0 rfl) ?_
    refine w_gr 7 1 2 (T := TX7) (N := 9) hx hb hts in7 hown hK.1 hM (by decide) (by decide) (by decide) (by decide) (by decide) rfl (by decide) k18 rfl dX7_fault_37 ?_
    refine w_gi 2 9 (T := TX2) (N := 11) hx hb hts in2 hown hK.1 hM (by decide) (by decide) (by decide) (by decide) (by decide) rfl (by decide) k197 rfl dX7_fault_40 ?_
    exact w_iret V hx hb hret hK hS hM (⟨by first | (simp [opFault, sw_0]; first | exact cF.1 | done) | (simp [opFault, sw_1]; exact cF.2.1) | (simp [opFault, sw_2]; exact cF.2.2) | simp [opFault, sw_0, sw_1, sw_2], hC, fun _ _ => rfl⟩) hlocks dX7_fault_43
  by_cases sw_2 : w = 2
  · refine lv_tableIn (x := w) (off := 43) (tgt := 44) hx hb dX7_fault_1 (by rw [sw_2]; decide) (by rw [sw_2]; decide) (by rw [sw_2]; rfl) (by decide) ?_
    refine lv_aload_n hx hb dX7_fault_44 rfl (lv_at hl 0 rfl) ?_
    refine w_gr 7 1 2 (T := TX7) (N := 9) hx hb hts in7 hown hK.1 hM (by decide) (by decide) (by decide) (by decide) (by decide) rfl (by decide) k18 rfl dX7_fault_45 ?_
    refine w_gi 2 10 (T := TX2) (N := 11) hx hb hts in2 hown hK.1 hM (by decide) (by decide) (by decide) (by decide) (by decide) rfl (by decide) k200 rfl dX7_fault_48 ?_
    exact w_iret V hx hb hret hK hS hM (⟨by first | (simp [opFault, sw_0]; first | exact cF.1 | done) | (simp [opFault, sw_1]; exact cF.2.1) | (simp [opFault, sw_2]; exact cF.2.2) | simp [opFault, sw_0, sw_1, sw_2], hC, fun _ _ => rfl⟩) hlocks dX7_fault_51
  refine lv_tableOut (x := w) (tgt := 52) hx hb dX7_fault_1 (sw3b sw_0 sw_1 sw_2) (by decide) ?_
  refine lv_bipush (v := (-2)) hx hb dX7_fault_52 (by decide) ?_
  exact w_iret V hx hb hret hK hS hM (⟨by first | (simp [opFault, sw_0]; first | exact cF.1 | done) | (simp [opFault, sw_1]; exact cF.2.1) | (simp [opFault, sw_2]; exact cF.2.2) | simp [opFault, sw_0, sw_1, sw_2], hC, fun _ _ => rfl⟩) hlocks dX7_fault_54
