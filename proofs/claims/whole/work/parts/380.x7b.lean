theorem in8_r {r : Int32} (h : in8 r = true) : rj r < 8 ∧ r = nI (rj r) := in8_j h
set_option maxHeartbeats 4000000 in
set_option maxRecDepth 100000 in
theorem c_X7_add (l : Launch) {E : En} {V : Vt} {σ : St} (hC : repC V σ) (r n : Int32) (w : Int64) : CI l yX7_add wsX7_add 2 E V [.ref (E.1 + 0), .int r, .int n, .long w] (fun v V' => v = (opAdd σ r n w).1 ∧ repC V' (opAdd σ r n w).2 ∧ frM V V') := by
  refine Met.ofW (cc := cX7_add) (maxL := 5) (ret := (some .int)) (by decide) rfl ?_
  intro p e s m args below meth c s₁ B hml hv
  obtain ⟨rfl, hM, hK⟩ := hv
  have hx := B.exec
  have hb := B.bytes
  have hret := B.returns
  have hts := atoms_spec (ws := wsX7_add) B.pre
  have hown : s.vm.findClass RX7 = some m.cls := findClass_of_methodNamed B.named
  have hlocks := B.notSynchronized
  have hsz : s.heap.size = E.1 + 610 := hM.1
  have hS : va_S (AE E) s.heap s.heap [] := va_S.rf
  have in7 : ∀ w ∈ u_ws RX7 TX7 9, w ∈ wsX7_add := by decide +kernel
  have k11 := hts (.fieldLink RX7 11 "LimitTokens" "registers" "[LLimitTokens$Row;") (by decide +kernel)
  have hl := lv_entry ([.ref (E.1 + 0), .int r, .int n, .long w]) (n := 5) (Nat.le_of_ble_eq_true rfl)
  rw [lg_entry_eq]
  generalize (lg_sl ([.ref (E.1 + 0), .int r, .int n, .long w]) ++ List.replicate (5 - (lg_sl ([.ref (E.1 + 0), .int r, .int n, .long w])).length) Slot.unset).toArray = ls at hl ⊢
  have hl : lv_has ls 5 [(0, .ref (E.1 + 0)), (1, .int r), (2, .int n), (3, .long w)] := hl
  obtain ⟨⟨oR, oT, oP⟩, cR, cT, cP, cQ, cF, cL, cZ⟩ := id hC
  refine lv_iload_n hx hb dX7_add_0 rfl (lv_at hl 1 rfl) ?_
  refine w_cSi (As := [.int r]) (rest := []) ⟨hx, hb, hml, hown, hts⟩ (c_X7_isRegister l r) (va_cwS 1 hts gX7_add_X7_isRegister rfl rfl rfl (by decide +kernel) ⟨Nat.le_of_ble_eq_true rfl, Nat.le_of_ble_eq_true rfl⟩) hM hK hS rfl hl.1 rfl (lv_room (Nat.le_of_ble_eq_true rfl)) dX7_add_1 ⟨Nat.le_of_ble_eq_true rfl, Nat.le_of_ble_eq_true rfl⟩ (fun r1 V1 H locs hp1 hM hS => ?_)
  obtain ⟨er1, eV⟩ := hp1
  rw [eV] at hM; clear eV
  refine lv_if_eq (tgt := 14) hx hb dX7_add_4 (by decide) (fun c_4 => ?_) (fun c_4 => ?_)
  · have i1 : in8 r = false := b2i_eq0 (by rw [← er1]; exact c_4)
    refine lv_bipush (v := (-2)) hx hb dX7_add_14 (by decide) ?_
    have hpost : (fun v V' => v = (opAdd σ r n w).1 ∧ repC V' (opAdd σ r n w).2 ∧ frM V V') (-2) V := by
      have hq : opAdd σ r n w = (-2, σ) := by first | simp [opAdd, i1, i2] | simp [opAdd, i1]
      rw [hq]; exact ⟨rfl, hC, fun _ _ => rfl⟩
    exact w_iret V hx hb hret hK hS hM (hpost) hlocks dX7_add_16
  · have i1 : in8 r = true := b2i_ne0 (by rw [← er1]; exact c_4)
    refine lv_iload_n hx hb dX7_add_7 rfl (lv_at hl 2 rfl) ?_
    refine w_cSi (As := [.int n]) (rest := []) ⟨hx, hb, hml, hown, hts⟩ (c_X7_isWidth l n) (va_cwS 1 hts gX7_add_X7_isWidth rfl rfl rfl (by decide +kernel) ⟨Nat.le_of_ble_eq_true rfl, Nat.le_of_ble_eq_true rfl⟩) hM hK hS rfl hl.1 rfl (lv_room (Nat.le_of_ble_eq_true rfl)) dX7_add_8 ⟨Nat.le_of_ble_eq_true rfl, Nat.le_of_ble_eq_true rfl⟩ (fun r8 V8 H locs hp8 hM hS => ?_)
    obtain ⟨er8, eV⟩ := hp8
    rw [eV] at hM; clear eV
    refine lv_if_ne (tgt := 17) hx hb dX7_add_11 (by decide) (fun c_11 => ?_) (fun c_11 => ?_)
    · have i2 : inR n 1 8 = true := b2i_ne0 (by rw [← er8]; exact c_11)
      have hn := inR_j i2 (m := 1) (n := 8) rfl rfl (by omega) (by omega)
      rw [hn.2.2] at hl
      refine lv_aload_n hx hb dX7_add_17 rfl (lv_at hl 0 rfl) ?_
      refine w_gr 7 0 1 (T := TX7) (N := 9) hx hb hts in7 hown hK.1 hM (by decide) (by decide) (by decide) (by decide) (by decide) rfl (by decide) k11 rfl dX7_add_18 ?_
      refine lv_iload_n hx hb dX7_add_21 rfl (lv_at hl 1 rfl) ?_
      refine w_ald (N := 8) 3 hx hb hK.1 hM (by decide) (by first | rfl | (rw [(by decide)]; rfl)) (by first | decide | (rw [(by decide)]; decide)) (by decide) (vp8 i1) (564 + 2 * rj r) (sf1i i1) dX7_add_22 ?_
      refine lv_iload_n hx hb dX7_add_23 rfl (lv_at hl 2 rfl) ?_
      refine lv_lload_n hx hb dX7_add_24 rfl (lv_at hl 3 rfl) ?_
      refine w_cSi (As := [.ref (E.1 + (564 + 2 * rj r)), .int (nI (rj n)), .long w]) (rest := []) ⟨hx, hb, hml, hown, hts⟩ (c_X7_pushLowest l (rw_R _ (in8_r i1).1) (cR _ (in8_r i1).1) (oR _ (in8_r i1).1).1 (n := rj n) hn.2.1 w) (va_cwS 3 hts gX7_add_X7_pushLowest rfl rfl rfl (by decide +kernel) ⟨Nat.le_of_ble_eq_true rfl, Nat.le_of_ble_eq_true rfl⟩) hM hK hS rfl hl.1 rfl (lv_room (Nat.le_of_ble_eq_true rfl)) dX7_add_25 ⟨Nat.le_of_ble_eq_true rfl, Nat.le_of_ble_eq_true rfl⟩ (fun r25 V25 H locs hp25 hM hS => ?_)
      have hpost : (fun v V' => v = (opAdd σ r n w).1 ∧ repC V' (opAdd σ r n w).2 ∧ frM V V') r25 V25 := by
        rcases hp25 with ⟨q1, q2, q3, q4⟩ | ⟨q1, q2, q3⟩
        · have hq : opAdd σ r n w = (nI ((σ.1 (rj r)).length + rj n), sReg σ (rj r) (σ.1 (rj r) ++ lowB w (rj n))) := by simp [opAdd, i1, i2, q1]
          rw [hq]; exact ⟨q2, hC.reg (in8_r i1).1 q3 (by rw [List.length_append, lowB_len]; exact q1) ((oR _ (in8_r i1).1).2.app (lowB_ok _ _)) (fun j a b _ => q4 j a (by omega)), fun j hj => q4 j (by have := (in8_r i1).1; omega) (by have := (in8_r i1).1; omega)⟩
        · have hq : opAdd σ r n w = (-3, σ) := by simp [opAdd, i1, i2]; omega
          rw [hq]; subst q3; exact ⟨q2, hC, fun _ _ => rfl⟩
      exact w_iret V25 hx hb hret hK hS hM (hpost) hlocks dX7_add_28
    · have i2 : inR n 1 8 = false := b2i_eq0 (by rw [← er8]; exact c_11)
      refine lv_bipush (v := (-2)) hx hb dX7_add_14 (by decide) ?_
      have hpost : (fun v V' => v = (opAdd σ r n w).1 ∧ repC V' (opAdd σ r n w).2 ∧ frM V V') (-2) V := by
        have hq : opAdd σ r n w = (-2, σ) := by first | simp [opAdd, i1, i2] | simp [opAdd, i1]
        rw [hq]; exact ⟨rfl, hC, fun _ _ => rfl⟩
      exact w_iret V hx hb hret hK hS hM (hpost) hlocks dX7_add_16

set_option maxHeartbeats 4000000 in
set_option maxRecDepth 100000 in
theorem c_X7_clear (l : Launch) {E : En} {V : Vt} {σ : St} (hC : repC V σ) (r : Int32) : CI l yX7_clear wsX7_clear 1 E V [.ref (E.1 + 0), .int r] (fun v V' => v = (opClear σ r).1 ∧ repC V' (opClear σ r).2 ∧ frM V V') := by
  refine Met.ofW (cc := cX7_clear) (maxL := 3) (ret := (some .int)) (by decide) rfl ?_
  intro p e s m args below meth c s₁ B hml hv
  obtain ⟨rfl, hM, hK⟩ := hv
  have hx := B.exec
  have hb := B.bytes
  have hret := B.returns
  have hts := atoms_spec (ws := wsX7_clear) B.pre
  have hown : s.vm.findClass RX7 = some m.cls := findClass_of_methodNamed B.named
  have hlocks := B.notSynchronized
  have hsz : s.heap.size = E.1 + 610 := hM.1
  have hS : va_S (AE E) s.heap s.heap [] := va_S.rf
  have in3 : ∀ w ∈ u_ws RX3 TX3 2, w ∈ wsX7_clear := by decide +kernel
  have in7 : ∀ w ∈ u_ws RX7 TX7 9, w ∈ wsX7_clear := by decide +kernel
  have k11 := hts (.fieldLink RX7 11 "LimitTokens" "registers" "[LLimitTokens$Row;") (by decide +kernel)
  have k79 := hts (.fieldLink RX7 79 "LimitTokens$Row" "length" "I") (by decide +kernel)
  have hl := lv_entry ([.ref (E.1 + 0), .int r]) (n := 3) (Nat.le_of_ble_eq_true rfl)
  rw [lg_entry_eq]
  generalize (lg_sl ([.ref (E.1 + 0), .int r]) ++ List.replicate (3 - (lg_sl ([.ref (E.1 + 0), .int r])).length) Slot.unset).toArray = ls at hl ⊢
  have hl : lv_has ls 3 [(0, .ref (E.1 + 0)), (1, .int r)] := hl
  obtain ⟨⟨oR, oT, oP⟩, cR, cT, cP, cQ, cF, cL, cZ⟩ := id hC
  refine lv_iload_n hx hb dX7_clear_0 rfl (lv_at hl 1 rfl) ?_
  refine w_cSi (As := [.int r]) (rest := []) ⟨hx, hb, hml, hown, hts⟩ (c_X7_isRegister l r) (va_cwS 1 hts gX7_clear_X7_isRegister rfl rfl rfl (by decide +kernel) ⟨Nat.le_of_ble_eq_true rfl, Nat.le_of_ble_eq_true rfl⟩) hM hK hS rfl hl.1 rfl (lv_room (Nat.le_of_ble_eq_true rfl)) dX7_clear_1 ⟨Nat.le_of_ble_eq_true rfl, Nat.le_of_ble_eq_true rfl⟩ (fun r1 V1 H locs hp1 hM hS => ?_)
  obtain ⟨er1, eV⟩ := hp1
  rw [eV] at hM; clear eV
  refine lv_if_ne (tgt := 10) hx hb dX7_clear_4 (by decide) (fun c_4 => ?_) (fun c_4 => ?_)
  · have i1 : in8 r = true := b2i_ne0 (by rw [← er1]; exact c_4)
    have hr8 : rj r < 8 := (in8_r i1).1
    refine lv_aload_n hx hb dX7_clear_10 rfl (lv_at hl 0 rfl) ?_
    refine w_gr 7 0 1 (T := TX7) (N := 9) hx hb hts in7 hown hK.1 hM (by decide) (by decide) (by decide) (by decide) (by decide) rfl (by decide) k11 rfl dX7_clear_11 ?_
    refine lv_iload_n hx hb dX7_clear_14 rfl (lv_at hl 1 rfl) ?_
    refine w_ald (N := 8) 3 hx hb hK.1 hM (by decide) (by first | rfl | (rw [(by decide)]; rfl)) (by first | decide | (rw [(by decide)]; decide)) (by decide) (vp8 i1) (564 + 2 * rj r) (sf1i i1) dX7_clear_15 ?_
    refine w_gi 3 1 (T := TX3) (N := 2) hx hb hts in3 hown hK.1 hM ((rw_R _ (in8_r i1).1)).lt ((rw_R _ (in8_r i1).1)).k ((rw_R _ (in8_r i1).1)).n ((rw_R _ (in8_r i1).1)).f1 (by decide) rfl (by decide) k79 rfl dX7_clear_16 ?_
    have q : (V (564 + 2 * rj r) 1 : Int32) = nI (σ.1 (rj r)).length := (cR _ (in8_r i1).1).1
    refine lv_eqi q ?_
    refine lv_topi (fun x2_19 ex2_19 => ?_)
    refine lv_istore_n (lv' := [(2, .int x2_19), (0, .ref (E.1 + 0)), (1, .int r)]) hx hb dX7_clear_19 rfl hl (by decide) rfl (fun ls hl => ?_)
    refine lv_aload_n hx hb dX7_clear_20 rfl (lv_at hl 1 rfl) ?_
    refine w_gr 7 0 1 (T := TX7) (N := 9) hx hb hts in7 hown hK.1 hM (by decide) (by decide) (by decide) (by decide) (by decide) rfl (by decide) k11 rfl dX7_clear_21 ?_
    refine lv_iload_n hx hb dX7_clear_24 rfl (lv_at hl 2 rfl) ?_
    refine w_ald (N := 8) 3 hx hb hK.1 hM (by decide) (by first | rfl | (rw [(by decide)]; rfl)) (by first | decide | (rw [(by decide)]; decide)) (by decide) (vp8 i1) (564 + 2 * rj r) (sf1i i1) dX7_clear_25 ?_
    refine w_cVv (C := RX3) (As := []) (rest := []) ⟨hx, hb, hml, hown, hts⟩ (c_X3_makeEmpty l (rw_R _ (in8_r i1).1)) (cwV 0 hts gX7_clear_X3_makeEmpty rfl rfl rfl (by decide +kernel) ⟨Nat.le_of_ble_eq_true rfl, Nat.le_of_ble_eq_true rfl⟩) (w_recv (ci := 3) hK hM ((rw_R _ (in8_r i1).1)).lt ((rw_R _ (in8_r i1).1)).k (by decide) rfl) hM hK hS rfl hl.1 rfl (lv_room (Nat.le_of_ble_eq_true rfl)) dX7_clear_26 ⟨Nat.le_of_ble_eq_true rfl, Nat.le_of_ble_eq_true rfl⟩ (fun V26 H locs hp26 hM hS => ?_)
    refine lv_iload_n hx hb dX7_clear_29 rfl (lv_at hl 0 rfl) ?_
    have hpost : (fun v V' => v = (opClear σ r).1 ∧ repC V' (opClear σ r).2 ∧ frM V V') x2_19 V26 := by
      have hq : opClear σ r = (nI (σ.1 (rj r)).length, sReg σ (rj r) []) := by simp [opClear, i1]
      rw [hq]; exact ⟨ex2_19, hC.reg hr8 hp26.1 (by simp) (fun x hx => by cases hx) (fun j a b _ => hp26.2 j a (by omega)), fun j hj => hp26.2 j (by omega) (by omega)⟩
    exact w_iret V26 hx hb hret hK hS hM (hpost) hlocks dX7_clear_30
  · have i1 : in8 r = false := b2i_eq0 (by rw [← er1]; exact c_4)
    refine lv_bipush (v := (-2)) hx hb dX7_clear_7 (by decide) ?_
    have hpost : (fun v V' => v = (opClear σ r).1 ∧ repC V' (opClear σ r).2 ∧ frM V V') (-2) V := by
      have hq : opClear σ r = (-2, σ) := by first | simp [opClear, i1]
      rw [hq]; exact ⟨rfl, hC, fun _ _ => rfl⟩
    exact w_iret V hx hb hret hK hS hM (hpost) hlocks dX7_clear_9

set_option maxHeartbeats 4000000 in
set_option maxRecDepth 100000 in
theorem c_X7_at (l : Launch) {E : En} {V : Vt} {σ : St} (hC : repC V σ) (r i : Int32) : CI l yX7_at wsX7_at 1 E V [.ref (E.1 + 0), .int r, .int i] (fun v V' => v = (opAt σ r i).1 ∧ repC V' (opAt σ r i).2 ∧ frM V V') := by
  refine Met.ofW (cc := cX7_at) (maxL := 3) (ret := (some .int)) (by decide) rfl ?_
  intro p e s m args below meth c s₁ B hml hv
  obtain ⟨rfl, hM, hK⟩ := hv
  have hx := B.exec
  have hb := B.bytes
  have hret := B.returns
  have hts := atoms_spec (ws := wsX7_at) B.pre
  have hown : s.vm.findClass RX7 = some m.cls := findClass_of_methodNamed B.named
  have hlocks := B.notSynchronized
  have hsz : s.heap.size = E.1 + 610 := hM.1
  have hS : va_S (AE E) s.heap s.heap [] := va_S.rf
  have in7 : ∀ w ∈ u_ws RX7 TX7 9, w ∈ wsX7_at := by decide +kernel
  have k11 := hts (.fieldLink RX7 11 "LimitTokens" "registers" "[LLimitTokens$Row;") (by decide +kernel)
  have hl := lv_entry ([.ref (E.1 + 0), .int r, .int i]) (n := 3) (Nat.le_of_ble_eq_true rfl)
  rw [lg_entry_eq]
  generalize (lg_sl ([.ref (E.1 + 0), .int r, .int i]) ++ List.replicate (3 - (lg_sl ([.ref (E.1 + 0), .int r, .int i])).length) Slot.unset).toArray = ls at hl ⊢
  have hl : lv_has ls 3 [(0, .ref (E.1 + 0)), (1, .int r), (2, .int i)] := hl
  obtain ⟨⟨oR, oT, oP⟩, cR, cT, cP, cQ, cF, cL, cZ⟩ := id hC
  refine lv_iload_n hx hb dX7_at_0 rfl (lv_at hl 1 rfl) ?_
  refine w_cSi (As := [.int r]) (rest := []) ⟨hx, hb, hml, hown, hts⟩ (c_X7_isRegister l r) (va_cwS 1 hts gX7_at_X7_isRegister rfl rfl rfl (by decide +kernel) ⟨Nat.le_of_ble_eq_true rfl, Nat.le_of_ble_eq_true rfl⟩) hM hK hS rfl hl.1 rfl (lv_room (Nat.le_of_ble_eq_true rfl)) dX7_at_1 ⟨Nat.le_of_ble_eq_true rfl, Nat.le_of_ble_eq_true rfl⟩ (fun r1 V1 H locs hp1 hM hS => ?_)
  obtain ⟨er1, eV⟩ := hp1
  rw [eV] at hM; clear eV
  refine lv_if_eq (tgt := 20) hx hb dX7_at_4 (by decide) (fun c_4 => ?_) (fun c_4 => ?_)
  · have i1 : in8 r = false := b2i_eq0 (by rw [← er1]; exact c_4)
    refine lv_bipush (v := (-2)) hx hb dX7_at_20 (by decide) ?_
    exact w_iret V hx hb hret hK hS hM (⟨by first | (simp [opAt, i1]; done) | (simp only [opAt, i1, if_true]; exact er14), hC, fun _ _ => rfl⟩) hlocks dX7_at_22
  · have i1 : in8 r = true := b2i_ne0 (by rw [← er1]; exact c_4)
    refine lv_aload_n hx hb dX7_at_7 rfl (lv_at hl 0 rfl) ?_
    refine w_gr 7 0 1 (T := TX7) (N := 9) hx hb hts in7 hown hK.1 hM (by decide) (by decide) (by decide) (by decide) (by decide) rfl (by decide) k11 rfl dX7_at_8 ?_
    refine lv_iload_n hx hb dX7_at_11 rfl (lv_at hl 1 rfl) ?_
    refine w_ald (N := 8) 3 hx hb hK.1 hM (by decide) (by first | rfl | (rw [(by decide)]; rfl)) (by first | decide | (rw [(by decide)]; decide)) (by decide) (vp8 i1) (564 + 2 * rj r) (sf1i i1) dX7_at_12 ?_
    refine lv_iload_n hx hb dX7_at_13 rfl (lv_at hl 2 rfl) ?_
    refine w_cVi (C := RX3) (As := [.int i]) (rest := []) ⟨hx, hb, hml, hown, hts⟩ (c_X3_byteAt l (rw_R _ (in8_r i1).1) (cR _ (in8_r i1).1) (oR _ (in8_r i1).1).1 i) (cwV 1 hts gX7_at_X3_byteAt rfl rfl rfl (by decide +kernel) ⟨Nat.le_of_ble_eq_true rfl, Nat.le_of_ble_eq_true rfl⟩) (w_recv (ci := 3) hK hM ((rw_R _ (in8_r i1).1)).lt ((rw_R _ (in8_r i1).1)).k (by decide) rfl) hM hK hS rfl hl.1 rfl (lv_room (Nat.le_of_ble_eq_true rfl)) dX7_at_14 ⟨Nat.le_of_ble_eq_true rfl, Nat.le_of_ble_eq_true rfl⟩ (fun r14 V14 H locs hp14 hM hS => ?_)
    obtain ⟨er14, eV⟩ := hp14
    rw [eV] at hM; clear eV
    refine lv_goto (tgt := 22) hx hb dX7_at_17 (by decide) ?_
    exact w_iret V hx hb hret hK hS hM (⟨by first | (simp [opAt, i1]; done) | (simp only [opAt, i1, if_true]; exact er14), hC, fun _ _ => rfl⟩) hlocks dX7_at_22

set_option maxHeartbeats 4000000 in
set_option maxRecDepth 100000 in
theorem c_X7_hash (l : Launch) {E : En} {V : Vt} {σ : St} (hC : repC V σ) (a b : Int32) : CI l yX7_hash wsX7_hash 4 E V [.ref (E.1 + 0), .int a, .int b] (fun v V' => v = (opHash σ a b).1 ∧ repC V' (opHash σ a b).2 ∧ frM V V') := by
  refine Met.ofW (cc := cX7_hash) (maxL := 3) (ret := (some .int)) (by decide) rfl ?_
  intro p e s m args below meth c s₁ B hml hv
  obtain ⟨rfl, hM, hK⟩ := hv
  have hx := B.exec
  have hb := B.bytes
  have hret := B.returns
  have hts := atoms_spec (ws := wsX7_hash) B.pre
  have hown : s.vm.findClass RX7 = some m.cls := findClass_of_methodNamed B.named
  have hlocks := B.notSynchronized
  have hsz : s.heap.size = E.1 + 610 := hM.1
  have hS : va_S (AE E) s.heap s.heap [] := va_S.rf
  have in3 : ∀ w ∈ u_ws RX3 TX3 2, w ∈ wsX7_hash := by decide +kernel
  have in7 : ∀ w ∈ u_ws RX7 TX7 9, w ∈ wsX7_hash := by decide +kernel
  have k45 := hts (.fieldLink RX7 45 "LimitTokens" "sealer" "LLimitTokens$Sealer;") (by decide +kernel)
  have k11 := hts (.fieldLink RX7 11 "LimitTokens" "registers" "[LLimitTokens$Row;") (by decide +kernel)
  have k79 := hts (.fieldLink RX7 79 "LimitTokens$Row" "length" "I") (by decide +kernel)
  have hl := lv_entry ([.ref (E.1 + 0), .int a, .int b]) (n := 3) (Nat.le_of_ble_eq_true rfl)
  rw [lg_entry_eq]
  generalize (lg_sl ([.ref (E.1 + 0), .int a, .int b]) ++ List.replicate (3 - (lg_sl ([.ref (E.1 + 0), .int a, .int b])).length) Slot.unset).toArray = ls at hl ⊢
  have hl : lv_has ls 3 [(0, .ref (E.1 + 0)), (1, .int a), (2, .int b)] := hl
  obtain ⟨⟨oR, oT, oP⟩, cR, cT, cP, cQ, cF, cL, cZ⟩ := id hC
  refine lv_iload_n hx hb dX7_hash_0 rfl (lv_at hl 1 rfl) ?_
  refine w_cSi (As := [.int a]) (rest := []) ⟨hx, hb, hml, hown, hts⟩ (c_X7_isRegister l a) (va_cwS 1 hts gX7_hash_X7_isRegister rfl rfl rfl (by decide +kernel) ⟨Nat.le_of_ble_eq_true rfl, Nat.le_of_ble_eq_true rfl⟩) hM hK hS rfl hl.1 rfl (lv_room (Nat.le_of_ble_eq_true rfl)) dX7_hash_1 ⟨Nat.le_of_ble_eq_true rfl, Nat.le_of_ble_eq_true rfl⟩ (fun r1 V1 H locs hp1 hM hS => ?_)
  obtain ⟨er1, eV⟩ := hp1
  rw [eV] at hM; clear eV
  refine lv_if_eq (tgt := 14) hx hb dX7_hash_4 (by decide) (fun c_4 => ?_) (fun c_4 => ?_)
  · have i1 : in8 a = false := b2i_eq0 (by rw [← er1]; exact c_4)
    refine lv_bipush (v := (-2)) hx hb dX7_hash_14 (by decide) ?_
    have hpost : (fun v V' => v = (opHash σ a b).1 ∧ repC V' (opHash σ a b).2 ∧ frM V V') (-2) V := by
      have hq : opHash σ a b = (-2, σ) := by first | simp [opHash, i1, i2] | simp [opHash, i1]
      rw [hq]; exact ⟨rfl, hC, fun _ _ => rfl⟩
    exact w_iret V hx hb hret hK hS hM (hpost) hlocks dX7_hash_16
  · have i1 : in8 a = true := b2i_ne0 (by rw [← er1]; exact c_4)
    refine lv_iload_n hx hb dX7_hash_7 rfl (lv_at hl 2 rfl) ?_
    refine w_cSi (As := [.int b]) (rest := []) ⟨hx, hb, hml, hown, hts⟩ (c_X7_isRegister l b) (va_cwS 1 hts gX7_hash_X7_isRegister rfl rfl rfl (by decide +kernel) ⟨Nat.le_of_ble_eq_true rfl, Nat.le_of_ble_eq_true rfl⟩) hM hK hS rfl hl.1 rfl (lv_room (Nat.le_of_ble_eq_true rfl)) dX7_hash_8 ⟨Nat.le_of_ble_eq_true rfl, Nat.le_of_ble_eq_true rfl⟩ (fun r8 V8 H locs hp8 hM hS => ?_)
    obtain ⟨er8, eV⟩ := hp8
    rw [eV] at hM; clear eV
    refine lv_if_ne (tgt := 17) hx hb dX7_hash_11 (by decide) (fun c_11 => ?_) (fun c_11 => ?_)
    · have i2 : in8 b = true := b2i_ne0 (by rw [← er8]; exact c_11)
      have h1 : rj a < 8 := (in8_r i1).1
      refine lv_aload_n hx hb dX7_hash_17 rfl (lv_at hl 0 rfl) ?_
      refine w_gr 7 5 4 (T := TX7) (N := 9) hx hb hts in7 hown hK.1 hM (by decide) (by decide) (by decide) (by decide) (by decide) rfl (by decide) k45 rfl dX7_hash_18 ?_
      refine lv_aload_n hx hb dX7_hash_21 rfl (lv_at hl 0 rfl) ?_
      refine w_gr 7 0 1 (T := TX7) (N := 9) hx hb hts in7 hown hK.1 hM (by decide) (by decide) (by decide) (by decide) (by decide) rfl (by decide) k11 rfl dX7_hash_22 ?_
      refine lv_iload_n hx hb dX7_hash_25 rfl (lv_at hl 1 rfl) ?_
      refine w_ald (N := 8) 3 hx hb hK.1 hM (by decide) (by first | rfl | (rw [(by decide)]; rfl)) (by first | decide | (rw [(by decide)]; decide)) (by decide) (vp8 i1) (564 + 2 * rj a) (sf1i i1) dX7_hash_26 ?_
      refine lv_aload_n hx hb dX7_hash_27 rfl (lv_at hl 0 rfl) ?_
      refine w_gr 7 0 1 (T := TX7) (N := 9) hx hb hts in7 hown hK.1 hM (by decide) (by decide) (by decide) (by decide) (by decide) rfl (by decide) k11 rfl dX7_hash_28 ?_
      refine lv_iload_n hx hb dX7_hash_31 rfl (lv_at hl 2 rfl) ?_
      refine w_ald (N := 8) 3 hx hb hK.1 hM (by decide) (by first | rfl | (rw [(by decide)]; rfl)) (by first | decide | (rw [(by decide)]; decide)) (by decide) (vp8 i2) (564 + 2 * rj b) (sf1i i2) dX7_hash_32 ?_
      refine w_cVv (C := RX4) (As := [.ref (E.1 + (564 + 2 * rj a)), .ref (E.1 + (564 + 2 * rj b))]) (rest := []) ⟨hx, hb, hml, hown, hts⟩ (c_X4_hashInto l (rw_R _ (in8_r i1).1) (by decide) (by omega) (rw_R _ (in8_r i2).1) (cR _ (in8_r i2).1) (oR _ (in8_r i2).1).1 (by have := (oR _ (in8_r i2).1).1; omega)) (cwV 2 hts gX7_hash_X4_hashInto rfl rfl rfl (by decide +kernel) ⟨Nat.le_of_ble_eq_true rfl, Nat.le_of_ble_eq_true rfl⟩) (w_recv (ci := 4) hK hM (by decide) (by decide) (by decide) rfl) hM hK hS rfl hl.1 rfl (lv_room (Nat.le_of_ble_eq_true rfl)) dX7_hash_33 ⟨Nat.le_of_ble_eq_true rfl, Nat.le_of_ble_eq_true rfl⟩ (fun V33 H locs hp33 hM hS => ?_)
      refine lv_aload_n hx hb dX7_hash_36 rfl (lv_at hl 0 rfl) ?_
      refine w_gr 7 0 1 (T := TX7) (N := 9) hx hb hts in7 hown hK.1 hM (by decide) (by decide) (by decide) (by decide) (by decide) rfl (by decide) k11 rfl dX7_hash_37 ?_
      refine lv_iload_n hx hb dX7_hash_40 rfl (lv_at hl 1 rfl) ?_
      refine w_ald (N := 8) 3 hx hb hK.1 hM (by decide) (by first | rfl | (rw [(by decide)]; rfl)) (by first | decide | (rw [(by decide)]; decide)) (by decide) (vp8 i1) (564 + 2 * rj a) (sf1i i1) dX7_hash_41 ?_
      refine w_gi 3 1 (T := TX3) (N := 2) hx hb hts in3 hown hK.1 hM ((rw_R _ (in8_r i1).1)).lt ((rw_R _ (in8_r i1).1)).k ((rw_R _ (in8_r i1).1)).n ((rw_R _ (in8_r i1).1)).f1 (by decide) rfl (by decide) k79 rfl dX7_hash_42 ?_
      have q : (V33 (564 + 2 * rj a) 1 : Int32) = 32 := by rw [hp33.1.1, sha_len]; rfl
      refine lv_eqi q ?_
      have hpost : (fun v V' => v = (opHash σ a b).1 ∧ repC V' (opHash σ a b).2 ∧ frM V V') 32 V33 := by
        have hq : opHash σ a b = (32, sReg σ (rj a) (sha (σ.1 (rj b)))) := by simp [opHash, i1, i2]
        rw [hq]; exact ⟨rfl, hC.reg h1 hp33.1 (by rw [sha_len]; omega) (sha_ok _) (fun j u v w => hp33.2 j (by omega) u (by omega)), fun j hj => hp33.2 j (by omega) (by omega) (by omega)⟩
      exact w_iret V33 hx hb hret hK hS hM (hpost) hlocks dX7_hash_45
    · have i2 : in8 b = false := b2i_eq0 (by rw [← er8]; exact c_11)
      refine lv_bipush (v := (-2)) hx hb dX7_hash_14 (by decide) ?_
      have hpost : (fun v V' => v = (opHash σ a b).1 ∧ repC V' (opHash σ a b).2 ∧ frM V V') (-2) V := by
        have hq : opHash σ a b = (-2, σ) := by first | simp [opHash, i1, i2] | simp [opHash, i1]
        rw [hq]; exact ⟨rfl, hC, fun _ _ => rfl⟩
      exact w_iret V hx hb hret hK hS hM (hpost) hlocks dX7_hash_16

set_option maxHeartbeats 4000000 in
set_option maxRecDepth 100000 in
theorem c_X7_seal (l : Launch) {E : En} {V : Vt} {σ : St} (hC : repC V σ) (a k m0 : Int32) : CI l yX7_seal wsX7_seal 4 E V [.ref (E.1 + 0), .int a, .int k, .int m0] (fun v V' => v = (opSeal σ a k m0).1 ∧ repC V' (opSeal σ a k m0).2 ∧ frM V V') := by
  refine Met.ofW (cc := cX7_seal) (maxL := 4) (ret := (some .int)) (by decide) rfl ?_
  intro p e s m args below meth c s₁ B hml hv
  obtain ⟨rfl, hM, hK⟩ := hv
  have hx := B.exec
  have hb := B.bytes
  have hret := B.returns
  have hts := atoms_spec (ws := wsX7_seal) B.pre
  have hown : s.vm.findClass RX7 = some m.cls := findClass_of_methodNamed B.named
  have hlocks := B.notSynchronized
  have hsz : s.heap.size = E.1 + 610 := hM.1
  have hS : va_S (AE E) s.heap s.heap [] := va_S.rf
  have in3 : ∀ w ∈ u_ws RX3 TX3 2, w ∈ wsX7_seal := by decide +kernel
  have in7 : ∀ w ∈ u_ws RX7 TX7 9, w ∈ wsX7_seal := by decide +kernel
  have k45 := hts (.fieldLink RX7 45 "LimitTokens" "sealer" "LLimitTokens$Sealer;") (by decide +kernel)
  have k11 := hts (.fieldLink RX7 11 "LimitTokens" "registers" "[LLimitTokens$Row;") (by decide +kernel)
  have k79 := hts (.fieldLink RX7 79 "LimitTokens$Row" "length" "I") (by decide +kernel)
  have hl := lv_entry ([.ref (E.1 + 0), .int a, .int k, .int m0]) (n := 4) (Nat.le_of_ble_eq_true rfl)
  rw [lg_entry_eq]
  generalize (lg_sl ([.ref (E.1 + 0), .int a, .int k, .int m0]) ++ List.replicate (4 - (lg_sl ([.ref (E.1 + 0), .int a, .int k, .int m0])).length) Slot.unset).toArray = ls at hl ⊢
  have hl : lv_has ls 4 [(0, .ref (E.1 + 0)), (1, .int a), (2, .int k), (3, .int m0)] := hl
  obtain ⟨⟨oR, oT, oP⟩, cR, cT, cP, cQ, cF, cL, cZ⟩ := id hC
  refine lv_iload_n hx hb dX7_seal_0 rfl (lv_at hl 1 rfl) ?_
  refine w_cSi (As := [.int a]) (rest := []) ⟨hx, hb, hml, hown, hts⟩ (c_X7_isRegister l a) (va_cwS 1 hts gX7_seal_X7_isRegister rfl rfl rfl (by decide +kernel) ⟨Nat.le_of_ble_eq_true rfl, Nat.le_of_ble_eq_true rfl⟩) hM hK hS rfl hl.1 rfl (lv_room (Nat.le_of_ble_eq_true rfl)) dX7_seal_1 ⟨Nat.le_of_ble_eq_true rfl, Nat.le_of_ble_eq_true rfl⟩ (fun r1 V1 H locs hp1 hM hS => ?_)
  obtain ⟨er1, eV⟩ := hp1
  rw [eV] at hM; clear eV
  refine lv_if_eq (tgt := 21) hx hb dX7_seal_4 (by decide) (fun c_4 => ?_) (fun c_4 => ?_)
  · have i1 : in8 a = false := b2i_eq0 (by rw [← er1]; exact c_4)
    refine lv_bipush (v := (-2)) hx hb dX7_seal_21 (by decide) ?_
    have hpost : (fun v V' => v = (opSeal σ a k m0).1 ∧ repC V' (opSeal σ a k m0).2 ∧ frM V V') (-2) V := by
      have hq : opSeal σ a k m0 = (-2, σ) := by first | simp [opSeal, i1, i2, i3] | simp [opSeal, i1, i2] | simp [opSeal, i1]
      rw [hq]; exact ⟨rfl, hC, fun _ _ => rfl⟩
    exact w_iret V hx hb hret hK hS hM (hpost) hlocks dX7_seal_23
  · have i1 : in8 a = true := b2i_ne0 (by rw [← er1]; exact c_4)
    refine lv_iload_n hx hb dX7_seal_7 rfl (lv_at hl 2 rfl) ?_
    refine w_cSi (As := [.int k]) (rest := []) ⟨hx, hb, hml, hown, hts⟩ (c_X7_isRegister l k) (va_cwS 1 hts gX7_seal_X7_isRegister rfl rfl rfl (by decide +kernel) ⟨Nat.le_of_ble_eq_true rfl, Nat.le_of_ble_eq_true rfl⟩) hM hK hS rfl hl.1 rfl (lv_room (Nat.le_of_ble_eq_true rfl)) dX7_seal_8 ⟨Nat.le_of_ble_eq_true rfl, Nat.le_of_ble_eq_true rfl⟩ (fun r8 V8 H locs hp8 hM hS => ?_)
    obtain ⟨er8, eV⟩ := hp8
    rw [eV] at hM; clear eV
    refine lv_if_eq (tgt := 21) hx hb dX7_seal_11 (by decide) (fun c_11 => ?_) (fun c_11 => ?_)
    · have i2 : in8 k = false := b2i_eq0 (by rw [← er8]; exact c_11)
      refine lv_bipush (v := (-2)) hx hb dX7_seal_21 (by decide) ?_
      have hpost : (fun v V' => v = (opSeal σ a k m0).1 ∧ repC V' (opSeal σ a k m0).2 ∧ frM V V') (-2) V := by
        have hq : opSeal σ a k m0 = (-2, σ) := by first | simp [opSeal, i1, i2, i3] | simp [opSeal, i1, i2] | simp [opSeal, i1]
        rw [hq]; exact ⟨rfl, hC, fun _ _ => rfl⟩
      exact w_iret V hx hb hret hK hS hM (hpost) hlocks dX7_seal_23
    · have i2 : in8 k = true := b2i_ne0 (by rw [← er8]; exact c_11)
      refine lv_iload_n hx hb dX7_seal_14 rfl (lv_at hl 3 rfl) ?_
      refine w_cSi (As := [.int m0]) (rest := []) ⟨hx, hb, hml, hown, hts⟩ (c_X7_isRegister l m0) (va_cwS 1 hts gX7_seal_X7_isRegister rfl rfl rfl (by decide +kernel) ⟨Nat.le_of_ble_eq_true rfl, Nat.le_of_ble_eq_true rfl⟩) hM hK hS rfl hl.1 rfl (lv_room (Nat.le_of_ble_eq_true rfl)) dX7_seal_15 ⟨Nat.le_of_ble_eq_true rfl, Nat.le_of_ble_eq_true rfl⟩ (fun r15 V15 H locs hp15 hM hS => ?_)
      obtain ⟨er15, eV⟩ := hp15
      rw [eV] at hM; clear eV
      refine lv_if_ne (tgt := 24) hx hb dX7_seal_18 (by decide) (fun c_18 => ?_) (fun c_18 => ?_)
      · have i3 : in8 m0 = true := b2i_ne0 (by rw [← er15]; exact c_18)
        have h1 : rj a < 8 := (in8_r i1).1
        refine lv_aload_n hx hb dX7_seal_24 rfl (lv_at hl 0 rfl) ?_
        refine w_gr 7 5 4 (T := TX7) (N := 9) hx hb hts in7 hown hK.1 hM (by decide) (by decide) (by decide) (by decide) (by decide) rfl (by decide) k45 rfl dX7_seal_25 ?_
        refine lv_aload_n hx hb dX7_seal_28 rfl (lv_at hl 0 rfl) ?_
        refine w_gr 7 0 1 (T := TX7) (N := 9) hx hb hts in7 hown hK.1 hM (by decide) (by decide) (by decide) (by decide) (by decide) rfl (by decide) k11 rfl dX7_seal_29 ?_
        refine lv_iload_n hx hb dX7_seal_32 rfl (lv_at hl 1 rfl) ?_
        refine w_ald (N := 8) 3 hx hb hK.1 hM (by decide) (by first | rfl | (rw [(by decide)]; rfl)) (by first | decide | (rw [(by decide)]; decide)) (by decide) (vp8 i1) (564 + 2 * rj a) (sf1i i1) dX7_seal_33 ?_
        refine lv_aload_n hx hb dX7_seal_34 rfl (lv_at hl 0 rfl) ?_
        refine w_gr 7 0 1 (T := TX7) (N := 9) hx hb hts in7 hown hK.1 hM (by decide) (by decide) (by decide) (by decide) (by decide) rfl (by decide) k11 rfl dX7_seal_35 ?_
        refine lv_iload_n hx hb dX7_seal_38 rfl (lv_at hl 2 rfl) ?_
        refine w_ald (N := 8) 3 hx hb hK.1 hM (by decide) (by first | rfl | (rw [(by decide)]; rfl)) (by first | decide | (rw [(by decide)]; decide)) (by decide) (vp8 i2) (564 + 2 * rj k) (sf1i i2) dX7_seal_39 ?_
        refine lv_aload_n hx hb dX7_seal_40 rfl (lv_at hl 0 rfl) ?_
        refine w_gr 7 0 1 (T := TX7) (N := 9) hx hb hts in7 hown hK.1 hM (by decide) (by decide) (by decide) (by decide) (by decide) rfl (by decide) k11 rfl dX7_seal_41 ?_
        refine lv_iload_n hx hb dX7_seal_44 rfl (lv_at hl 3 rfl) ?_
        refine w_ald (N := 8) 3 hx hb hK.1 hM (by decide) (by first | rfl | (rw [(by decide)]; rfl)) (by first | decide | (rw [(by decide)]; decide)) (by decide) (vp8 i3) (564 + 2 * rj m0) (sf1i i3) dX7_seal_45 ?_
        refine w_cVv (C := RX4) (As := [.ref (E.1 + (564 + 2 * rj a)), .ref (E.1 + (564 + 2 * rj k)), .ref (E.1 + (564 + 2 * rj m0))]) (rest := []) ⟨hx, hb, hml, hown, hts⟩ (c_X4_sealInto l (rw_R _ (in8_r i1).1) (by decide) (by omega) (rw_R _ (in8_r i2).1) (by omega) (rw_R _ (in8_r i3).1) (by omega) (cR _ (in8_r i2).1) (cR _ (in8_r i3).1) (oR _ (in8_r i2).1).1 (oR _ (in8_r i3).1).1 (oR _ (in8_r i2).1).1 (oR _ (in8_r i3).1).1) (cwV 3 hts gX7_seal_X4_sealInto rfl rfl rfl (by decide +kernel) ⟨Nat.le_of_ble_eq_true rfl, Nat.le_of_ble_eq_true rfl⟩) (w_recv (ci := 4) hK hM (by decide) (by decide) (by decide) rfl) hM hK hS rfl hl.1 rfl (lv_room (Nat.le_of_ble_eq_true rfl)) dX7_seal_46 ⟨Nat.le_of_ble_eq_true rfl, Nat.le_of_ble_eq_true rfl⟩ (fun V46 H locs hp46 hM hS => ?_)
        refine lv_aload_n hx hb dX7_seal_49 rfl (lv_at hl 0 rfl) ?_
        refine w_gr 7 0 1 (T := TX7) (N := 9) hx hb hts in7 hown hK.1 hM (by decide) (by decide) (by decide) (by decide) (by decide) rfl (by decide) k11 rfl dX7_seal_50 ?_
        refine lv_iload_n hx hb dX7_seal_53 rfl (lv_at hl 1 rfl) ?_
        refine w_ald (N := 8) 3 hx hb hK.1 hM (by decide) (by first | rfl | (rw [(by decide)]; rfl)) (by first | decide | (rw [(by decide)]; decide)) (by decide) (vp8 i1) (564 + 2 * rj a) (sf1i i1) dX7_seal_54 ?_
        refine w_gi 3 1 (T := TX3) (N := 2) hx hb hts in3 hown hK.1 hM ((rw_R _ (in8_r i1).1)).lt ((rw_R _ (in8_r i1).1)).k ((rw_R _ (in8_r i1).1)).n ((rw_R _ (in8_r i1).1)).f1 (by decide) rfl (by decide) k79 rfl dX7_seal_55 ?_
        have q : (V46 (564 + 2 * rj a) 1 : Int32) = 32 := by rw [hp46.1.1, hmac_len]; rfl
        refine lv_eqi q ?_
        have hpost : (fun v V' => v = (opSeal σ a k m0).1 ∧ repC V' (opSeal σ a k m0).2 ∧ frM V V') 32 V46 := by
          have hq : opSeal σ a k m0 = (32, sReg σ (rj a) (hmac (σ.1 (rj k)) (σ.1 (rj m0)))) := by simp [opSeal, i1, i2, i3]
          rw [hq]; exact ⟨rfl, hC.reg h1 hp46.1 (by rw [hmac_len]; omega) (hmac_ok _ _) (fun j u v w => hp46.2 j (by omega) u (by omega)), fun j hj => hp46.2 j (by omega) (by omega) (by omega)⟩
        exact w_iret V46 hx hb hret hK hS hM (hpost) hlocks dX7_seal_58
      · have i3 : in8 m0 = false := b2i_eq0 (by rw [← er15]; exact c_18)
        refine lv_bipush (v := (-2)) hx hb dX7_seal_21 (by decide) ?_
        have hpost : (fun v V' => v = (opSeal σ a k m0).1 ∧ repC V' (opSeal σ a k m0).2 ∧ frM V V') (-2) V := by
          have hq : opSeal σ a k m0 = (-2, σ) := by first | simp [opSeal, i1, i2, i3] | simp [opSeal, i1, i2] | simp [opSeal, i1]
          rw [hq]; exact ⟨rfl, hC, fun _ _ => rfl⟩
        exact w_iret V hx hb hret hK hS hM (hpost) hlocks dX7_seal_23

set_option maxHeartbeats 4000000 in
set_option maxRecDepth 100000 in
theorem c_X7_make (l : Launch) {E : En} {V : Vt} {σ : St} (hC : repC V σ) (t k n : Int32) : CI l yX7_make wsX7_make 4 E V [.ref (E.1 + 0), .int t, .int k, .int n] (fun v V' => v = (opMake σ t k n).1 ∧ repC V' (opMake σ t k n).2 ∧ frM V V') := by
  refine Met.ofW (cc := cX7_make) (maxL := 5) (ret := (some .int)) (by decide) rfl ?_
  intro p e s m args below meth c s₁ B hml hv
  obtain ⟨rfl, hM, hK⟩ := hv
  have hx := B.exec
  have hb := B.bytes
  have hret := B.returns
  have hts := atoms_spec (ws := wsX7_make) B.pre
  have hown : s.vm.findClass RX7 = some m.cls := findClass_of_methodNamed B.named
  have hlocks := B.notSynchronized
  have hsz : s.heap.size = E.1 + 610 := hM.1
  have hS : va_S (AE E) s.heap s.heap [] := va_S.rf
  have in3 : ∀ w ∈ u_ws RX3 TX3 2, w ∈ wsX7_make := by decide +kernel
  have in6 : ∀ w ∈ u_ws RX6 TX6 5, w ∈ wsX7_make := by decide +kernel
  have in7 : ∀ w ∈ u_ws RX7 TX7 9, w ∈ wsX7_make := by decide +kernel
  have k11 := hts (.fieldLink RX7 11 "LimitTokens" "registers" "[LLimitTokens$Row;") (by decide +kernel)
  have k79 := hts (.fieldLink RX7 79 "LimitTokens$Row" "length" "I") (by decide +kernel)
  have k40 := hts (.fieldLink RX7 40 "LimitTokens" "tokens" "[LLimitTokens$Token;") (by decide +kernel)
  have k106 := hts (.fieldLink RX7 106 "LimitTokens$Token" "there" "Z") (by decide +kernel)
  have k110 := hts (.fieldLink RX7 110 "LimitTokens$Token" "count" "I") (by decide +kernel)
  have k113 := hts (.fieldLink RX7 113 "LimitTokens$Token" "name" "LLimitTokens$Row;") (by decide +kernel)
  have k45 := hts (.fieldLink RX7 45 "LimitTokens" "sealer" "LLimitTokens$Sealer;") (by decide +kernel)
  have k120 := hts (.fieldLink RX7 120 "LimitTokens$Token" "sign" "LLimitTokens$Row;") (by decide +kernel)
  have hl := lv_entry ([.ref (E.1 + 0), .int t, .int k, .int n]) (n := 5) (Nat.le_of_ble_eq_true rfl)
  rw [lg_entry_eq]
  generalize (lg_sl ([.ref (E.1 + 0), .int t, .int k, .int n]) ++ List.replicate (5 - (lg_sl ([.ref (E.1 + 0), .int t, .int k, .int n])).length) Slot.unset).toArray = ls at hl ⊢
  have hl : lv_has ls 5 [(0, .ref (E.1 + 0)), (1, .int t), (2, .int k), (3, .int n)] := hl
  obtain ⟨⟨oR, oT, oP⟩, cR, cT, cP, cQ, cF, cL, cZ⟩ := id hC
  refine lv_iload_n hx hb dX7_make_0 rfl (lv_at hl 1 rfl) ?_
  refine w_cSi (As := [.int t]) (rest := []) ⟨hx, hb, hml, hown, hts⟩ (c_X7_isTokenNumber l t) (va_cwS 1 hts gX7_make_X7_isTokenNumber rfl rfl rfl (by decide +kernel) ⟨Nat.le_of_ble_eq_true rfl, Nat.le_of_ble_eq_true rfl⟩) hM hK hS rfl hl.1 rfl (lv_room (Nat.le_of_ble_eq_true rfl)) dX7_make_1 ⟨Nat.le_of_ble_eq_true rfl, Nat.le_of_ble_eq_true rfl⟩ (fun r1 V1 H locs hp1 hM hS => ?_)
  obtain ⟨er1, eV⟩ := hp1
  rw [eV] at hM; clear eV
  refine lv_if_eq (tgt := 21) hx hb dX7_make_4 (by decide) (fun c_4 => ?_) (fun c_4 => ?_)
  · have i1 : in8 t = false := b2i_eq0 (by rw [← er1]; exact c_4)
    refine lv_bipush (v := (-2)) hx hb dX7_make_21 (by decide) ?_
    have hpost : (fun v V' => v = (opMake σ t k n).1 ∧ repC V' (opMake σ t k n).2 ∧ frM V V') (-2) V := by
      have hq : opMake σ t k n = (-2, σ) := by first | simp [opMake, i1, i2, i3] | simp [opMake, i1, i2] | simp [opMake, i1]
      rw [hq]; exact ⟨rfl, hC, fun _ _ => rfl⟩
    exact w_iret V hx hb hret hK hS hM (hpost) hlocks dX7_make_23
  · have i1 : in8 t = true := b2i_ne0 (by rw [← er1]; exact c_4)
    refine lv_iload_n hx hb dX7_make_7 rfl (lv_at hl 2 rfl) ?_
    refine w_cSi (As := [.int k]) (rest := []) ⟨hx, hb, hml, hown, hts⟩ (c_X7_isRegister l k) (va_cwS 1 hts gX7_make_X7_isRegister rfl rfl rfl (by decide +kernel) ⟨Nat.le_of_ble_eq_true rfl, Nat.le_of_ble_eq_true rfl⟩) hM hK hS rfl hl.1 rfl (lv_room (Nat.le_of_ble_eq_true rfl)) dX7_make_8 ⟨Nat.le_of_ble_eq_true rfl, Nat.le_of_ble_eq_true rfl⟩ (fun r8 V8 H locs hp8 hM hS => ?_)
    obtain ⟨er8, eV⟩ := hp8
    rw [eV] at hM; clear eV
    refine lv_if_eq (tgt := 21) hx hb dX7_make_11 (by decide) (fun c_11 => ?_) (fun c_11 => ?_)
    · have i2 : in8 k = false := b2i_eq0 (by rw [← er8]; exact c_11)
      refine lv_bipush (v := (-2)) hx hb dX7_make_21 (by decide) ?_
      have hpost : (fun v V' => v = (opMake σ t k n).1 ∧ repC V' (opMake σ t k n).2 ∧ frM V V') (-2) V := by
        have hq : opMake σ t k n = (-2, σ) := by first | simp [opMake, i1, i2, i3] | simp [opMake, i1, i2] | simp [opMake, i1]
        rw [hq]; exact ⟨rfl, hC, fun _ _ => rfl⟩
      exact w_iret V hx hb hret hK hS hM (hpost) hlocks dX7_make_23
    · have i2 : in8 k = true := b2i_ne0 (by rw [← er8]; exact c_11)
      refine lv_iload_n hx hb dX7_make_14 rfl (lv_at hl 3 rfl) ?_
      refine w_cSi (As := [.int n]) (rest := []) ⟨hx, hb, hml, hown, hts⟩ (c_X7_isRegister l n) (va_cwS 1 hts gX7_make_X7_isRegister rfl rfl rfl (by decide +kernel) ⟨Nat.le_of_ble_eq_true rfl, Nat.le_of_ble_eq_true rfl⟩) hM hK hS rfl hl.1 rfl (lv_room (Nat.le_of_ble_eq_true rfl)) dX7_make_15 ⟨Nat.le_of_ble_eq_true rfl, Nat.le_of_ble_eq_true rfl⟩ (fun r15 V15 H locs hp15 hM hS => ?_)
      obtain ⟨er15, eV⟩ := hp15
      rw [eV] at hM; clear eV
      refine lv_if_ne (tgt := 24) hx hb dX7_make_18 (by decide) (fun c_18 => ?_) (fun c_18 => ?_)
      · have i3 : in8 n = true := b2i_ne0 (by rw [← er15]; exact c_18)
        have h1 : rj t < 8 := (in8_r i1).1
        have h2 : rj k < 8 := (in8_r i2).1
        have h3 : rj n < 8 := (in8_r i3).1
        have rn := cR _ h3
        have rk := cR _ h2
        have ln := oR _ h3
        refine lv_aload_n hx hb dX7_make_24 rfl (lv_at hl 0 rfl) ?_
        refine w_gr 7 0 1 (T := TX7) (N := 9) hx hb hts in7 hown hK.1 hM (by decide) (by decide) (by decide) (by decide) (by decide) rfl (by decide) k11 rfl dX7_make_25 ?_
        refine lv_iload_n hx hb dX7_make_28 rfl (lv_at hl 3 rfl) ?_
        refine w_ald (N := 8) 3 hx hb hK.1 hM (by decide) (by first | rfl | (rw [(by decide)]; rfl)) (by first | decide | (rw [(by decide)]; decide)) (by decide) (vp8 i3) (564 + 2 * rj n) (sf1i i3) dX7_make_29 ?_
        refine w_gi 3 1 (T := TX3) (N := 2) hx hb hts in3 hown hK.1 hM ((rw_R _ (in8_r i3).1)).lt ((rw_R _ (in8_r i3).1)).k ((rw_R _ (in8_r i3).1)).n ((rw_R _ (in8_r i3).1)).f1 (by decide) rfl (by decide) k79 rfl dX7_make_30 ?_
        have q : (V (564 + 2 * rj n) 1 : Int32) = nI (σ.1 (rj n)).length := (cR _ (in8_r i3).1).1
        refine lv_eqi q ?_
        refine w_cSi (As := [.int (nI (σ.1 (rj n)).length)]) (rest := []) ⟨hx, hb, hml, hown, hts⟩ (c_X7_isWordingLength l (nI (σ.1 (rj n)).length)) (va_cwS 1 hts gX7_make_X7_isWordingLength rfl rfl rfl (by decide +kernel) ⟨Nat.le_of_ble_eq_true rfl, Nat.le_of_ble_eq_true rfl⟩) hM hK hS rfl hl.1 rfl (lv_room (Nat.le_of_ble_eq_true rfl)) dX7_make_33 ⟨Nat.le_of_ble_eq_true rfl, Nat.le_of_ble_eq_true rfl⟩ (fun r33 V33 H locs hp33 hM hS => ?_)
        obtain ⟨er33, eV⟩ := hp33
        rw [eV] at hM; clear eV
        refine lv_if_ne (tgt := 42) hx hb dX7_make_36 (by decide) (fun c_36 => ?_) (fun c_36 => ?_)
        · have i4 : okW1 (σ.1 (rj n)) = true := by rw [← wl_eq (by omega)]; exact b2i_ne0 (by rw [← er33]; exact c_36)
          refine lv_aload_n hx hb dX7_make_42 rfl (lv_at hl 0 rfl) ?_
          refine w_gr 7 4 3 (T := TX7) (N := 9) hx hb hts in7 hown hK.1 hM (by decide) (by decide) (by decide) (by decide) (by decide) rfl (by decide) k40 rfl dX7_make_43 ?_
          refine lv_iload_n hx hb dX7_make_46 rfl (lv_at hl 1 rfl) ?_
          refine w_ald (N := 8) 4 hx hb hK.1 hM (by decide) (by first | rfl | (rw [(by decide)]; rfl)) (by first | decide | (rw [(by decide)]; decide)) (by decide) (vp8 i1) (25 + 60 * rj t) (sf3i i1) dX7_make_47 ?_
          refine lv_astore (lv' := [(4, .ref (E.1 + (25 + 60 * rj t))), (0, .ref (E.1 + 0)), (1, .int t), (2, .int k), (3, .int n)]) hx hb dX7_make_48 hl (by decide) rfl (fun ls hl => ?_)
          refine lv_aload hx hb dX7_make_50 (lv_at hl 0 rfl) ?_
          refine lv_iconst (v := 1) hx hb dX7_make_52 (by decide) ?_
          refine w_pi 6 4 (T := TX6) (N := 5) hx hb hts in6 tyX6 tyX6_ok nmX6 hown hK.1 hM hS ((tok_t (in8_r i1).1)).lt ((tok_t (in8_r i1).1)).k ((tok_t (in8_r i1).1)).n ((tok_t (in8_r i1).1)).f4 (by decide) rfl (by decide) k106 rfl rfl rfl rfl dX7_make_53 (fun H locs hM hS => ?_)
          generalize hV53 : up2 V (25 + 60 * rj t) 4 1 = V53 at hM
          refine lv_aload hx hb dX7_make_56 (lv_at hl 0 rfl) ?_
          refine lv_iconst (v := 0) hx hb dX7_make_58 (by decide) ?_
          refine w_pi 6 3 (T := TX6) (N := 5) hx hb hts in6 tyX6 tyX6_ok nmX6 hown hK.1 hM hS ((tok_t (in8_r i1).1)).lt ((tok_t (in8_r i1).1)).k ((tok_t (in8_r i1).1)).n ((tok_t (in8_r i1).1)).f3 (by decide) rfl (by decide) k110 rfl rfl rfl rfl dX7_make_59 (fun H locs hM hS => ?_)
          generalize hV59 : up2 V53 (25 + 60 * rj t) 3 0 = V59 at hM
          have o59 : ∀ j, j ≠ 25 + 60 * rj t → V59 j = V j := fun j hj => by subst hV59 hV53; rw [up2_k _ _ hj, up2_k _ _ hj]
          refine lv_aload hx hb dX7_make_62 (lv_at hl 0 rfl) ?_
          refine w_gr 6 0 (25 + 60 * rj t + 1) (T := TX6) (N := 5) hx hb hts in6 hown hK.1 hM ((tok_t (in8_r i1).1)).lt ((tok_t (in8_r i1).1)).k ((tok_t (in8_r i1).1)).n ((tok_t (in8_r i1).1)).f0 (by decide) rfl (by decide) k113 rfl dX7_make_64 ?_
          refine lv_aload_n hx hb dX7_make_67 rfl (lv_at hl 1 rfl) ?_
          refine w_gr 7 0 1 (T := TX7) (N := 9) hx hb hts in7 hown hK.1 hM (by decide) (by decide) (by decide) (by decide) (by decide) rfl (by decide) k11 rfl dX7_make_68 ?_
          refine lv_iload_n hx hb dX7_make_71 rfl (lv_at hl 4 rfl) ?_
          refine w_ald (N := 8) 3 hx hb hK.1 hM (by decide) (by first | rfl | (rw [(by decide)]; rfl)) (by first | decide | (rw [(by decide)]; decide)) (by decide) (vp8 i3) (564 + 2 * rj n) (sf1i i3) dX7_make_72 ?_
          refine w_cVv (C := RX3) (As := [.ref (E.1 + (564 + 2 * rj n))]) (rest := []) ⟨hx, hb, hml, hown, hts⟩ (c_X3_takeOver l (tok_t h1).name (rw_R _ (in8_r i3).1) (rn.keep (o59 _ (by omega)) (o59 _ (by omega))) (oR _ (in8_r i3).1).1 (by simp [okW1] at i4; omega)) (cwV 1 hts gX7_make_X3_takeOver rfl rfl rfl (by decide +kernel) ⟨Nat.le_of_ble_eq_true rfl, Nat.le_of_ble_eq_true rfl⟩) (w_recv (ci := 3) hK hM (((tok_t (in8_r i1).1)).name).lt (((tok_t (in8_r i1).1)).name).k (by decide) rfl) hM hK hS rfl hl.1 rfl (lv_room (Nat.le_of_ble_eq_true rfl)) dX7_make_73 ⟨Nat.le_of_ble_eq_true rfl, Nat.le_of_ble_eq_true rfl⟩ (fun V73 H locs hp73 hM hS => ?_)
          refine lv_aload_n hx hb dX7_make_76 rfl (lv_at hl 1 rfl) ?_
          refine w_gr 7 5 4 (T := TX7) (N := 9) hx hb hts in7 hown hK.1 hM (by decide) (by decide) (by decide) (by decide) (by decide) rfl (by decide) k45 rfl dX7_make_77 ?_
          refine lv_aload hx hb dX7_make_80 (lv_at hl 0 rfl) ?_
          refine w_gr 6 1 (25 + 60 * rj t + 3) (T := TX6) (N := 5) hx hb hts in6 hown hK.1 hM ((tok_t (in8_r i1).1)).lt ((tok_t (in8_r i1).1)).k ((tok_t (in8_r i1).1)).n ((tok_t (in8_r i1).1)).f1 (by decide) rfl (by decide) k120 rfl dX7_make_82 ?_
          refine lv_aload_n hx hb dX7_make_85 rfl (lv_at hl 1 rfl) ?_
          refine w_gr 7 0 1 (T := TX7) (N := 9) hx hb hts in7 hown hK.1 hM (by decide) (by decide) (by decide) (by decide) (by decide) rfl (by decide) k11 rfl dX7_make_86 ?_
          refine lv_iload_n hx hb dX7_make_89 rfl (lv_at hl 3 rfl) ?_
          refine w_ald (N := 8) 3 hx hb hK.1 hM (by decide) (by first | rfl | (rw [(by decide)]; rfl)) (by first | decide | (rw [(by decide)]; decide)) (by decide) (vp8 i2) (564 + 2 * rj k) (sf1i i2) dX7_make_90 ?_
          refine lv_aload hx hb dX7_make_91 (lv_at hl 0 rfl) ?_
          refine w_gr 6 0 (25 + 60 * rj t + 1) (T := TX6) (N := 5) hx hb hts in6 hown hK.1 hM ((tok_t (in8_r i1).1)).lt ((tok_t (in8_r i1).1)).k ((tok_t (in8_r i1).1)).n ((tok_t (in8_r i1).1)).f0 (by decide) rfl (by decide) k113 rfl dX7_make_93 ?_
          refine w_cVv (C := RX4) (As := [.ref (E.1 + (25 + 60 * rj t + 3)), .ref (E.1 + (564 + 2 * rj k)), .ref (E.1 + (25 + 60 * rj t + 1))]) (rest := []) ⟨hx, hb, hml, hown, hts⟩ (c_X4_sealInto l (tok_t h1).sign (by decide) (by omega) (rw_R _ (in8_r i2).1) (by omega) (tok_t h1).name (by omega) (rk.keep (by rw [hp73.2 _ (by omega) (by omega)]; exact o59 _ (by omega)) (by rw [hp73.2 _ (by omega) (by omega)]; exact o59 _ (by omega))) hp73.1 (oR _ (in8_r i2).1).1 (by simp [okW1] at i4; omega) (oR _ (in8_r i2).1).1 (by simp [okW1] at i4; omega)) (cwV 3 hts gX7_make_X4_sealInto rfl rfl rfl (by decide +kernel) ⟨Nat.le_of_ble_eq_true rfl, Nat.le_of_ble_eq_true rfl⟩) (w_recv (ci := 4) hK hM (by decide) (by decide) (by decide) rfl) hM hK hS rfl hl.1 rfl (lv_room (Nat.le_of_ble_eq_true rfl)) dX7_make_96 ⟨Nat.le_of_ble_eq_true rfl, Nat.le_of_ble_eq_true rfl⟩ (fun V96 H locs hp96 hM hS => ?_)
          refine lv_iconst (v := 0) hx hb dX7_make_99 (by decide) ?_
          have hpost : (fun v V' => v = (opMake σ t k n).1 ∧ repC V' (opMake σ t k n).2 ∧ frM V V') 0 V96 := by
            have hq : opMake σ t k n = (0, sTok σ (rj t) (some (σ.1 (rj n), hmac (σ.1 (rj k)) (σ.1 (rj n)), []))) := by simp [opMake, i1, i2, i3, i4]
            simp [okW1] at i4
            have e96 : V96 (25 + 60 * rj t) = V59 (25 + 60 * rj t) := by rw [hp96.2 _ (by omega) (by omega) (by omega)]; exact hp73.2 _ (by omega) (by omega)
            rw [hq]; refine ⟨rfl, hC.tok h1 (o := some (σ.1 (rj n), hmac (σ.1 (rj k)) (σ.1 (rj n)), [])) ⟨?_, hp73.1.other hp96.2 (by omega) (by omega) (by omega) (by omega), hp96.1, ?_, fun i hi => absurd hi (Nat.not_lt_zero i)⟩ (fun T hT => ?_) (fun j a _ => ?_), fun j hj => ?_⟩
            · rw [e96, ← hV59, up2_o _ _ (by decide), ← hV53, up2_s]
            · rw [e96, ← hV59, up2_s]; rfl
            · cases hT; exact ⟨⟨i4.1, i4.2, ln.2⟩, ⟨hmac_len _ _, hmac_ok _ _⟩, by simp, fun i hi => absurd hi (Nat.not_lt_zero i)⟩
            · rw [hp96.2 j (by omega) (by omega) (by omega), hp73.2 j (by omega) (by omega)]; exact o59 j (by omega)
            · rw [hp96.2 j (by omega) (by omega) (by omega), hp73.2 j (by omega) (by omega)]; exact o59 j (by omega)
          exact w_iret V96 hx hb hret hK hS hM (hpost) hlocks dX7_make_100
        · have i4 : okW1 (σ.1 (rj n)) = false := by rw [← wl_eq (by omega)]; exact b2i_eq0 (by rw [← er33]; exact c_36)
          refine lv_bipush (v := (-3)) hx hb dX7_make_39 (by decide) ?_
          have hpost : (fun v V' => v = (opMake σ t k n).1 ∧ repC V' (opMake σ t k n).2 ∧ frM V V') (-3) V := by
            have hq : opMake σ t k n = (-3, σ) := by first | simp [opMake, i1, i2, i3, i4] | simp [opMake, i1, i2, i3] | simp [opMake, i1, i2] | simp [opMake, i1]
            rw [hq]; exact ⟨rfl, hC, fun _ _ => rfl⟩
          exact w_iret V hx hb hret hK hS hM (hpost) hlocks dX7_make_41
      · have i3 : in8 n = false := b2i_eq0 (by rw [← er15]; exact c_18)
        refine lv_bipush (v := (-2)) hx hb dX7_make_21 (by decide) ?_
        have hpost : (fun v V' => v = (opMake σ t k n).1 ∧ repC V' (opMake σ t k n).2 ∧ frM V V') (-2) V := by
          have hq : opMake σ t k n = (-2, σ) := by first | simp [opMake, i1, i2, i3] | simp [opMake, i1, i2] | simp [opMake, i1]
          rw [hq]; exact ⟨rfl, hC, fun _ _ => rfl⟩
        exact w_iret V hx hb hret hK hS hM (hpost) hlocks dX7_make_23
