set_option maxHeartbeats 4000000 in
set_option maxRecDepth 100000 in
theorem c_X7_type (l : Launch) {E : En} {V : Vt} {σ : St} (hC : repC V σ) (w : Int64) (n : Int32) : CI l yX7_type wsX7_type 2 E V [.ref (E.1 + 0), .long w, .int n] (fun v V' => v = (opType σ w n).1 ∧ repC V' (opType σ w n).2 ∧ frM V V') := by
  refine Met.ofW (cc := cX7_type) (maxL := 4) (ret := (some .int)) (by decide) rfl ?_
  intro p e s m args below meth c s₁ B hml hv
  obtain ⟨rfl, hM, hK⟩ := hv
  have hx := B.exec
  have hb := B.bytes
  have hret := B.returns
  have hts := atoms_spec (ws := wsX7_type) B.pre
  have hown : s.vm.findClass RX7 = some m.cls := findClass_of_methodNamed B.named
  have hlocks := B.notSynchronized
  have hsz : s.heap.size = E.1 + 610 := hM.1
  have hS : va_S (AE E) s.heap s.heap [] := va_S.rf
  have in7 : ∀ w ∈ u_ws RX7 TX7 9, w ∈ wsX7_type := by decide +kernel
  have k62 := hts (.fieldLink RX7 62 "LimitTokens" "tape" "LLimitTokens$Row;") (by decide +kernel)
  have hl := lv_entry ([.ref (E.1 + 0), .long w, .int n]) (n := 4) (Nat.le_of_ble_eq_true rfl)
  rw [lg_entry_eq]
  generalize (lg_sl ([.ref (E.1 + 0), .long w, .int n]) ++ List.replicate (4 - (lg_sl ([.ref (E.1 + 0), .long w, .int n])).length) Slot.unset).toArray = ls at hl ⊢
  have hl : lv_has ls 4 [(0, .ref (E.1 + 0)), (1, .long w), (3, .int n)] := hl
  obtain ⟨⟨oR, oT, oP⟩, cR, cT, cP, cQ, cF, cL, cZ⟩ := id hC
  refine lv_iload_n hx hb dX7_type_0 rfl (lv_at hl 2 rfl) ?_
  refine w_cSi (As := [.int n]) (rest := []) ⟨hx, hb, hml, hown, hts⟩ (c_X7_isWidth l n) (va_cwS 1 hts gX7_type_X7_isWidth rfl rfl rfl (by decide +kernel) ⟨Nat.le_of_ble_eq_true rfl, Nat.le_of_ble_eq_true rfl⟩) hM hK hS rfl hl.1 rfl (lv_room (Nat.le_of_ble_eq_true rfl)) dX7_type_1 ⟨Nat.le_of_ble_eq_true rfl, Nat.le_of_ble_eq_true rfl⟩ (fun r1 V1 H locs hp1 hM hS => ?_)
  obtain ⟨er1, eV⟩ := hp1
  rw [eV] at hM; clear eV
  refine lv_if_eq (tgt := 19) hx hb dX7_type_4 (by decide) (fun c_4 => ?_) (fun c_4 => ?_)
  · have i2 : inR n 1 8 = false := b2i_eq0 (by rw [← er1]; exact c_4)
    refine lv_bipush (v := (-2)) hx hb dX7_type_19 (by decide) ?_
    have hpost : (fun v V' => v = (opType σ w n).1 ∧ repC V' (opType σ w n).2 ∧ frM V V') (-2) V := by
      have hq : opType σ w n = (-2, σ) := by first | simp [opType, i2]
      rw [hq]; exact ⟨rfl, hC, fun _ _ => rfl⟩
    exact w_iret V hx hb hret hK hS hM (hpost) hlocks dX7_type_21
  · have i2 : inR n 1 8 = true := b2i_ne0 (by rw [← er1]; exact c_4)
    have hn := inR_j i2 (m := 1) (n := 8) rfl rfl (by omega) (by omega)
    rw [hn.2.2] at hl
    refine lv_aload_n hx hb dX7_type_7 rfl (lv_at hl 0 rfl) ?_
    refine w_gr 7 8 506 (T := TX7) (N := 9) hx hb hts in7 hown hK.1 hM (by decide) (by decide) (by decide) (by decide) (by decide) rfl (by decide) k62 rfl dX7_type_8 ?_
    refine lv_iload_n hx hb dX7_type_11 rfl (lv_at hl 2 rfl) ?_
    refine lv_lload_n hx hb dX7_type_12 rfl (lv_at hl 1 rfl) ?_
    refine w_cSi (As := [.ref (E.1 + 506), .int (nI (rj n)), .long w]) (rest := []) ⟨hx, hb, hml, hown, hts⟩ (c_X7_pushLowest l rw506 cP oP.1 (n := rj n) hn.2.1 w) (va_cwS 3 hts gX7_type_X7_pushLowest rfl rfl rfl (by decide +kernel) ⟨Nat.le_of_ble_eq_true rfl, Nat.le_of_ble_eq_true rfl⟩) hM hK hS rfl hl.1 rfl (lv_room (Nat.le_of_ble_eq_true rfl)) dX7_type_13 ⟨Nat.le_of_ble_eq_true rfl, Nat.le_of_ble_eq_true rfl⟩ (fun r13 V13 H locs hp13 hM hS => ?_)
    refine lv_goto (tgt := 21) hx hb dX7_type_16 (by decide) ?_
    have hpost : (fun v V' => v = (opType σ w n).1 ∧ repC V' (opType σ w n).2 ∧ frM V V') r13 V13 := by
      rcases hp13 with ⟨q1, q2, q3, q4⟩ | ⟨q1, q2, q3⟩
      · have hq : opType σ w n = (nI (σ.2.2.1.length + rj n), sTape σ (σ.2.2.1 ++ lowB w (rj n))) := by simp [opType, i2, q1]
        rw [hq]; exact ⟨q2, hC.tape q3 (by rw [List.length_append, lowB_len]; exact q1) (oP.2.app (lowB_ok _ _)) (fun j a b => q4 j a b), fun j hj => q4 j (by omega) (by omega)⟩
      · have hq : opType σ w n = (-3, σ) := by simp [opType, i2]; omega
        rw [hq]; subst q3; exact ⟨q2, hC, fun _ _ => rfl⟩
    exact w_iret V13 hx hb hret hK hS hM (hpost) hlocks dX7_type_21

set_option maxHeartbeats 4000000 in
set_option maxRecDepth 100000 in
theorem c_X7_tape (l : Launch) {E : En} {V : Vt} {σ : St} (hC : repC V σ) (i : Int32) : CI l yX7_tape wsX7_tape 1 E V [.ref (E.1 + 0), .int i] (fun v V' => v = (opTape σ i).1 ∧ repC V' (opTape σ i).2 ∧ frM V V') := by
  refine Met.ofW (cc := cX7_tape) (maxL := 2) (ret := (some .int)) (by decide) rfl ?_
  intro p e s m args below meth c s₁ B hml hv
  obtain ⟨rfl, hM, hK⟩ := hv
  have hx := B.exec
  have hb := B.bytes
  have hret := B.returns
  have hts := atoms_spec (ws := wsX7_tape) B.pre
  have hown : s.vm.findClass RX7 = some m.cls := findClass_of_methodNamed B.named
  have hlocks := B.notSynchronized
  have hsz : s.heap.size = E.1 + 610 := hM.1
  have hS : va_S (AE E) s.heap s.heap [] := va_S.rf
  have in7 : ∀ w ∈ u_ws RX7 TX7 9, w ∈ wsX7_tape := by decide +kernel
  have k62 := hts (.fieldLink RX7 62 "LimitTokens" "tape" "LLimitTokens$Row;") (by decide +kernel)
  have hl := lv_entry ([.ref (E.1 + 0), .int i]) (n := 2) (Nat.le_of_ble_eq_true rfl)
  rw [lg_entry_eq]
  generalize (lg_sl ([.ref (E.1 + 0), .int i]) ++ List.replicate (2 - (lg_sl ([.ref (E.1 + 0), .int i])).length) Slot.unset).toArray = ls at hl ⊢
  have hl : lv_has ls 2 [(0, .ref (E.1 + 0)), (1, .int i)] := hl
  obtain ⟨⟨oR, oT, oP⟩, cR, cT, cP, cQ, cF, cL, cZ⟩ := id hC
  refine lv_aload_n hx hb dX7_tape_0 rfl (lv_at hl 0 rfl) ?_
  refine w_gr 7 8 506 (T := TX7) (N := 9) hx hb hts in7 hown hK.1 hM (by decide) (by decide) (by decide) (by decide) (by decide) rfl (by decide) k62 rfl dX7_tape_1 ?_
  refine lv_iload_n hx hb dX7_tape_4 rfl (lv_at hl 1 rfl) ?_
  refine w_cVi (C := RX3) (As := [.int i]) (rest := []) ⟨hx, hb, hml, hown, hts⟩ (c_X3_byteAt l rw506 cP oP.1 i) (cwV 1 hts gX7_tape_X3_byteAt rfl rfl rfl (by decide +kernel) ⟨Nat.le_of_ble_eq_true rfl, Nat.le_of_ble_eq_true rfl⟩) (w_recv (ci := 3) hK hM (by decide) (by decide) (by decide) rfl) hM hK hS rfl hl.1 rfl (lv_room (Nat.le_of_ble_eq_true rfl)) dX7_tape_5 ⟨Nat.le_of_ble_eq_true rfl, Nat.le_of_ble_eq_true rfl⟩ (fun r5 V5 H locs hp5 hM hS => ?_)
  obtain ⟨er5, eV⟩ := hp5
  rw [eV] at hM; clear eV
  exact w_iret V hx hb hret hK hS hM (⟨er5, hC, fun _ _ => rfl⟩) hlocks dX7_tape_8

set_option maxHeartbeats 4000000 in
set_option maxRecDepth 100000 in
theorem c_X7_place (l : Launch) {E : En} {V : Vt} {σ : St} (hC : repC V σ) : CI l yX7_place wsX7_place 0 E V [.ref (E.1 + 0)] (fun v V' => v = (opPlace σ).1 ∧ repC V' (opPlace σ).2 ∧ frM V V') := by
  refine Met.ofW (cc := cX7_place) (maxL := 1) (ret := (some .int)) (by decide) rfl ?_
  intro p e s m args below meth c s₁ B hml hv
  obtain ⟨rfl, hM, hK⟩ := hv
  have hx := B.exec
  have hb := B.bytes
  have hret := B.returns
  have hts := atoms_spec (ws := wsX7_place) B.pre
  have hown : s.vm.findClass RX7 = some m.cls := findClass_of_methodNamed B.named
  have hlocks := B.notSynchronized
  have hsz : s.heap.size = E.1 + 610 := hM.1
  have hS : va_S (AE E) s.heap s.heap [] := va_S.rf
  have in5 : ∀ w ∈ u_ws RX5 TX5 4, w ∈ wsX7_place := by decide +kernel
  have in7 : ∀ w ∈ u_ws RX7 TX7 9, w ∈ wsX7_place := by decide +kernel
  have k25 := hts (.fieldLink RX7 25 "LimitTokens" "reader" "LLimitTokens$TapeReader;") (by decide +kernel)
  have k211 := hts (.fieldLink RX7 211 "LimitTokens$TapeReader" "foundPlace" "I") (by decide +kernel)
  have hl := lv_entry ([.ref (E.1 + 0)]) (n := 1) (Nat.le_of_ble_eq_true rfl)
  rw [lg_entry_eq]
  generalize (lg_sl ([.ref (E.1 + 0)]) ++ List.replicate (1 - (lg_sl ([.ref (E.1 + 0)])).length) Slot.unset).toArray = ls at hl ⊢
  have hl : lv_has ls 1 [(0, .ref (E.1 + 0))] := hl
  obtain ⟨⟨oR, oT, oP⟩, cR, cT, cP, cQ, cF, cL, cZ⟩ := id hC
  refine lv_aload_n hx hb dX7_place_0 rfl (lv_at hl 0 rfl) ?_
  refine w_gr 7 2 505 (T := TX7) (N := 9) hx hb hts in7 hown hK.1 hM (by decide) (by decide) (by decide) (by decide) (by decide) rfl (by decide) k25 rfl dX7_place_1 ?_
  refine w_gi 5 3 (T := TX5) (N := 4) hx hb hts in5 hown hK.1 hM (by decide) (by decide) (by decide) (by decide) (by decide) rfl (by decide) k211 rfl dX7_place_4 ?_
  exact w_iret V hx hb hret hK hS hM (⟨cL, hC, fun _ _ => rfl⟩) hlocks dX7_place_7
