-- needs: 44 450 451 452 453 454 455 456 457 460 461 462 463 464 466
set_option maxHeartbeats 4000000 in
set_option maxRecDepth 100000 in
theorem c_X8_tape (l : Launch) {E : En} {V : Vt} {σ : St} (hC : repM V σ) (i : Int32) : CI l yX8_tape wsX8_tape 2 E V [.ref (E.1 + 580), .int i] (fun v V' => v = (opTape σ i).1 ∧ repM V' (opTape σ i).2 ∧ frC V V') := by
  refine Met.ofW (cc := cX8_tape) (maxL := 2) (ret := (some .int)) (by decide) rfl ?_
  intro p e s m args below meth c s₁ B hml hv
  obtain ⟨rfl, hM, hK⟩ := hv
  have hx := B.exec
  have hb := B.bytes
  have hret := B.returns
  have hts := atoms_spec (ws := wsX8_tape) B.pre
  have hown : s.vm.findClass RX8 = some m.cls := findClass_of_methodNamed B.named
  have hlocks := B.notSynchronized
  have hsz : s.heap.size = E.1 + 610 := hM.1
  have hS : va_S (AE E) s.heap s.heap [] := va_S.rf
  have inw8 : ∀ w ∈ u_ws RX8 TX8 42, w ∈ wsX8_tape := by decide +kernel
  have k112 := hts (.fieldLink RX8 112 "LimitTokensModel" "thrown" "I") (by decide +kernel)
  have k227 := hts (.fieldLink RX8 227 "LimitTokensModel" "tapeSize" "I") (by decide +kernel)
  have k52 := hts (.fieldLink RX8 52 "LimitTokensModel" "tape" "[I") (by decide +kernel)
  have hl := lv_entry ([.ref (E.1 + 580), .int i]) (n := 2) (Nat.le_of_ble_eq_true rfl)
  rw [lg_entry_eq]
  generalize (lg_sl ([.ref (E.1 + 580), .int i]) ++ List.replicate (2 - (lg_sl ([.ref (E.1 + 580), .int i])).length) Slot.unset).toArray = ls at hl ⊢
  have hl : lv_has ls 2 [(0, .ref (E.1 + 580)), (1, .int i)] := hl
  refine lv_aload_n hx hb dX8_tape_0 rfl (lv_at hl 0 rfl) ?_
  refine lv_iconst (v := 0) hx hb dX8_tape_1 (by decide) ?_
  refine w_pi 8 0 (T := TX8) (N := 42) hx hb hts inw8 tyX8 tyX8_ok nmX8 hown hK.1 hM hS (by decide) (by decide) (by decide) (by decide) (by decide) rfl (by decide) k112 rfl rfl rfl rfl dX8_tape_2 (fun H locs hM hS => ?_)
  generalize hV2 : up2 V 580 0 0 = V2 at hM
  have hC2 := hC.fr (pFr.th hV2).1
  have fC2 := (pFr.th hV2).2
  obtain ⟨⟨oR, oT, oP⟩, cN, cR, cT, cP, cQ, cF, cL⟩ := id hC2
  have olP := oP.1
  refine lv_iload_n hx hb dX8_tape_5 rfl (lv_at hl 1 rfl) ?_
  refine lv_iconst (v := 0) hx hb dX8_tape_6 (by decide) ?_
  refine lv_aload_n hx hb dX8_tape_7 rfl (lv_at hl 0 rfl) ?_
  refine w_gi 8 19 (T := TX8) (N := 42) hx hb hts inw8 hown hK.1 hM (by decide) (by decide) (by decide) (by decide) (by decide) rfl (by decide) k227 rfl dX8_tape_8 ?_
  have q : (V2 580 19 : Int32) = nI σ.2.2.1.length := cP.1
  refine lv_eqi q ?_
  refine lv_iconst (v := 1) hx hb dX8_tape_11 (by decide) ?_
  refine lv_isub hx hb dX8_tape_12 ?_
  refine w_cSi (As := [.int i, .int 0, .int ((nI σ.2.2.1.length) - 1)]) (rest := []) ⟨hx, hb, hml, hown, hts⟩ (c_X8_within l i 0 (nI σ.2.2.1.length - 1)) (va_cwS 3 hts gX8_tape_X8_within rfl rfl rfl (by decide +kernel) ⟨Nat.le_of_ble_eq_true rfl, Nat.le_of_ble_eq_true rfl⟩) hM hK hS rfl hl.1 rfl (lv_room (Nat.le_of_ble_eq_true rfl)) dX8_tape_13 ⟨Nat.le_of_ble_eq_true rfl, Nat.le_of_ble_eq_true rfl⟩ (fun r13 V13 H locs hp13 hM hS => ?_)
  obtain ⟨er13, eV⟩ := hp13
  rw [eV] at hM; clear eV
  refine lv_if_eq (tgt := 28) hx hb dX8_tape_16 (by decide) (fun c_16 => ?_) (fun c_16 => ?_)
  · have i2 : inR i 0 (nI σ.2.2.1.length - 1) = false := b2i_eq0 (by rw [← er13]; exact c_16)
    have i3 : has σ.2.2.1 i = false := by rw [← inR_has (by omega)]; exact i2
    refine lv_iconst (v := (-1)) hx hb dX8_tape_28 (by decide) ?_
    have hpost : (fun v V' => v = (opTape σ i).1 ∧ repM V' (opTape σ i).2 ∧ frC V V') (-1) V2 := by
      refine ⟨?_, hC2, fC2⟩
      unfold opTape
      dsimp only
      first | (rw [bAt_has i3]) | (rw [bAt_hasn i3])
    exact w_iret V2 hx hb hret hK hS hM (hpost) hlocks dX8_tape_29
  · have i2 : inR i 0 (nI σ.2.2.1.length - 1) = true := b2i_ne0 (by rw [← er13]; exact c_16)
    have i3 : has σ.2.2.1 i = true := by rw [← inR_has (by omega)]; exact i2
    obtain ⟨hji, eni⟩ := has_j i3 (by omega)
    refine lv_aload_n hx hb dX8_tape_19 rfl (lv_at hl 0 rfl) ?_
    refine w_gr 8 18 595 (T := TX8) (N := 42) hx hb hts inw8 hown hK.1 hM (by decide) (by decide) (by decide) (by decide) (by decide) rfl (by decide) k52 rfl dX8_tape_20 ?_
    refine lv_iload_n hx hb dX8_tape_23 rfl (lv_at hl 1 rfl) ?_
    have i_24 : (i : Int32) = nI (rj i) := eni
    refine w_ild (N := 1200) hx hb hK.1 hM (by decide) (by decide) (by decide) (by rw [i_24]; exact vp_in_nI (by omega) (by omega)) dX8_tape_24 ?_
    have j_24 : i.toNatClampNeg = rj i := (congrArg Int32.toNatClampNeg i_24).trans (nI_clamp (by omega))
    have q : (V2 595 i.toNatClampNeg : Int32) = V2 595 (rj i) := by rw [j_24]
    refine lv_eqi q ?_
    have q : (V2 595 (rj i) : Int32) = σ.2.2.1.getD (rj i) 0 := cP.at hji
    refine lv_eqi q ?_
    refine lv_goto (tgt := 29) hx hb dX8_tape_25 (by decide) ?_
    have hpost : (fun v V' => v = (opTape σ i).1 ∧ repM V' (opTape σ i).2 ∧ frC V V') (σ.2.2.1.getD (rj i) 0) V2 := by
      refine ⟨?_, hC2, fC2⟩
      unfold opTape
      dsimp only
      first | (rw [bAt_has i3]) | (rw [bAt_hasn i3])
    exact w_iret V2 hx hb hret hK hS hM (hpost) hlocks dX8_tape_29

set_option maxHeartbeats 4000000 in
set_option maxRecDepth 100000 in
theorem c_X8_cut (l : Launch) {E : En} {V : Vt} {σ : St} (hC : repM V σ) (n : Int32) : CI l yX8_cut wsX8_cut 2 E V [.ref (E.1 + 580), .int n] (fun v V' => v = (opCut σ n).1 ∧ repM V' (opCut σ n).2 ∧ frC V V') := by
  refine Met.ofW (cc := cX8_cut) (maxL := 3) (ret := (some .int)) (by decide) rfl ?_
  intro p e s m args below meth c s₁ B hml hv
  obtain ⟨rfl, hM, hK⟩ := hv
  have hx := B.exec
  have hb := B.bytes
  have hret := B.returns
  have hts := atoms_spec (ws := wsX8_cut) B.pre
  have hown : s.vm.findClass RX8 = some m.cls := findClass_of_methodNamed B.named
  have hlocks := B.notSynchronized
  have hsz : s.heap.size = E.1 + 610 := hM.1
  have hS : va_S (AE E) s.heap s.heap [] := va_S.rf
  have inw8 : ∀ w ∈ u_ws RX8 TX8 42, w ∈ wsX8_cut := by decide +kernel
  have k112 := hts (.fieldLink RX8 112 "LimitTokensModel" "thrown" "I") (by decide +kernel)
  have k227 := hts (.fieldLink RX8 227 "LimitTokensModel" "tapeSize" "I") (by decide +kernel)
  have hl := lv_entry ([.ref (E.1 + 580), .int n]) (n := 3) (Nat.le_of_ble_eq_true rfl)
  rw [lg_entry_eq]
  generalize (lg_sl ([.ref (E.1 + 580), .int n]) ++ List.replicate (3 - (lg_sl ([.ref (E.1 + 580), .int n])).length) Slot.unset).toArray = ls at hl ⊢
  have hl : lv_has ls 3 [(0, .ref (E.1 + 580)), (1, .int n)] := hl
  refine lv_aload_n hx hb dX8_cut_0 rfl (lv_at hl 0 rfl) ?_
  refine lv_iconst (v := 0) hx hb dX8_cut_1 (by decide) ?_
  refine w_pi 8 0 (T := TX8) (N := 42) hx hb hts inw8 tyX8 tyX8_ok nmX8 hown hK.1 hM hS (by decide) (by decide) (by decide) (by decide) (by decide) rfl (by decide) k112 rfl rfl rfl rfl dX8_cut_2 (fun H locs hM hS => ?_)
  generalize hV2 : up2 V 580 0 0 = V2 at hM
  have hC2 := hC.fr (pFr.th hV2).1
  have fC2 := (pFr.th hV2).2
  obtain ⟨⟨oR, oT, oP⟩, cN, cR, cT, cP, cQ, cF, cL⟩ := id hC2
  have olP := oP.1
  refine lv_iload_n hx hb dX8_cut_5 rfl (lv_at hl 1 rfl) ?_
  refine lv_iconst (v := 0) hx hb dX8_cut_6 (by decide) ?_
  refine lv_aload_n hx hb dX8_cut_7 rfl (lv_at hl 0 rfl) ?_
  refine w_gi 8 19 (T := TX8) (N := 42) hx hb hts inw8 hown hK.1 hM (by decide) (by decide) (by decide) (by decide) (by decide) rfl (by decide) k227 rfl dX8_cut_8 ?_
  have q : (V2 580 19 : Int32) = nI σ.2.2.1.length := cP.1
  refine lv_eqi q ?_
  refine w_cSi (As := [.int n, .int 0, .int (nI σ.2.2.1.length)]) (rest := []) ⟨hx, hb, hml, hown, hts⟩ (c_X8_within l n 0 (nI σ.2.2.1.length)) (va_cwS 3 hts gX8_cut_X8_within rfl rfl rfl (by decide +kernel) ⟨Nat.le_of_ble_eq_true rfl, Nat.le_of_ble_eq_true rfl⟩) hM hK hS rfl hl.1 rfl (lv_room (Nat.le_of_ble_eq_true rfl)) dX8_cut_11 ⟨Nat.le_of_ble_eq_true rfl, Nat.le_of_ble_eq_true rfl⟩ (fun r11 V11 H locs hp11 hM hS => ?_)
  obtain ⟨er11, eV⟩ := hp11
  rw [eV] at hM; clear eV
  refine lv_if_ne (tgt := 20) hx hb dX8_cut_14 (by decide) (fun c_14 => ?_) (fun c_14 => ?_)
  · have i2 : inR n 0 (nI σ.2.2.1.length) = true := b2i_ne0 (by rw [← er11]; exact c_14)
    obtain ⟨lon, hin, enn⟩ := inR_j i2 (m := 0) (n := σ.2.2.1.length) rfl rfl (by omega) (by omega)
    refine lv_aload_n hx hb dX8_cut_20 rfl (lv_at hl 0 rfl) ?_
    refine w_gi 8 19 (T := TX8) (N := 42) hx hb hts inw8 hown hK.1 hM (by decide) (by decide) (by decide) (by decide) (by decide) rfl (by decide) k227 rfl dX8_cut_21 ?_
    have q : (V2 580 19 : Int32) = nI σ.2.2.1.length := cP.1
    refine lv_eqi q ?_
    refine lv_iload_n hx hb dX8_cut_24 rfl (lv_at hl 1 rfl) ?_
    refine lv_isub hx hb dX8_cut_25 ?_
    refine lv_topi (fun x2_26 ex2_26 => ?_)
    refine lv_istore_n (lv' := [(2, .int x2_26), (0, .ref (E.1 + 580)), (1, .int n)]) hx hb dX8_cut_26 rfl hl (by decide) rfl (fun ls hl => ?_)
    refine lv_aload_n hx hb dX8_cut_27 rfl (lv_at hl 1 rfl) ?_
    refine lv_iload_n hx hb dX8_cut_28 rfl (lv_at hl 2 rfl) ?_
    refine w_pi 8 19 (T := TX8) (N := 42) hx hb hts inw8 tyX8 tyX8_ok nmX8 hown hK.1 hM hS (by decide) (by decide) (by decide) (by decide) (by decide) rfl (by decide) k227 rfl rfl rfl rfl dX8_cut_29 (fun H locs hM hS => ?_)
    generalize hV29 : up2 V2 580 19 n = V29 at hM
    refine lv_iload_n hx hb dX8_cut_32 rfl (lv_at hl 0 rfl) ?_
    have hpost : (fun v V' => v = (opCut σ n).1 ∧ repM V' (opCut σ n).2 ∧ frC V V') x2_26 V29 := by
      have hq : opCut σ n = (nI (σ.2.2.1.length - rj n), sTape σ (σ.2.2.1.take (rj n))) := by simp [opCut, i2]
      have hf : frF V2 V29 19 595 := ⟨fun k a b => by rw [← hV29, up2_k _ _ b], fun i a => by rw [← hV29, up2_o _ _ a]⟩
      have hl9 : (σ.2.2.1.take (rj n)).length = rj n := by simp; omega
      have hb9 : buf V29 19 595 (σ.2.2.1.take (rj n)) := ⟨by rw [← hV29, up2_s, hl9]; exact enn, fun i hi => by rw [hf.1 595 |> fun _ => (by rw [← hV29, up2_k _ _ (by decide)] : V29 595 = V2 595)]; rw [hl9] at hi; rw [cP.2 i (by omega)]; simp [List.getD_eq_getElem?_getD, List.getElem?_take, hi]⟩
      rw [hq]; exact ⟨ex2_26.trans (nSub rfl enn (by omega)), hC2.tape hb9 (by omega) (fun x hx => oP.2 x (List.mem_of_mem_take hx)) hf, fC2.up hV29 (by decide)⟩
    exact w_iret V29 hx hb hret hK hS hM (hpost) hlocks dX8_cut_33
  · have i2 : inR n 0 (nI σ.2.2.1.length) = false := b2i_eq0 (by rw [← er11]; exact c_14)
    refine lv_bipush (v := (-2)) hx hb dX8_cut_17 (by decide) ?_
    have hpost : (fun v V' => v = (opCut σ n).1 ∧ repM V' (opCut σ n).2 ∧ frC V V') (-2) V2 := by
      have hq : opCut σ n = (-2, σ) := by first | (simp [opCut, i2]; done)
      rw [hq]; exact ⟨rfl, hC2, fC2⟩
    exact w_iret V2 hx hb hret hK hS hM (hpost) hlocks dX8_cut_19

set_option maxHeartbeats 4000000 in
set_option maxRecDepth 100000 in
theorem c_X8_forge (l : Launch) {E : En} {V : Vt} {σ : St} (hC : repM V σ) (i x : Int32) : CI l yX8_forge wsX8_forge 2 E V [.ref (E.1 + 580), .int i, .int x] (fun v V' => v = (opForge σ i x).1 ∧ repM V' (opForge σ i x).2 ∧ frC V V') := by
  refine Met.ofW (cc := cX8_forge) (maxL := 3) (ret := (some .int)) (by decide) rfl ?_
  intro p e s m args below meth c s₁ B hml hv
  obtain ⟨rfl, hM, hK⟩ := hv
  have hx := B.exec
  have hb := B.bytes
  have hret := B.returns
  have hts := atoms_spec (ws := wsX8_forge) B.pre
  have hown : s.vm.findClass RX8 = some m.cls := findClass_of_methodNamed B.named
  have hlocks := B.notSynchronized
  have hsz : s.heap.size = E.1 + 610 := hM.1
  have hS : va_S (AE E) s.heap s.heap [] := va_S.rf
  have inw8 : ∀ w ∈ u_ws RX8 TX8 42, w ∈ wsX8_forge := by decide +kernel
  have k112 := hts (.fieldLink RX8 112 "LimitTokensModel" "thrown" "I") (by decide +kernel)
  have k227 := hts (.fieldLink RX8 227 "LimitTokensModel" "tapeSize" "I") (by decide +kernel)
  have k52 := hts (.fieldLink RX8 52 "LimitTokensModel" "tape" "[I") (by decide +kernel)
  have hl := lv_entry ([.ref (E.1 + 580), .int i, .int x]) (n := 3) (Nat.le_of_ble_eq_true rfl)
  rw [lg_entry_eq]
  generalize (lg_sl ([.ref (E.1 + 580), .int i, .int x]) ++ List.replicate (3 - (lg_sl ([.ref (E.1 + 580), .int i, .int x])).length) Slot.unset).toArray = ls at hl ⊢
  have hl : lv_has ls 3 [(0, .ref (E.1 + 580)), (1, .int i), (2, .int x)] := hl
  refine lv_aload_n hx hb dX8_forge_0 rfl (lv_at hl 0 rfl) ?_
  refine lv_iconst (v := 0) hx hb dX8_forge_1 (by decide) ?_
  refine w_pi 8 0 (T := TX8) (N := 42) hx hb hts inw8 tyX8 tyX8_ok nmX8 hown hK.1 hM hS (by decide) (by decide) (by decide) (by decide) (by decide) rfl (by decide) k112 rfl rfl rfl rfl dX8_forge_2 (fun H locs hM hS => ?_)
  generalize hV2 : up2 V 580 0 0 = V2 at hM
  have hC2 := hC.fr (pFr.th hV2).1
  have fC2 := (pFr.th hV2).2
  obtain ⟨⟨oR, oT, oP⟩, cN, cR, cT, cP, cQ, cF, cL⟩ := id hC2
  have olP := oP.1
  refine lv_iload_n hx hb dX8_forge_5 rfl (lv_at hl 1 rfl) ?_
  refine lv_iconst (v := 0) hx hb dX8_forge_6 (by decide) ?_
  refine lv_aload_n hx hb dX8_forge_7 rfl (lv_at hl 0 rfl) ?_
  refine w_gi 8 19 (T := TX8) (N := 42) hx hb hts inw8 hown hK.1 hM (by decide) (by decide) (by decide) (by decide) (by decide) rfl (by decide) k227 rfl dX8_forge_8 ?_
  have q : (V2 580 19 : Int32) = nI σ.2.2.1.length := cP.1
  refine lv_eqi q ?_
  refine lv_iconst (v := 1) hx hb dX8_forge_11 (by decide) ?_
  refine lv_isub hx hb dX8_forge_12 ?_
  refine w_cSi (As := [.int i, .int 0, .int ((nI σ.2.2.1.length) - 1)]) (rest := []) ⟨hx, hb, hml, hown, hts⟩ (c_X8_within l i 0 (nI σ.2.2.1.length - 1)) (va_cwS 3 hts gX8_forge_X8_within rfl rfl rfl (by decide +kernel) ⟨Nat.le_of_ble_eq_true rfl, Nat.le_of_ble_eq_true rfl⟩) hM hK hS rfl hl.1 rfl (lv_room (Nat.le_of_ble_eq_true rfl)) dX8_forge_13 ⟨Nat.le_of_ble_eq_true rfl, Nat.le_of_ble_eq_true rfl⟩ (fun r13 V13 H locs hp13 hM hS => ?_)
  obtain ⟨er13, eV⟩ := hp13
  rw [eV] at hM; clear eV
  refine lv_if_eq (tgt := 30) hx hb dX8_forge_16 (by decide) (fun c_16 => ?_) (fun c_16 => ?_)
  · have i2 : inR i 0 (nI σ.2.2.1.length - 1) = false := b2i_eq0 (by rw [← er13]; exact c_16)
    have i3 : has σ.2.2.1 i = false := by rw [← inR_has (by omega)]; exact i2
    refine lv_bipush (v := (-2)) hx hb dX8_forge_30 (by decide) ?_
    have hpost : (fun v V' => v = (opForge σ i x).1 ∧ repM V' (opForge σ i x).2 ∧ frC V V') (-2) V2 := by
      have hq : opForge σ i x = (-2, σ) := by first | (simp [opForge, i3, i4]; done) | (simp [opForge, i3]; done)
      rw [hq]; exact ⟨rfl, hC2, fC2⟩
    exact w_iret V2 hx hb hret hK hS hM (hpost) hlocks dX8_forge_32
  · have i2 : inR i 0 (nI σ.2.2.1.length - 1) = true := b2i_ne0 (by rw [← er13]; exact c_16)
    have i3 : has σ.2.2.1 i = true := by rw [← inR_has (by omega)]; exact i2
    obtain ⟨hji, eni⟩ := has_j i3 (by omega)
    refine lv_iload_n hx hb dX8_forge_19 rfl (lv_at hl 2 rfl) ?_
    refine lv_iconst (v := 0) hx hb dX8_forge_20 (by decide) ?_
    refine lv_sipush (v := 255) hx hb dX8_forge_21 (by decide) ?_
    refine w_cSi (As := [.int x, .int 0, .int 255]) (rest := []) ⟨hx, hb, hml, hown, hts⟩ (c_X8_within l x 0 255) (va_cwS 3 hts gX8_forge_X8_within rfl rfl rfl (by decide +kernel) ⟨Nat.le_of_ble_eq_true rfl, Nat.le_of_ble_eq_true rfl⟩) hM hK hS rfl hl.1 rfl (lv_room (Nat.le_of_ble_eq_true rfl)) dX8_forge_24 ⟨Nat.le_of_ble_eq_true rfl, Nat.le_of_ble_eq_true rfl⟩ (fun r24 V24 H locs hp24 hM hS => ?_)
    obtain ⟨er24, eV⟩ := hp24
    rw [eV] at hM; clear eV
    refine lv_if_ne (tgt := 33) hx hb dX8_forge_27 (by decide) (fun c_27 => ?_) (fun c_27 => ?_)
    · have i4 : inR x 0 255 = true := b2i_ne0 (by rw [← er24]; exact c_27)
      obtain ⟨lox, hix, enx⟩ := inR_j i4 (m := 0) (n := 255) rfl rfl (by omega) (by omega)
      refine lv_aload_n hx hb dX8_forge_33 rfl (lv_at hl 0 rfl) ?_
      refine w_gr 8 18 595 (T := TX8) (N := 42) hx hb hts inw8 hown hK.1 hM (by decide) (by decide) (by decide) (by decide) (by decide) rfl (by decide) k52 rfl dX8_forge_34 ?_
      refine lv_iload_n hx hb dX8_forge_37 rfl (lv_at hl 1 rfl) ?_
      refine lv_dup2_11 hx hb dX8_forge_38 rfl rfl ?_
      have i_39 : (i : Int32) = nI (rj i) := eni
      refine w_ild (N := 1200) hx hb hK.1 hM (by decide) (by decide) (by decide) (by rw [i_39]; exact vp_in_nI (by omega) (by omega)) dX8_forge_39 ?_
      have j_39 : i.toNatClampNeg = rj i := (congrArg Int32.toNatClampNeg i_39).trans (nI_clamp (by omega))
      have q : (V2 595 i.toNatClampNeg : Int32) = V2 595 (rj i) := by rw [j_39]
      refine lv_eqi q ?_
      have q : (V2 595 (rj i) : Int32) = σ.2.2.1.getD (rj i) 0 := cP.at hji
      refine lv_eqi q ?_
      refine lv_iload_n hx hb dX8_forge_40 rfl (lv_at hl 2 rfl) ?_
      refine lv_ixor hx hb dX8_forge_41 ?_
      have i_42 : (i : Int32) = nI (rj i) := eni
      have j_42 : i.toNatClampNeg = rj i := (congrArg Int32.toNatClampNeg i_42).trans (nI_clamp (by omega))
      refine w_ist (N := 1200) hx hb hK.1 hM hS (by decide) (by decide) (by decide) (by rw [i_42]; exact vp_in_nI (by omega) (by omega)) dX8_forge_42 (fun H locs hM hS => ?_)
      rw [j_42] at hM
      generalize hV42 : up2 V2 595 (rj i) ((σ.2.2.1.getD (rj i) 0) ^^^ x) = V42 at hM
      refine lv_aload_n hx hb dX8_forge_43 rfl (lv_at hl 0 rfl) ?_
      refine w_gr 8 18 595 (T := TX8) (N := 42) hx hb hts inw8 hown hK.1 hM (by decide) (by decide) (by decide) (by decide) (by decide) rfl (by decide) k52 rfl dX8_forge_44 ?_
      refine lv_iload_n hx hb dX8_forge_47 rfl (lv_at hl 1 rfl) ?_
      have i_48 : (i : Int32) = nI (rj i) := eni
      refine w_ild (N := 1200) hx hb hK.1 hM (by decide) (by decide) (by decide) (by rw [i_48]; exact vp_in_nI (by omega) (by omega)) dX8_forge_48 ?_
      have j_48 : i.toNatClampNeg = rj i := (congrArg Int32.toNatClampNeg i_48).trans (nI_clamp (by omega))
      have q : (V42 595 i.toNatClampNeg : Int32) = V42 595 (rj i) := by rw [j_48]
      refine lv_eqi q ?_
      have q : (V42 595 (rj i) : Int32) = σ.2.2.1.getD (rj i) 0 ^^^ x := by rw [← hV42, up2_s]
      refine lv_eqi q ?_
      have hpost : (fun v V' => v = (opForge σ i x).1 ∧ repM V' (opForge σ i x).2 ∧ frC V V') (σ.2.2.1.getD (rj i) 0 ^^^ x) V42 := by
        have hq : opForge σ i x = (σ.2.2.1.getD (rj i) 0 ^^^ x, sTape σ (σ.2.2.1.set (rj i) (σ.2.2.1.getD (rj i) 0 ^^^ x))) := by simp [opForge, i3, i4]
        have hf : frF V2 V42 19 595 := ⟨fun k a b => by rw [← hV42, up2_k _ _ a], fun i a => by rw [← hV42, up2_k _ _ (by decide)]⟩
        have hb9 : buf V42 19 595 (σ.2.2.1.set (rj i) (σ.2.2.1.getD (rj i) 0 ^^^ x)) := ⟨by rw [← hV42, up2_k _ _ (by decide), List.length_set]; exact cP.1, cP.2.set hV42 (by omega) hji⟩
        rw [hq]; exact ⟨rfl, hC2.tape hb9 (by rw [List.length_set]; omega) (oP.2.set (xor_ok (oP.2.gd _) (by rw [enx]; exact nI_pos' (by omega)))) hf, fC2.up hV42 (by decide)⟩
      exact w_iret V42 hx hb hret hK hS hM (hpost) hlocks dX8_forge_49
    · have i4 : inR x 0 255 = false := b2i_eq0 (by rw [← er24]; exact c_27)
      refine lv_bipush (v := (-2)) hx hb dX8_forge_30 (by decide) ?_
      have hpost : (fun v V' => v = (opForge σ i x).1 ∧ repM V' (opForge σ i x).2 ∧ frC V V') (-2) V2 := by
        have hq : opForge σ i x = (-2, σ) := by first | (simp [opForge, i3, i4]; done) | (simp [opForge, i3]; done)
        rw [hq]; exact ⟨rfl, hC2, fC2⟩
      exact w_iret V2 hx hb hret hK hS hM (hpost) hlocks dX8_forge_32

set_option maxHeartbeats 4000000 in
set_option maxRecDepth 100000 in
theorem c_X8_put (l : Launch) {E : En} {V : Vt} {l0 : List Int32} (hu : buf V 19 595 l0) (hc : l0.length < 1200) (x : Int32) : CV l yX8_put wsX8_put 0 E V [.ref (E.1 + 580), .int x] (fun V' => buf V' 19 595 (l0 ++ [x]) ∧ frF V V' 19 595) := by
  refine Met.ofW (cc := cX8_put) (maxL := 2) (ret := none) (by decide) rfl ?_
  intro p e s m args below meth c s₁ B hml hv
  obtain ⟨rfl, hM, hK⟩ := hv
  have hx := B.exec
  have hb := B.bytes
  have hret := B.returns
  have hts := atoms_spec (ws := wsX8_put) B.pre
  have hown : s.vm.findClass RX8 = some m.cls := findClass_of_methodNamed B.named
  have hlocks := B.notSynchronized
  have hsz : s.heap.size = E.1 + 610 := hM.1
  have hS : va_S (AE E) s.heap s.heap [] := va_S.rf
  have inw8 : ∀ w ∈ u_ws RX8 TX8 42, w ∈ wsX8_put := by decide +kernel
  have k52 := hts (.fieldLink RX8 52 "LimitTokensModel" "tape" "[I") (by decide +kernel)
  have k227 := hts (.fieldLink RX8 227 "LimitTokensModel" "tapeSize" "I") (by decide +kernel)
  have hl := lv_entry ([.ref (E.1 + 580), .int x]) (n := 2) (Nat.le_of_ble_eq_true rfl)
  rw [lg_entry_eq]
  generalize (lg_sl ([.ref (E.1 + 580), .int x]) ++ List.replicate (2 - (lg_sl ([.ref (E.1 + 580), .int x])).length) Slot.unset).toArray = ls at hl ⊢
  have hl : lv_has ls 2 [(0, .ref (E.1 + 580)), (1, .int x)] := hl
  refine lv_aload_n hx hb dX8_put_0 rfl (lv_at hl 0 rfl) ?_
  refine w_gr 8 18 595 (T := TX8) (N := 42) hx hb hts inw8 hown hK.1 hM (by decide) (by decide) (by decide) (by decide) (by decide) rfl (by decide) k52 rfl dX8_put_1 ?_
  refine lv_aload_n hx hb dX8_put_4 rfl (lv_at hl 0 rfl) ?_
  refine w_gi 8 19 (T := TX8) (N := 42) hx hb hts inw8 hown hK.1 hM (by decide) (by decide) (by decide) (by decide) (by decide) rfl (by decide) k227 rfl dX8_put_5 ?_
  have q : (V 580 19 : Int32) = nI l0.length := hu.1
  refine lv_eqi q ?_
  refine lv_iload_n hx hb dX8_put_8 rfl (lv_at hl 1 rfl) ?_
  have i_9 : (nI l0.length : Int32) = nI (l0.length) := rfl
  have j_9 : (nI l0.length).toNatClampNeg = l0.length := (congrArg Int32.toNatClampNeg i_9).trans (nI_clamp (by omega))
  refine w_ist (N := 1200) hx hb hK.1 hM hS (by decide) (by decide) (by decide) (by rw [i_9]; exact vp_in_nI (by omega) (by omega)) dX8_put_9 (fun H locs hM hS => ?_)
  rw [j_9] at hM
  generalize hV9 : up2 V 595 l0.length x = V9 at hM
  refine lv_aload_n hx hb dX8_put_10 rfl (lv_at hl 0 rfl) ?_
  refine lv_dup hx hb dX8_put_11 rfl ?_
  refine w_gi 8 19 (T := TX8) (N := 42) hx hb hts inw8 hown hK.1 hM (by decide) (by decide) (by decide) (by decide) (by decide) rfl (by decide) k227 rfl dX8_put_12 ?_
  have q : (V9 580 19 : Int32) = nI l0.length := by rw [← hV9, up2_k _ _ (by omega)]; exact hu.1
  refine lv_eqi q ?_
  refine lv_iconst (v := 1) hx hb dX8_put_15 (by decide) ?_
  refine lv_iadd hx hb dX8_put_16 ?_
  have q : ((nI l0.length) + 1 : Int32) = nI (l0.length + 1) := (nAdd rfl rfl)
  refine lv_eqi q ?_
  refine w_pi 8 19 (T := TX8) (N := 42) hx hb hts inw8 tyX8 tyX8_ok nmX8 hown hK.1 hM hS (by decide) (by decide) (by decide) (by decide) (by decide) rfl (by decide) k227 rfl rfl rfl rfl dX8_put_17 (fun H locs hM hS => ?_)
  generalize hV17 : up2 V9 580 19 (nI (l0.length + 1)) = V17 at hM
  exact w_vret (free := AE E) V17 hx hb hret hK hS hM (hu.push (by decide) rfl hV9 hV17 rfl) hlocks dX8_put_20

set_option maxHeartbeats 4000000 in
set_option maxRecDepth 100000 in
theorem c_X8_putRow (l : Launch) {E : En} {V : Vt} {ca na : Nat} (ha : isA ca na) (hne : ca ≠ 595) {l0 lr : List Int32} (hu : buf V 19 595 l0) {b : Nat} (hs : seg V ca b lr) (hbn : b + lr.length ≤ na) (hc : l0.length + lr.length + 2 ≤ 1200) (hd : Int32) : CV l yX8_putRow wsX8_putRow 1 E V [.ref (E.1 + 580), .int hd, .ref (E.1 + ca), .int (nI b), .int (nI lr.length)] (fun V' => buf V' 19 595 (l0 ++ ([hd, nI lr.length] ++ lr)) ∧ frF V V' 19 595) := by
  refine Met.ofW (cc := cX8_putRow) (maxL := 6) (ret := none) (by decide) rfl ?_
  intro p e s m args below meth c s₁ B hml hv
  obtain ⟨rfl, hM, hK⟩ := hv
  have hx := B.exec
  have hb := B.bytes
  have hret := B.returns
  have hts := atoms_spec (ws := wsX8_putRow) B.pre
  have hown : s.vm.findClass RX8 = some m.cls := findClass_of_methodNamed B.named
  have hlocks := B.notSynchronized
  have hsz : s.heap.size = E.1 + 610 := hM.1
  have hS : va_S (AE E) s.heap s.heap [] := va_S.rf
  have hl := lv_entry ([.ref (E.1 + 580), .int hd, .ref (E.1 + ca), .int (nI b), .int (nI lr.length)]) (n := 6) (Nat.le_of_ble_eq_true rfl)
  rw [lg_entry_eq]
  generalize (lg_sl ([.ref (E.1 + 580), .int hd, .ref (E.1 + ca), .int (nI b), .int (nI lr.length)]) ++ List.replicate (6 - (lg_sl ([.ref (E.1 + 580), .int hd, .ref (E.1 + ca), .int (nI b), .int (nI lr.length)])).length) Slot.unset).toArray = ls at hl ⊢
  have hl : lv_has ls 6 [(0, .ref (E.1 + 580)), (1, .int hd), (2, .ref (E.1 + ca)), (3, .int (nI b)), (4, .int (nI lr.length))] := hl
  have hna := ha.c
  refine lv_aload_n hx hb dX8_putRow_0 rfl (lv_at hl 0 rfl) ?_
  refine lv_iload_n hx hb dX8_putRow_1 rfl (lv_at hl 1 rfl) ?_
  refine w_cVv (C := RX8) (As := [.int hd]) (rest := []) ⟨hx, hb, hml, hown, hts⟩ (c_X8_put l hu (by omega) hd) (cwV 1 hts gX8_putRow_X8_put rfl rfl rfl (by decide +kernel) ⟨Nat.le_of_ble_eq_true rfl, Nat.le_of_ble_eq_true rfl⟩) (w_recv (ci := 8) hK hM (by decide) (by decide) (by decide) rfl) hM hK hS rfl hl.1 rfl (lv_room (Nat.le_of_ble_eq_true rfl)) dX8_putRow_2 ⟨Nat.le_of_ble_eq_true rfl, Nat.le_of_ble_eq_true rfl⟩ (fun V2 H locs hp2 hM hS => ?_)
  refine lv_aload_n hx hb dX8_putRow_5 rfl (lv_at hl 0 rfl) ?_
  refine lv_iload hx hb dX8_putRow_6 (lv_at hl 4 rfl) ?_
  refine w_cVv (C := RX8) (As := [.int (nI lr.length)]) (rest := []) ⟨hx, hb, hml, hown, hts⟩ (c_X8_put l hp2.1 (by simp; omega) (nI lr.length)) (cwV 1 hts gX8_putRow_X8_put rfl rfl rfl (by decide +kernel) ⟨Nat.le_of_ble_eq_true rfl, Nat.le_of_ble_eq_true rfl⟩) (w_recv (ci := 8) hK hM (by decide) (by decide) (by decide) rfl) hM hK hS rfl hl.1 rfl (lv_room (Nat.le_of_ble_eq_true rfl)) dX8_putRow_8 ⟨Nat.le_of_ble_eq_true rfl, Nat.le_of_ble_eq_true rfl⟩ (fun V8 H locs hp8 hM hS => ?_)
  refine lv_iconst (v := 0) hx hb dX8_putRow_11 (by decide) ?_
  refine lv_istore (lv' := [(5, .int 0), (0, .ref (E.1 + 580)), (1, .int hd), (2, .ref (E.1 + ca)), (3, .int (nI b)), (4, .int (nI lr.length))]) hx hb dX8_putRow_12 hl (by decide) rfl (fun ls hl => ?_)
  have loop14 : ∀ (fu : Nat) (Vw : Vt) (H : Heap) (locs : List Loc) (ls : Array Slot) (j : Nat) (hj : j ≤ lr.length) (hw : buf Vw 19 595 (((l0 ++ [hd]) ++ [nI lr.length]) ++ lr.take j)) (hf : frF V Vw 19 595), lr.length - j < fu → Wd E Vw H → va_S (AE E) s.heap H locs → lv_has ls 6 [(0, .ref (E.1 + 580)), (2, .ref (E.1 + ca)), (3, .int (nI b)), (4, .int (nI lr.length)), (5, .int (nI j))] → W p l e (headSpec wsX8_putRow (rmD 1)).room s m ([.ref (E.1 + 580), .int hd, .ref (E.1 + ca), .int (nI b), .int (nI lr.length)] : List Value).toArray below meth c H locs 0 0 (MQ below (QV E (fun V' => Wd E V') (fun V' => buf V' 19 595 (l0 ++ ([hd, nI lr.length] ++ lr)) ∧ frF V V' 19 595)) ([.ref (E.1 + 580), .int hd, .ref (E.1 + ca), .int (nI b), .int (nI lr.length)] : List Value).toArray s 0 0 (AE E)) (F0 m 14 ls []) := by
    intro fu
    induction fu with
    | zero => intros; omega
    | succ fu ih14 =>
      intro Vw H locs ls j hj hw hf hfu hM hS hl
      refine lv_iload hx hb dX8_putRow_14 (lv_at hl 4 rfl) ?_
      refine lv_iload hx hb dX8_putRow_16 (lv_at hl 3 rfl) ?_
      refine lv_icmp_ge (tgt := 37) hx hb dX8_putRow_18 (by decide) (fun c_18 => ?_) (fun c_18 => ?_)
      · have n_18 : lr.length ≤ j := (nLe (a := lr.length) (b := j) rfl rfl (by omega) (by omega)).mp c_18
        have hpost : (fun V' => buf V' 19 595 (l0 ++ ([hd, nI lr.length] ++ lr)) ∧ frF V V' 19 595) Vw := by
          rw [List.take_of_length_le (by omega)] at hw
          exact ⟨by simpa using hw, hf⟩
        exact w_vret (free := AE E) Vw hx hb hret hK hS hM (hpost) hlocks dX8_putRow_37
      · have n_18 : ¬ lr.length ≤ j := fun q9 => c_18 ((nLe (a := lr.length) (b := j) rfl rfl (by omega) (by omega)).mpr q9)
        refine lv_aload_n hx hb dX8_putRow_21 rfl (lv_at hl 0 rfl) ?_
        refine lv_aload_n hx hb dX8_putRow_22 rfl (lv_at hl 1 rfl) ?_
        refine lv_iload_n hx hb dX8_putRow_23 rfl (lv_at hl 2 rfl) ?_
        refine lv_iload hx hb dX8_putRow_24 (lv_at hl 4 rfl) ?_
        refine lv_iadd hx hb dX8_putRow_26 ?_
        have q : ((nI b) + (nI j) : Int32) = nI (b + j) := (nAdd rfl rfl)
        refine lv_eqi q ?_
        have i_27 : (nI (b + j) : Int32) = nI (b + j) := rfl
        refine w_ild (N := na) hx hb hK.1 hM ha.lt ha.k ha.n (by rw [i_27]; exact vp_in_nI (by omega) (by omega)) dX8_putRow_27 ?_
        have j_27 : (nI (b + j)).toNatClampNeg = b + j := (congrArg Int32.toNatClampNeg i_27).trans (nI_clamp (by omega))
        have q : (Vw ca (nI (b + j)).toNatClampNeg : Int32) = Vw ca (b + j) := by rw [j_27]
        refine lv_eqi q ?_
        have q : (Vw ca (b + j) : Int32) = lr.getD j 0 := by rw [hf.1 ca hne ha.ne]; exact hs j (by omega)
        refine lv_eqi q ?_
        refine w_cVv (C := RX8) (As := [.int (lr.getD j 0)]) (rest := []) ⟨hx, hb, hml, hown, hts⟩ (c_X8_put l hw (by simp; omega) (lr.getD j 0)) (cwV 1 hts gX8_putRow_X8_put rfl rfl rfl (by decide +kernel) ⟨Nat.le_of_ble_eq_true rfl, Nat.le_of_ble_eq_true rfl⟩) (w_recv (ci := 8) hK hM (by decide) (by decide) (by decide) rfl) hM hK hS rfl hl.1 rfl (lv_room (Nat.le_of_ble_eq_true rfl)) dX8_putRow_28 ⟨Nat.le_of_ble_eq_true rfl, Nat.le_of_ble_eq_true rfl⟩ (fun V28 H locs hp28 hM hS => ?_)
        obtain ⟨x5_31, ex5_31⟩ : ∃ y : Int32, y = (nI j) + 1 := ⟨_, rfl⟩
        refine lv_iinc (v := x5_31) (lv' := [(5, .int x5_31), (0, .ref (E.1 + 580)), (2, .ref (E.1 + ca)), (3, .int (nI b)), (4, .int (nI lr.length))]) hx hb dX8_putRow_31 hl (k := 4) rfl (by rw [ex5_31]; rfl) (by decide) rfl (fun ls hl => ?_)
        refine lv_goto (tgt := 14) hx hb dX8_putRow_34 (by decide) ?_
        rw [show x5_31 = nI (j + 1) from (ex5_31.trans (nAdd rfl rfl))] at hl
        exact ih14 V28 _ _ _ (j + 1) (by omega) (by rw [take_s (by omega), ← List.append_assoc]; exact hp28.1) (hf.trans hp28.2) (by omega) hM hS (lv_sub hl [1, 2, 3, 4, 0] rfl)
  exact loop14 _ V8 _ _ _ 0 (Nat.zero_le _) (by simpa using hp8.1) (hp2.2.trans hp8.2) (Nat.lt_succ_self _) hM hS (lv_sub hl [1, 3, 4, 5, 0] rfl)

theorem m_putRow (l : Launch) {E : En} {V : Vt} {ca na : Nat} (ha : isA ca na) (hne : ca ≠ 595) {l0 lr : List Int32} (hu : buf V 19 595 l0) {b n : Nat} (hs : seg V ca b lr) (hbn : b + n ≤ na) (hc : l0.length + n + 2 ≤ 1200) (hd : Int32) (hn : lr.length = n) : CV l yX8_putRow wsX8_putRow 1 E V [.ref (E.1 + 580), .int hd, .ref (E.1 + ca), .int (nI b), .int (nI n)] (fun V' => buf V' 19 595 (l0 ++ ([hd, nI n] ++ lr)) ∧ frF V V' 19 595) := by subst hn; exact c_X8_putRow l ha hne hu hs hbn hc hd
