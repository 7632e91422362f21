theorem tokB_len {T : Tk} (h : okTk T) : (tokB T).length ≤ 1200 := by
  have h1 := flatB_len T.2.2 h.2.2.2
  have h2 := h.1.2.1
  have h3 := h.2.1.1
  have h4 := h.2.2.1
  unfold tokB
  simp only [List.length_append, List.length_cons, List.length_nil]
  omega
theorem limB_ok {L : Lm} (h : okLm L) : okL (limB L) := by
  obtain ⟨h1, h2, h3, h4, h5⟩ := h
  unfold limB
  refine okL.app (okL.app (fun x hx => ?_) h4) (okL.app ?_ (fun x hx => ?_))
  · simp only [List.mem_cons, List.not_mem_nil, or_false] at hx
    rcases hx with rfl | rfl
    · decide
    · exact nI_pos' (by omega)
  · split
    · intro x hx; cases hx
    · refine okL.app (fun x hx => ?_) h5
      simp only [List.mem_cons, List.not_mem_nil, or_false] at hx
      rcases hx with rfl | rfl <;> decide
  · simp only [List.mem_cons, List.not_mem_nil, or_false] at hx
    rw [hx]; decide
theorem tokB_ok {T : Tk} (h : okTk T) : okL (tokB T) := by
  unfold tokB
  refine okL.app (okL.app (okL.app (okL.app (fun x hx => ?_) h.1.2.2) (fun x hx => ?_)) (fun x hx => ?_)) (okL.app (fun x hx => ?_) h.2.1.2)
  · simp only [List.mem_cons, List.not_mem_nil, or_false] at hx
    have := h.1.2.1
    rcases hx with rfl | rfl | rfl
    · decide
    · decide
    · exact nI_pos' (by omega)
  · simp only [List.mem_cons, List.not_mem_nil, or_false] at hx; rw [hx]; decide
  · obtain ⟨L, hL, hx⟩ := List.mem_flatMap.mp hx
    obtain ⟨i, hi, e⟩ := List.mem_iff_getElem.mp hL
    have := h.2.2.2 i hi
    rw [List.getD_eq_getElem?_getD, List.getElem?_eq_getElem hi] at this
    simp only [Option.getD_some, e] at this
    exact limB_ok this x hx
  · simp only [List.mem_cons, List.not_mem_nil, or_false] at hx
    rcases hx with rfl | rfl | rfl <;> decide
theorem repC.plc {V V' : Vt} {σ : St} (h : repC V σ) {p : Int32} (hp : V' 505 3 = p) (f : ∀ j, j ≠ 505 → (j < 508 ∨ 563 < j) → V' j = V j) : repC V' (sPlc σ p) := by
  obtain ⟨ho, h1, h2, h3, h4, h5, h6, h7⟩ := h
  exact ⟨ho, h1.fr (fun j a b => f j (by omega) (by omega)), h2.fr ho.2.1 (fun j a b c => f j (by omega) (by omega)), h3.keep (f _ (by omega) (by omega)) (f _ (by omega) (by omega)), h4.fr (f 22 (by omega) (by omega)), h5.fr (f 2 (by omega) (by omega)), hp, h7.keep (f _ (by omega) (by omega)) (f _ (by omega) (by omega))⟩
theorem gd_set_eq {Ls : List Lm} {j : Nat} {L : Lm} (h : j < Ls.length) : (Ls.set j L).getD j lz = L := by simp [List.getD_eq_getElem?_getD, h]
theorem gd_set_ne {Ls : List Lm} {i j : Nat} {L : Lm} (h : i ≠ j) : (Ls.set j L).getD i lz = Ls.getD i lz := by simp [List.getD_eq_getElem?_getD, List.getElem?_set, Ne.symm h]
set_option maxHeartbeats 4000000 in
set_option maxRecDepth 100000 in
theorem c_X7_write (l : Launch) {E : En} {V : Vt} {σ : St} (hC : repC V σ) (t : Int32) : CI l yX7_write wsX7_write 5 E V [.ref (E.1 + 0), .int t] (fun v V' => v = (opWrite σ t).1 ∧ repC V' (opWrite σ t).2 ∧ frM V V') := by
  refine Met.ofW (cc := cX7_write) (maxL := 2) (ret := (some .int)) (by decide) rfl ?_
  intro p e s m args below meth c s₁ B hml hv
  obtain ⟨rfl, hM, hK⟩ := hv
  have hx := B.exec
  have hb := B.bytes
  have hret := B.returns
  have hts := atoms_spec (ws := wsX7_write) B.pre
  have hown : s.vm.findClass RX7 = some m.cls := findClass_of_methodNamed B.named
  have hlocks := B.notSynchronized
  have hsz : s.heap.size = E.1 + 610 := hM.1
  have hS : va_S (AE E) s.heap s.heap [] := va_S.rf
  have in3 : ∀ w ∈ u_ws RX3 TX3 2, w ∈ wsX7_write := by decide +kernel
  have in7 : ∀ w ∈ u_ws RX7 TX7 9, w ∈ wsX7_write := by decide +kernel
  have k62 := hts (.fieldLink RX7 62 "LimitTokens" "tape" "LLimitTokens$Row;") (by decide +kernel)
  have k40 := hts (.fieldLink RX7 40 "LimitTokens" "tokens" "[LLimitTokens$Token;") (by decide +kernel)
  have k79 := hts (.fieldLink RX7 79 "LimitTokens$Row" "length" "I") (by decide +kernel)
  have hl := lv_entry ([.ref (E.1 + 0), .int t]) (n := 2) (Nat.le_of_ble_eq_true rfl)
  rw [lg_entry_eq]
  generalize (lg_sl ([.ref (E.1 + 0), .int t]) ++ List.replicate (2 - (lg_sl ([.ref (E.1 + 0), .int t])).length) Slot.unset).toArray = ls at hl ⊢
  have hl : lv_has ls 2 [(0, .ref (E.1 + 0)), (1, .int t)] := hl
  obtain ⟨⟨oR, oT, oP⟩, cR, cT, cP, cQ, cF, cL, cZ⟩ := id hC
  refine lv_aload_n hx hb dX7_write_0 rfl (lv_at hl 0 rfl) ?_
  refine lv_iload_n hx hb dX7_write_1 rfl (lv_at hl 1 rfl) ?_
  refine w_cVi (C := RX7) (As := [.int t]) (rest := []) ⟨hx, hb, hml, hown, hts⟩ (c_X7_isThere l cT t) (cwV 1 hts gX7_write_X7_isThere rfl rfl rfl (by decide +kernel) ⟨Nat.le_of_ble_eq_true rfl, Nat.le_of_ble_eq_true rfl⟩) (w_recv (ci := 7) hK hM (by decide) (by decide) (by decide) rfl) hM hK hS rfl hl.1 rfl (lv_room (Nat.le_of_ble_eq_true rfl)) dX7_write_2 ⟨Nat.le_of_ble_eq_true rfl, Nat.le_of_ble_eq_true rfl⟩ (fun r2 V2 H locs hp2 hM hS => ?_)
  obtain ⟨er2, eV⟩ := hp2
  rw [eV] at hM; clear eV
  refine lv_if_ne (tgt := 11) hx hb dX7_write_5 (by decide) (fun c_5 => ?_) (fun c_5 => ?_)
  · obtain ⟨T, hT⟩ : ∃ T, thr σ t = some T := Option.isSome_iff_exists.mp (b2i_ne0 (by rw [← er2]; exact c_5))
    obtain ⟨i1, ht, et, hTt⟩ := thr_some hT
    obtain ⟨hth, htk⟩ := (cT (rj t) ht).s hTt
    have hok := oT (rj t) ht T hTt
    refine lv_aload_n hx hb dX7_write_11 rfl (lv_at hl 0 rfl) ?_
    refine w_gr 7 8 506 (T := TX7) (N := 9) hx hb hts in7 hown hK.1 hM (by decide) (by decide) (by decide) (by decide) (by decide) rfl (by decide) k62 rfl dX7_write_12 ?_
    refine w_cVv (C := RX3) (As := []) (rest := []) ⟨hx, hb, hml, hown, hts⟩ (c_X3_makeEmpty l rw506) (cwV 0 hts gX7_write_X3_makeEmpty rfl rfl rfl (by decide +kernel) ⟨Nat.le_of_ble_eq_true rfl, Nat.le_of_ble_eq_true rfl⟩) (w_recv (ci := 3) hK hM (by decide) (by decide) (by decide) rfl) hM hK hS rfl hl.1 rfl (lv_room (Nat.le_of_ble_eq_true rfl)) dX7_write_15 ⟨Nat.le_of_ble_eq_true rfl, Nat.le_of_ble_eq_true rfl⟩ (fun V15 H locs hp15 hM hS => ?_)
    refine lv_aload_n hx hb dX7_write_18 rfl (lv_at hl 0 rfl) ?_
    refine w_gr 7 4 3 (T := TX7) (N := 9) hx hb hts in7 hown hK.1 hM (by decide) (by decide) (by decide) (by decide) (by decide) rfl (by decide) k40 rfl dX7_write_19 ?_
    refine lv_iload_n hx hb dX7_write_22 rfl (lv_at hl 1 rfl) ?_
    refine w_ald (N := 8) 4 hx hb hK.1 hM (by decide) (by first | rfl | (rw [(by decide)]; rfl)) (by first | decide | (rw [(by decide)]; decide)) (by decide) (vp8 i1) (25 + 60 * rj t) (sf3i i1) dX7_write_23 ?_
    refine lv_aload_n hx hb dX7_write_24 rfl (lv_at hl 0 rfl) ?_
    refine w_gr 7 8 506 (T := TX7) (N := 9) hx hb hts in7 hown hK.1 hM (by decide) (by decide) (by decide) (by decide) (by decide) rfl (by decide) k62 rfl dX7_write_25 ?_
    refine w_cVv (C := RX6) (As := [.ref (E.1 + 506)]) (rest := []) ⟨hx, hb, hml, hown, hts⟩ (c_X6_putOn l (tok_t ht) (by omega) (htk.otherI hok.2.2.1 (hp15.2.toI (lo := 506) (hi := 507) (by omega)) (by omega)) hok hp15.1) (cwV 1 hts gX7_write_X6_putOn rfl rfl rfl (by decide +kernel) ⟨Nat.le_of_ble_eq_true rfl, Nat.le_of_ble_eq_true rfl⟩) (w_recv (ci := 6) hK hM ((tok_t ht)).lt ((tok_t ht)).k (by decide) rfl) hM hK hS rfl hl.1 rfl (lv_room (Nat.le_of_ble_eq_true rfl)) dX7_write_28 ⟨Nat.le_of_ble_eq_true rfl, Nat.le_of_ble_eq_true rfl⟩ (fun V28 H locs hp28 hM hS => ?_)
    refine lv_aload_n hx hb dX7_write_31 rfl (lv_at hl 0 rfl) ?_
    refine w_gr 7 8 506 (T := TX7) (N := 9) hx hb hts in7 hown hK.1 hM (by decide) (by decide) (by decide) (by decide) (by decide) rfl (by decide) k62 rfl dX7_write_32 ?_
    refine w_gi 3 1 (T := TX3) (N := 2) hx hb hts in3 hown hK.1 hM (by decide) (by decide) (by decide) (by decide) (by decide) rfl (by decide) k79 rfl dX7_write_35 ?_
    have q : (V28 506 1 : Int32) = nI (tokB T).length := hp28.1.1
    refine lv_eqi q ?_
    have hpost : (fun v V' => v = (opWrite σ t).1 ∧ repC V' (opWrite σ t).2 ∧ frM V V') (nI (tokB T).length) V28 := by
      have hq : opWrite σ t = (nI (tokB T).length, sTape σ (tokB T)) := by simp [opWrite, hT]
      rw [hq]; exact ⟨rfl, hC.tape hp28.1 (tokB_len hok) (tokB_ok hok) (fun j a b => by rw [hp28.2 j a b, hp15.2 j a b]), fun j hj => by rw [hp28.2 j (by omega) (by omega), hp15.2 j (by omega) (by omega)]⟩
    exact w_iret V28 hx hb hret hK hS hM (hpost) hlocks dX7_write_38
  · have hN : thr σ t = none := by have q9 := b2i_eq0 (er2.symm.trans c_5); cases q8 : thr σ t with | none => rfl | some x => rw [q8] at q9; cases q9
    refine lv_bipush (v := (-2)) hx hb dX7_write_8 (by decide) ?_
    have hpost : (fun v V' => v = (opWrite σ t).1 ∧ repC V' (opWrite σ t).2 ∧ frM V V') (-2) V := by
      have hq : opWrite σ t = (-2, σ) := by first | (simp [opWrite, hN]; done)
      rw [hq]; exact ⟨rfl, hC, fun _ _ => rfl⟩
    exact w_iret V hx hb hret hK hS hM (hpost) hlocks dX7_write_10

set_option maxHeartbeats 4000000 in
set_option maxRecDepth 100000 in
theorem c_X7_cut (l : Launch) {E : En} {V : Vt} {σ : St} (hC : repC V σ) (n : Int32) : CI l yX7_cut wsX7_cut 0 E V [.ref (E.1 + 0), .int n] (fun v V' => v = (opCut σ n).1 ∧ repC V' (opCut σ n).2 ∧ frM V V') := by
  refine Met.ofW (cc := cX7_cut) (maxL := 3) (ret := (some .int)) (by decide) rfl ?_
  intro p e s m args below meth c s₁ B hml hv
  obtain ⟨rfl, hM, hK⟩ := hv
  have hx := B.exec
  have hb := B.bytes
  have hret := B.returns
  have hts := atoms_spec (ws := wsX7_cut) B.pre
  have hown : s.vm.findClass RX7 = some m.cls := findClass_of_methodNamed B.named
  have hlocks := B.notSynchronized
  have hsz : s.heap.size = E.1 + 610 := hM.1
  have hS : va_S (AE E) s.heap s.heap [] := va_S.rf
  have in3 : ∀ w ∈ u_ws RX3 TX3 2, w ∈ wsX7_cut := by decide +kernel
  have in7 : ∀ w ∈ u_ws RX7 TX7 9, w ∈ wsX7_cut := by decide +kernel
  have k62 := hts (.fieldLink RX7 62 "LimitTokens" "tape" "LLimitTokens$Row;") (by decide +kernel)
  have k79 := hts (.fieldLink RX7 79 "LimitTokens$Row" "length" "I") (by decide +kernel)
  have hl := lv_entry ([.ref (E.1 + 0), .int n]) (n := 3) (Nat.le_of_ble_eq_true rfl)
  rw [lg_entry_eq]
  generalize (lg_sl ([.ref (E.1 + 0), .int n]) ++ List.replicate (3 - (lg_sl ([.ref (E.1 + 0), .int n])).length) Slot.unset).toArray = ls at hl ⊢
  have hl : lv_has ls 3 [(0, .ref (E.1 + 0)), (1, .int n)] := hl
  obtain ⟨⟨oR, oT, oP⟩, cR, cT, cP, cQ, cF, cL, cZ⟩ := id hC
  refine lv_iload_n hx hb dX7_cut_0 rfl (lv_at hl 1 rfl) ?_
  refine lv_if_lt (tgt := 15) hx hb dX7_cut_1 (by decide) (fun c_1 => ?_) (fun c_1 => ?_)
  · have i1 : inR n 0 (nI σ.2.2.1.length) = false := by simp only [inR]; grind
    refine lv_bipush (v := (-2)) hx hb dX7_cut_15 (by decide) ?_
    have hpost : (fun v V' => v = (opCut σ n).1 ∧ repC V' (opCut σ n).2 ∧ frM V V') (-2) V := by
      have hq : opCut σ n = (-2, σ) := by first | (simp [opCut, i1]; done)
      rw [hq]; exact ⟨rfl, hC, fun _ _ => rfl⟩
    exact w_iret V hx hb hret hK hS hM (hpost) hlocks dX7_cut_17
  · refine lv_iload_n hx hb dX7_cut_4 rfl (lv_at hl 1 rfl) ?_
    refine lv_aload_n hx hb dX7_cut_5 rfl (lv_at hl 0 rfl) ?_
    refine w_gr 7 8 506 (T := TX7) (N := 9) hx hb hts in7 hown hK.1 hM (by decide) (by decide) (by decide) (by decide) (by decide) rfl (by decide) k62 rfl dX7_cut_6 ?_
    refine w_gi 3 1 (T := TX3) (N := 2) hx hb hts in3 hown hK.1 hM (by decide) (by decide) (by decide) (by decide) (by decide) rfl (by decide) k79 rfl dX7_cut_9 ?_
    have q : (V 506 1 : Int32) = nI σ.2.2.1.length := cP.1
    refine lv_eqi q ?_
    refine lv_icmp_le (tgt := 18) hx hb dX7_cut_12 (by decide) (fun c_12 => ?_) (fun c_12 => ?_)
    · have i1 : inR n 0 (nI σ.2.2.1.length) = true := by simp only [inR]; grind
      have oP1 := oP.1
      have hn := inR_j i1 (m := 0) (n := σ.2.2.1.length) rfl rfl (by omega) (by omega)
      refine lv_aload_n hx hb dX7_cut_18 rfl (lv_at hl 0 rfl) ?_
      refine w_gr 7 8 506 (T := TX7) (N := 9) hx hb hts in7 hown hK.1 hM (by decide) (by decide) (by decide) (by decide) (by decide) rfl (by decide) k62 rfl dX7_cut_19 ?_
      refine w_gi 3 1 (T := TX3) (N := 2) hx hb hts in3 hown hK.1 hM (by decide) (by decide) (by decide) (by decide) (by decide) rfl (by decide) k79 rfl dX7_cut_22 ?_
      have q : (V 506 1 : Int32) = nI σ.2.2.1.length := cP.1
      refine lv_eqi q ?_
      refine lv_iload_n hx hb dX7_cut_25 rfl (lv_at hl 1 rfl) ?_
      refine lv_isub hx hb dX7_cut_26 ?_
      refine lv_topi (fun x2_27 ex2_27 => ?_)
      refine lv_istore_n (lv' := [(2, .int x2_27), (0, .ref (E.1 + 0)), (1, .int n)]) hx hb dX7_cut_27 rfl hl (by decide) rfl (fun ls hl => ?_)
      refine lv_aload_n hx hb dX7_cut_28 rfl (lv_at hl 1 rfl) ?_
      refine w_gr 7 8 506 (T := TX7) (N := 9) hx hb hts in7 hown hK.1 hM (by decide) (by decide) (by decide) (by decide) (by decide) rfl (by decide) k62 rfl dX7_cut_29 ?_
      refine lv_iload_n hx hb dX7_cut_32 rfl (lv_at hl 2 rfl) ?_
      refine w_pi 3 1 (T := TX3) (N := 2) hx hb hts in3 tyX3 tyX3_ok nmX3 hown hK.1 hM hS (by decide) (by decide) (by decide) (by decide) (by decide) rfl (by decide) k79 rfl rfl rfl rfl dX7_cut_33 (fun H locs hM hS => ?_)
      generalize hV33 : up2 V 506 1 n = V33 at hM
      refine lv_iload_n hx hb dX7_cut_36 rfl (lv_at hl 0 rfl) ?_
      have hpost : (fun v V' => v = (opCut σ n).1 ∧ repC V' (opCut σ n).2 ∧ frM V V') x2_27 V33 := by
        have hq : opCut σ n = (nI (σ.2.2.1.length - rj n), sTape σ (σ.2.2.1.take (rj n))) := by simp [opCut, i1]
        have ev : nI σ.2.2.1.length - n = nI (σ.2.2.1.length - rj n) := by have q := pk_sub (a := σ.2.2.1.length) (b := rj n) hn.2.1; rw [← hn.2.2] at q; exact q
        have hlt : (σ.2.2.1.take (rj n)).length = rj n := by rw [List.length_take]; omega
        rw [hq]; refine ⟨by rw [ex2_27]; exact ev, hC.tape ⟨?_, fun i hi => ?_⟩ (by rw [hlt]; omega) (fun x hx => oP.2 x (List.mem_of_mem_take hx)) (fun j a b => by rw [← hV33, up2_k _ _ a]), fun j hj => by rw [← hV33, up2_k _ _ (by omega)]⟩
        · rw [hlt, ← hV33, up2_s]; exact hn.2.2
        · rw [hlt] at hi; rw [← hV33, up2_k _ _ (by decide), cP.2 i (by omega)]; simp [List.getD_eq_getElem?_getD, List.getElem?_take, hi]
      exact w_iret V33 hx hb hret hK hS hM (hpost) hlocks dX7_cut_37
    · have i1 : inR n 0 (nI σ.2.2.1.length) = false := by simp only [inR]; grind
      refine lv_bipush (v := (-2)) hx hb dX7_cut_15 (by decide) ?_
      have hpost : (fun v V' => v = (opCut σ n).1 ∧ repC V' (opCut σ n).2 ∧ frM V V') (-2) V := by
        have hq : opCut σ n = (-2, σ) := by first | (simp [opCut, i1]; done)
        rw [hq]; exact ⟨rfl, hC, fun _ _ => rfl⟩
      exact w_iret V hx hb hret hK hS hM (hpost) hlocks dX7_cut_17

set_option maxHeartbeats 4000000 in
set_option maxRecDepth 100000 in
theorem c_X7_forge (l : Launch) {E : En} {V : Vt} {σ : St} (hC : repC V σ) (i x : Int32) : CI l yX7_forge wsX7_forge 2 E V [.ref (E.1 + 0), .int i, .int x] (fun v V' => v = (opForge σ i x).1 ∧ repC V' (opForge σ i x).2 ∧ frM V V') := by
  refine Met.ofW (cc := cX7_forge) (maxL := 3) (ret := (some .int)) (by decide) rfl ?_
  intro p e s m args below meth c s₁ B hml hv
  obtain ⟨rfl, hM, hK⟩ := hv
  have hx := B.exec
  have hb := B.bytes
  have hret := B.returns
  have hts := atoms_spec (ws := wsX7_forge) B.pre
  have hown : s.vm.findClass RX7 = some m.cls := findClass_of_methodNamed B.named
  have hlocks := B.notSynchronized
  have hsz : s.heap.size = E.1 + 610 := hM.1
  have hS : va_S (AE E) s.heap s.heap [] := va_S.rf
  have in7 : ∀ w ∈ u_ws RX7 TX7 9, w ∈ wsX7_forge := by decide +kernel
  have k62 := hts (.fieldLink RX7 62 "LimitTokens" "tape" "LLimitTokens$Row;") (by decide +kernel)
  have hl := lv_entry ([.ref (E.1 + 0), .int i, .int x]) (n := 3) (Nat.le_of_ble_eq_true rfl)
  rw [lg_entry_eq]
  generalize (lg_sl ([.ref (E.1 + 0), .int i, .int x]) ++ List.replicate (3 - (lg_sl ([.ref (E.1 + 0), .int i, .int x])).length) Slot.unset).toArray = ls at hl ⊢
  have hl : lv_has ls 3 [(0, .ref (E.1 + 0)), (1, .int i), (2, .int x)] := hl
  obtain ⟨⟨oR, oT, oP⟩, cR, cT, cP, cQ, cF, cL, cZ⟩ := id hC
  refine lv_aload_n hx hb dX7_forge_0 rfl (lv_at hl 0 rfl) ?_
  refine w_gr 7 8 506 (T := TX7) (N := 9) hx hb hts in7 hown hK.1 hM (by decide) (by decide) (by decide) (by decide) (by decide) rfl (by decide) k62 rfl dX7_forge_1 ?_
  refine lv_iload_n hx hb dX7_forge_4 rfl (lv_at hl 1 rfl) ?_
  refine w_cVi (C := RX3) (As := [.int i]) (rest := []) ⟨hx, hb, hml, hown, hts⟩ (c_X3_has l rw506 i) (cwV 1 hts gX7_forge_X3_has rfl rfl rfl (by decide +kernel) ⟨Nat.le_of_ble_eq_true rfl, Nat.le_of_ble_eq_true rfl⟩) (w_recv (ci := 3) hK hM (by decide) (by decide) (by decide) rfl) hM hK hS rfl hl.1 rfl (lv_room (Nat.le_of_ble_eq_true rfl)) dX7_forge_5 ⟨Nat.le_of_ble_eq_true rfl, Nat.le_of_ble_eq_true rfl⟩ (fun r5 V5 H locs hp5 hM hS => ?_)
  obtain ⟨er5, eV⟩ := hp5
  rw [eV] at hM; clear eV
  rw [cP.1, has_if] at er5
  refine lv_if_eq (tgt := 30) hx hb dX7_forge_8 (by decide) (fun c_8 => ?_) (fun c_8 => ?_)
  · have i1 : has σ.2.2.1 i = false := b2i_eq0 (by rw [← er5]; exact c_8)
    refine lv_bipush (v := (-2)) hx hb dX7_forge_30 (by decide) ?_
    have hpost : (fun v V' => v = (opForge σ i x).1 ∧ repC V' (opForge σ i x).2 ∧ frM V V') (-2) V := by
      have hq : opForge σ i x = (-2, σ) := by first | (simp [opForge, i1, i2]; done) | (simp [opForge, i1]; done)
      rw [hq]; exact ⟨rfl, hC, fun _ _ => rfl⟩
    exact w_iret V hx hb hret hK hS hM (hpost) hlocks dX7_forge_32
  · have i1 : has σ.2.2.1 i = true := b2i_ne0 (by rw [← er5]; exact c_8)
    refine lv_iload_n hx hb dX7_forge_11 rfl (lv_at hl 2 rfl) ?_
    refine w_cSi (As := [.int x]) (rest := []) ⟨hx, hb, hml, hown, hts⟩ (c_X7_isByte l x) (va_cwS 1 hts gX7_forge_X7_isByte rfl rfl rfl (by decide +kernel) ⟨Nat.le_of_ble_eq_true rfl, Nat.le_of_ble_eq_true rfl⟩) hM hK hS rfl hl.1 rfl (lv_room (Nat.le_of_ble_eq_true rfl)) dX7_forge_12 ⟨Nat.le_of_ble_eq_true rfl, Nat.le_of_ble_eq_true rfl⟩ (fun r12 V12 H locs hp12 hM hS => ?_)
    obtain ⟨er12, eV⟩ := hp12
    rw [eV] at hM; clear eV
    refine lv_if_eq (tgt := 30) hx hb dX7_forge_15 (by decide) (fun c_15 => ?_) (fun c_15 => ?_)
    · have i2 : inR x 0 255 = false := b2i_eq0 (by rw [← er12]; exact c_15)
      refine lv_bipush (v := (-2)) hx hb dX7_forge_30 (by decide) ?_
      have hpost : (fun v V' => v = (opForge σ i x).1 ∧ repC V' (opForge σ i x).2 ∧ frM V V') (-2) V := by
        have hq : opForge σ i x = (-2, σ) := by first | (simp [opForge, i1, i2]; done) | (simp [opForge, i1]; done)
        rw [hq]; exact ⟨rfl, hC, fun _ _ => rfl⟩
      exact w_iret V hx hb hret hK hS hM (hpost) hlocks dX7_forge_32
    · have i2 : inR x 0 255 = true := b2i_ne0 (by rw [← er12]; exact c_15)
      have oP1 := oP.1
      have hi := has_j i1 (by omega)
      rw [hi.2] at hl
      refine lv_aload_n hx hb dX7_forge_18 rfl (lv_at hl 0 rfl) ?_
      refine w_gr 7 8 506 (T := TX7) (N := 9) hx hb hts in7 hown hK.1 hM (by decide) (by decide) (by decide) (by decide) (by decide) rfl (by decide) k62 rfl dX7_forge_19 ?_
      refine lv_iload_n hx hb dX7_forge_22 rfl (lv_at hl 1 rfl) ?_
      refine lv_iload_n hx hb dX7_forge_23 rfl (lv_at hl 2 rfl) ?_
      refine w_cVi (C := RX3) (As := [.int (nI (rj i)), .int x]) (rest := []) ⟨hx, hb, hml, hown, hts⟩ (c_X3_flip l rw506 cP oP.1 (j := rj i) hi.1 x) (cwV 2 hts gX7_forge_X3_flip rfl rfl rfl (by decide +kernel) ⟨Nat.le_of_ble_eq_true rfl, Nat.le_of_ble_eq_true rfl⟩) (w_recv (ci := 3) hK hM (by decide) (by decide) (by decide) rfl) hM hK hS rfl hl.1 rfl (lv_room (Nat.le_of_ble_eq_true rfl)) dX7_forge_24 ⟨Nat.le_of_ble_eq_true rfl, Nat.le_of_ble_eq_true rfl⟩ (fun r24 V24 H locs hp24 hM hS => ?_)
      refine lv_goto (tgt := 32) hx hb dX7_forge_27 (by decide) ?_
      have hpost : (fun v V' => v = (opForge σ i x).1 ∧ repC V' (opForge σ i x).2 ∧ frM V V') r24 V24 := by
        have hx := inR_j i2 (m := 0) (n := 255) rfl rfl (by omega) (by omega)
        have hq : opForge σ i x = (σ.2.2.1.getD (rj i) 0 ^^^ x, sTape σ (σ.2.2.1.set (rj i) (σ.2.2.1.getD (rj i) 0 ^^^ x))) := by simp only [opForge, i1, i2, Bool.and_self, if_true]
        rw [hq]; exact ⟨hp24.1, hC.tape hp24.2.1 (by rw [List.length_set]; omega) (oP.2.set (xor_ok (oP.2.gd _) (by rw [hx.2.2]; exact nI_pos' (by omega)))) (fun j a b => hp24.2.2 j a b), fun j hj => hp24.2.2 j (by omega) (by omega)⟩
      exact w_iret V24 hx hb hret hK hS hM (hpost) hlocks dX7_forge_32

set_option maxHeartbeats 4000000 in
set_option maxRecDepth 100000 in
theorem c_X7_read (l : Launch) {E : En} {V : Vt} {σ : St} (hC : repC V σ) (t : Int32) : CI l yX7_read wsX7_read 6 E V [.ref (E.1 + 0), .int t] (fun v V' => v = (opRead σ t).1 ∧ repC V' (opRead σ t).2 ∧ frM V V') := by
  refine Met.ofW (cc := cX7_read) (maxL := 2) (ret := (some .int)) (by decide) rfl ?_
  intro p e s m args below meth c s₁ B hml hv
  obtain ⟨rfl, hM, hK⟩ := hv
  have hx := B.exec
  have hb := B.bytes
  have hret := B.returns
  have hts := atoms_spec (ws := wsX7_read) B.pre
  have hown : s.vm.findClass RX7 = some m.cls := findClass_of_methodNamed B.named
  have hlocks := B.notSynchronized
  have hsz : s.heap.size = E.1 + 610 := hM.1
  have hS : va_S (AE E) s.heap s.heap [] := va_S.rf
  have in5 : ∀ w ∈ u_ws RX5 TX5 4, w ∈ wsX7_read := by decide +kernel
  have in6 : ∀ w ∈ u_ws RX6 TX6 5, w ∈ wsX7_read := by decide +kernel
  have in7 : ∀ w ∈ u_ws RX7 TX7 9, w ∈ wsX7_read := by decide +kernel
  have k25 := hts (.fieldLink RX7 25 "LimitTokens" "reader" "LLimitTokens$TapeReader;") (by decide +kernel)
  have k32 := hts (.fieldLink RX7 32 "LimitTokens" "spare" "LLimitTokens$Token;") (by decide +kernel)
  have k40 := hts (.fieldLink RX7 40 "LimitTokens" "tokens" "[LLimitTokens$Token;") (by decide +kernel)
  have k110 := hts (.fieldLink RX7 110 "LimitTokens$Token" "count" "I") (by decide +kernel)
  have k210 := hts (.fieldLink RX7 210 "LimitTokens$TapeReader" "found" "I") (by decide +kernel)
  have hl := lv_entry ([.ref (E.1 + 0), .int t]) (n := 2) (Nat.le_of_ble_eq_true rfl)
  rw [lg_entry_eq]
  generalize (lg_sl ([.ref (E.1 + 0), .int t]) ++ List.replicate (2 - (lg_sl ([.ref (E.1 + 0), .int t])).length) Slot.unset).toArray = ls at hl ⊢
  have hl : lv_has ls 2 [(0, .ref (E.1 + 0)), (1, .int t)] := hl
  obtain ⟨⟨oR, oT, oP⟩, cR, cT, cP, cQ, cF, cL, cZ⟩ := id hC
  refine lv_iload_n hx hb dX7_read_0 rfl (lv_at hl 1 rfl) ?_
  refine w_cSi (As := [.int t]) (rest := []) ⟨hx, hb, hml, hown, hts⟩ (c_X7_isTokenNumber l t) (va_cwS 1 hts gX7_read_X7_isTokenNumber rfl rfl rfl (by decide +kernel) ⟨Nat.le_of_ble_eq_true rfl, Nat.le_of_ble_eq_true rfl⟩) hM hK hS rfl hl.1 rfl (lv_room (Nat.le_of_ble_eq_true rfl)) dX7_read_1 ⟨Nat.le_of_ble_eq_true rfl, Nat.le_of_ble_eq_true rfl⟩ (fun r1 V1 H locs hp1 hM hS => ?_)
  obtain ⟨er1, eV⟩ := hp1
  rw [eV] at hM; clear eV
  refine lv_if_ne (tgt := 10) hx hb dX7_read_4 (by decide) (fun c_4 => ?_) (fun c_4 => ?_)
  · have i1 : in8 t = true := b2i_ne0 (by rw [← er1]; exact c_4)
    have ht : rj t < 8 := (in8_r i1).1
    refine lv_aload_n hx hb dX7_read_10 rfl (lv_at hl 0 rfl) ?_
    refine w_gr 7 2 505 (T := TX7) (N := 9) hx hb hts in7 hown hK.1 hM (by decide) (by decide) (by decide) (by decide) (by decide) rfl (by decide) k25 rfl dX7_read_11 ?_
    refine lv_aload_n hx hb dX7_read_14 rfl (lv_at hl 0 rfl) ?_
    refine w_gr 7 3 508 (T := TX7) (N := 9) hx hb hts in7 hown hK.1 hM (by decide) (by decide) (by decide) (by decide) (by decide) rfl (by decide) k32 rfl dX7_read_15 ?_
    refine w_cVi (C := RX5) (As := [.ref (E.1 + 508)]) (rest := []) ⟨hx, hb, hml, hown, hts⟩ (c_X5_readToken l cP oP.1 oP.2) (cwV 1 hts gX7_read_X5_readToken rfl rfl rfl (by decide +kernel) ⟨Nat.le_of_ble_eq_true rfl, Nat.le_of_ble_eq_true rfl⟩) (w_recv (ci := 5) hK hM (by decide) (by decide) (by decide) rfl) hM hK hS rfl hl.1 rfl (lv_room (Nat.le_of_ble_eq_true rfl)) dX7_read_18 ⟨Nat.le_of_ble_eq_true rfl, Nat.le_of_ble_eq_true rfl⟩ (fun r18 V18 H locs hp18 hM hS => ?_)
    refine lv_if_ne (tgt := 35) hx hb dX7_read_21 (by decide) (fun c_21 => ?_) (fun c_21 => ?_)
    · obtain ⟨T, hm, -, okr⟩ := hp18.1.f c_21
      have hokT := rTok_ok oP.2 hm
      refine lv_aload_n hx hb dX7_read_35 rfl (lv_at hl 0 rfl) ?_
      refine w_gr 7 4 3 (T := TX7) (N := 9) hx hb hts in7 hown hK.1 hM (by decide) (by decide) (by decide) (by decide) (by decide) rfl (by decide) k40 rfl dX7_read_36 ?_
      refine lv_iload_n hx hb dX7_read_39 rfl (lv_at hl 1 rfl) ?_
      refine w_ald (N := 8) 4 hx hb hK.1 hM (by decide) (by first | rfl | (rw [(by decide)]; rfl)) (by first | decide | (rw [(by decide)]; decide)) (by decide) (vp8 i1) (25 + 60 * rj t) (sf3i i1) dX7_read_40 ?_
      refine lv_aload_n hx hb dX7_read_41 rfl (lv_at hl 0 rfl) ?_
      refine w_gr 7 3 508 (T := TX7) (N := 9) hx hb hts in7 hown hK.1 hM (by decide) (by decide) (by decide) (by decide) (by decide) rfl (by decide) k32 rfl dX7_read_42 ?_
      refine w_cVv (C := RX6) (As := [.ref (E.1 + 508)]) (rest := []) ⟨hx, hb, hml, hown, hts⟩ (c_X6_takeOver l (tok_t ht) tok_sp (by omega) okr.2.2.1 hokT okr.2.2.2) (cwV 1 hts gX7_read_X6_takeOver rfl rfl rfl (by decide +kernel) ⟨Nat.le_of_ble_eq_true rfl, Nat.le_of_ble_eq_true rfl⟩) (w_recv (ci := 6) hK hM ((tok_t ht)).lt ((tok_t ht)).k (by decide) rfl) hM hK hS rfl hl.1 rfl (lv_room (Nat.le_of_ble_eq_true rfl)) dX7_read_45 ⟨Nat.le_of_ble_eq_true rfl, Nat.le_of_ble_eq_true rfl⟩ (fun V45 H locs hp45 hM hS => ?_)
      refine lv_aload_n hx hb dX7_read_48 rfl (lv_at hl 0 rfl) ?_
      refine w_gr 7 4 3 (T := TX7) (N := 9) hx hb hts in7 hown hK.1 hM (by decide) (by decide) (by decide) (by decide) (by decide) rfl (by decide) k40 rfl dX7_read_49 ?_
      refine lv_iload_n hx hb dX7_read_52 rfl (lv_at hl 1 rfl) ?_
      refine w_ald (N := 8) 4 hx hb hK.1 hM (by decide) (by first | rfl | (rw [(by decide)]; rfl)) (by first | decide | (rw [(by decide)]; decide)) (by decide) (vp8 i1) (25 + 60 * rj t) (sf3i i1) dX7_read_53 ?_
      refine w_gi 6 3 (T := TX6) (N := 5) hx hb hts in6 hown hK.1 hM ((tok_t ht)).lt ((tok_t ht)).k ((tok_t ht)).n ((tok_t ht)).f3 (by decide) rfl (by decide) k110 rfl dX7_read_54 ?_
      have q : (V45 (25 + 60 * rj t) 3 : Int32) = nI T.2.2.length := hp45.1.2.2.1
      refine lv_eqi q ?_
      have hpost : (fun v V' => v = (opRead σ t).1 ∧ repC V' (opRead σ t).2 ∧ frM V V') (nI T.2.2.length) V45 := by
        have hq : opRead σ t = (nI T.2.2.length, sTok (sPlc σ (-1)) (rj t) (some T)) := by simp [opRead, i1, hm]
        rw [hq]; exact ⟨rfl, (hC.plc okr.2.1 (fun j a b => hp18.2 j a (by omega))).tok ht (o := some T) ⟨hp45.2.1, hp45.1⟩ (fun T2 h2 => by cases h2; exact hokT) (fun j a _ => hp45.2.2 j (by omega)), fun j hj => by rw [hp45.2.2 j (by omega)]; exact hp18.2 j (by omega) (by omega)⟩
      exact w_iret V45 hx hb hret hK hS hM (hpost) hlocks dX7_read_57
    · obtain ⟨e9, hm, f9, g9⟩ := hp18.1.t c_21
      refine lv_bipush (v := (-10)) hx hb dX7_read_24 (by decide) ?_
      refine lv_aload_n hx hb dX7_read_26 rfl (lv_at hl 0 rfl) ?_
      refine w_gr 7 2 505 (T := TX7) (N := 9) hx hb hts in7 hown hK.1 hM (by decide) (by decide) (by decide) (by decide) (by decide) rfl (by decide) k25 rfl dX7_read_27 ?_
      refine w_gi 5 2 (T := TX5) (N := 4) hx hb hts in5 hown hK.1 hM (by decide) (by decide) (by decide) (by decide) (by decide) rfl (by decide) k210 rfl dX7_read_30 ?_
      have q : (V18 505 2 : Int32) = nI e9.1 := f9
      refine lv_eqi q ?_
      refine lv_isub hx hb dX7_read_33 ?_
      have hpost : (fun v V' => v = (opRead σ t).1 ∧ repC V' (opRead σ t).2 ∧ frM V V') ((-10) - (nI e9.1)) V18 := by
        have hq : opRead σ t = (-10 - nI e9.1, sPlc σ (nI e9.2)) := by simp [opRead, i1, hm]
        rw [hq]; exact ⟨rfl, hC.plc g9 (fun j a b => hp18.2 j a (by omega)), fun j hj => hp18.2 j (by omega) (by omega)⟩
      exact w_iret V18 hx hb hret hK hS hM (hpost) hlocks dX7_read_34
  · have i1 : in8 t = false := b2i_eq0 (by rw [← er1]; exact c_4)
    refine lv_bipush (v := (-2)) hx hb dX7_read_7 (by decide) ?_
    have hpost : (fun v V' => v = (opRead σ t).1 ∧ repC V' (opRead σ t).2 ∧ frM V V') (-2) V := by
      have hq : opRead σ t = (-2, σ) := by first | (simp [opRead, i1]; done)
      rw [hq]; exact ⟨rfl, hC, fun _ _ => rfl⟩
    exact w_iret V hx hb hret hK hS hM (hpost) hlocks dX7_read_9

set_option maxHeartbeats 4000000 in
set_option maxRecDepth 100000 in
theorem c_X7_spoil (l : Launch) {E : En} {V : Vt} {σ : St} (hC : repC V σ) (t k i x : Int32) : CI l yX7_spoil wsX7_spoil 2 E V [.ref (E.1 + 0), .int t, .int k, .int i, .int x] (fun v V' => v = (opSpoil σ t k i x).1 ∧ repC V' (opSpoil σ t k i x).2 ∧ frM V V') := by
  refine Met.ofW (cc := cX7_spoil) (maxL := 6) (ret := (some .int)) (by decide) rfl ?_
  intro p e s m args below meth c s₁ B hml hv
  obtain ⟨rfl, hM, hK⟩ := hv
  have hx := B.exec
  have hb := B.bytes
  have hret := B.returns
  have hts := atoms_spec (ws := wsX7_spoil) B.pre
  have hown : s.vm.findClass RX7 = some m.cls := findClass_of_methodNamed B.named
  have hlocks := B.notSynchronized
  have hsz : s.heap.size = E.1 + 610 := hM.1
  have hS : va_S (AE E) s.heap s.heap [] := va_S.rf
  have in1 : ∀ w ∈ u_ws RX1 TX1 2, w ∈ wsX7_spoil := by decide +kernel
  have in6 : ∀ w ∈ u_ws RX6 TX6 5, w ∈ wsX7_spoil := by decide +kernel
  have in7 : ∀ w ∈ u_ws RX7 TX7 9, w ∈ wsX7_spoil := by decide +kernel
  have k40 := hts (.fieldLink RX7 40 "LimitTokens" "tokens" "[LLimitTokens$Token;") (by decide +kernel)
  have k110 := hts (.fieldLink RX7 110 "LimitTokens$Token" "count" "I") (by decide +kernel)
  have k130 := hts (.fieldLink RX7 130 "LimitTokens$Token" "limits" "[LLimitTokens$Limit;") (by decide +kernel)
  have k134 := hts (.fieldLink RX7 134 "LimitTokens$Limit" "text" "LLimitTokens$Row;") (by decide +kernel)
  have k120 := hts (.fieldLink RX7 120 "LimitTokens$Token" "sign" "LLimitTokens$Row;") (by decide +kernel)
  have hl := lv_entry ([.ref (E.1 + 0), .int t, .int k, .int i, .int x]) (n := 6) (Nat.le_of_ble_eq_true rfl)
  rw [lg_entry_eq]
  generalize (lg_sl ([.ref (E.1 + 0), .int t, .int k, .int i, .int x]) ++ List.replicate (6 - (lg_sl ([.ref (E.1 + 0), .int t, .int k, .int i, .int x])).length) Slot.unset).toArray = ls at hl ⊢
  have hl : lv_has ls 6 [(0, .ref (E.1 + 0)), (1, .int t), (2, .int k), (3, .int i), (4, .int x)] := hl
  obtain ⟨⟨oR, oT, oP⟩, cR, cT, cP, cQ, cF, cL, cZ⟩ := id hC
  refine lv_aload_n hx hb dX7_spoil_0 rfl (lv_at hl 0 rfl) ?_
  refine lv_iload_n hx hb dX7_spoil_1 rfl (lv_at hl 1 rfl) ?_
  refine w_cVi (C := RX7) (As := [.int t]) (rest := []) ⟨hx, hb, hml, hown, hts⟩ (c_X7_isThere l cT t) (cwV 1 hts gX7_spoil_X7_isThere rfl rfl rfl (by decide +kernel) ⟨Nat.le_of_ble_eq_true rfl, Nat.le_of_ble_eq_true rfl⟩) (w_recv (ci := 7) hK hM (by decide) (by decide) (by decide) rfl) hM hK hS rfl hl.1 rfl (lv_room (Nat.le_of_ble_eq_true rfl)) dX7_spoil_2 ⟨Nat.le_of_ble_eq_true rfl, Nat.le_of_ble_eq_true rfl⟩ (fun r2 V2 H locs hp2 hM hS => ?_)
  obtain ⟨er2, eV⟩ := hp2
  rw [eV] at hM; clear eV
  refine lv_if_eq (tgt := 33) hx hb dX7_spoil_5 (by decide) (fun c_5 => ?_) (fun c_5 => ?_)
  · have hN : thr σ t = none := by have q9 := b2i_eq0 (er2.symm.trans c_5); cases q8 : thr σ t with | none => rfl | some x => rw [q8] at q9; cases q9
    have ib : thr σ t = none ∨ ∃ T, thr σ t = some T ∧ (inR k 0 (nI T.2.2.length) && inR x 0 255) = false := by first | exact Or.inl hN | (right; exact ⟨T, hT, by rw [i3, Bool.and_false]⟩) | (right; exact ⟨T, hT, by simp only [inR]; grind⟩)
    refine lv_bipush (v := (-2)) hx hb dX7_spoil_33 (by decide) ?_
    have hpost : (fun v V' => v = (opSpoil σ t k i x).1 ∧ repC V' (opSpoil σ t k i x).2 ∧ frM V V') (-2) V := by
      have hq : opSpoil σ t k i x = (-2, σ) := by rcases ib with q | ⟨T9, q1, q2⟩; (simp [opSpoil, q]); (simp only [opSpoil, q1, q2]; rfl)
      rw [hq]; exact ⟨rfl, hC, fun _ _ => rfl⟩
    exact w_iret V hx hb hret hK hS hM (hpost) hlocks dX7_spoil_35
  · obtain ⟨T, hT⟩ : ∃ T, thr σ t = some T := Option.isSome_iff_exists.mp (b2i_ne0 (by rw [← er2]; exact c_5))
    obtain ⟨i1, ht, et, hTt⟩ := thr_some hT
    obtain ⟨hth, htk⟩ := (cT (rj t) ht).s hTt
    have hok := oT (rj t) ht T hTt
    refine lv_iload_n hx hb dX7_spoil_8 rfl (lv_at hl 2 rfl) ?_
    refine lv_if_lt (tgt := 33) hx hb dX7_spoil_9 (by decide) (fun c_9 => ?_) (fun c_9 => ?_)
    · have ib : thr σ t = none ∨ ∃ T, thr σ t = some T ∧ (inR k 0 (nI T.2.2.length) && inR x 0 255) = false := by first | exact Or.inl hN | (right; exact ⟨T, hT, by rw [i3, Bool.and_false]⟩) | (right; exact ⟨T, hT, by simp only [inR]; grind⟩)
      refine lv_bipush (v := (-2)) hx hb dX7_spoil_33 (by decide) ?_
      have hpost : (fun v V' => v = (opSpoil σ t k i x).1 ∧ repC V' (opSpoil σ t k i x).2 ∧ frM V V') (-2) V := by
        have hq : opSpoil σ t k i x = (-2, σ) := by rcases ib with q | ⟨T9, q1, q2⟩; (simp [opSpoil, q]); (simp only [opSpoil, q1, q2]; rfl)
        rw [hq]; exact ⟨rfl, hC, fun _ _ => rfl⟩
      exact w_iret V hx hb hret hK hS hM (hpost) hlocks dX7_spoil_35
    · refine lv_iload_n hx hb dX7_spoil_12 rfl (lv_at hl 2 rfl) ?_
      refine lv_aload_n hx hb dX7_spoil_13 rfl (lv_at hl 0 rfl) ?_
      refine w_gr 7 4 3 (T := TX7) (N := 9) hx hb hts in7 hown hK.1 hM (by decide) (by decide) (by decide) (by decide) (by decide) rfl (by decide) k40 rfl dX7_spoil_14 ?_
      refine lv_iload_n hx hb dX7_spoil_17 rfl (lv_at hl 1 rfl) ?_
      refine w_ald (N := 8) 4 hx hb hK.1 hM (by decide) (by first | rfl | (rw [(by decide)]; rfl)) (by first | decide | (rw [(by decide)]; decide)) (by decide) (vp8 i1) (25 + 60 * rj t) (sf3i i1) dX7_spoil_18 ?_
      refine w_gi 6 3 (T := TX6) (N := 5) hx hb hts in6 hown hK.1 hM ((tok_t ht)).lt ((tok_t ht)).k ((tok_t ht)).n ((tok_t ht)).f3 (by decide) rfl (by decide) k110 rfl dX7_spoil_19 ?_
      have q : (V (25 + 60 * rj t) 3 : Int32) = nI T.2.2.length := htk.2.2.1
      refine lv_eqi q ?_
      refine lv_icmp_gt (tgt := 33) hx hb dX7_spoil_22 (by decide) (fun c_22 => ?_) (fun c_22 => ?_)
      · have ib : thr σ t = none ∨ ∃ T, thr σ t = some T ∧ (inR k 0 (nI T.2.2.length) && inR x 0 255) = false := by first | exact Or.inl hN | (right; exact ⟨T, hT, by rw [i3, Bool.and_false]⟩) | (right; exact ⟨T, hT, by simp only [inR]; grind⟩)
        refine lv_bipush (v := (-2)) hx hb dX7_spoil_33 (by decide) ?_
        have hpost : (fun v V' => v = (opSpoil σ t k i x).1 ∧ repC V' (opSpoil σ t k i x).2 ∧ frM V V') (-2) V := by
          have hq : opSpoil σ t k i x = (-2, σ) := by rcases ib with q | ⟨T9, q1, q2⟩; (simp [opSpoil, q]); (simp only [opSpoil, q1, q2]; rfl)
          rw [hq]; exact ⟨rfl, hC, fun _ _ => rfl⟩
        exact w_iret V hx hb hret hK hS hM (hpost) hlocks dX7_spoil_35
      · refine lv_iload hx hb dX7_spoil_25 (lv_at hl 4 rfl) ?_
        refine w_cSi (As := [.int x]) (rest := []) ⟨hx, hb, hml, hown, hts⟩ (c_X7_isByte l x) (va_cwS 1 hts gX7_spoil_X7_isByte rfl rfl rfl (by decide +kernel) ⟨Nat.le_of_ble_eq_true rfl, Nat.le_of_ble_eq_true rfl⟩) hM hK hS rfl hl.1 rfl (lv_room (Nat.le_of_ble_eq_true rfl)) dX7_spoil_27 ⟨Nat.le_of_ble_eq_true rfl, Nat.le_of_ble_eq_true rfl⟩ (fun r27 V27 H locs hp27 hM hS => ?_)
        obtain ⟨er27, eV⟩ := hp27
        rw [eV] at hM; clear eV
        refine lv_if_ne (tgt := 36) hx hb dX7_spoil_30 (by decide) (fun c_30 => ?_) (fun c_30 => ?_)
        · have i3 : inR x 0 255 = true := b2i_ne0 (by rw [← er27]; exact c_30)
          have hnl9 := hok.2.2.1
          have i2 : inR k 0 (nI T.2.2.length) = true := by simp only [inR]; grind
          have hk := inR_j i2 (m := 0) (n := T.2.2.length) rfl rfl (by omega) (by omega)
          refine lv_iload_n hx hb dX7_spoil_36 rfl (lv_at hl 2 rfl) ?_
          refine lv_if_ne (tgt := 52) hx hb dX7_spoil_37 (by decide) (fun c_37 => ?_) (fun c_37 => ?_)
          · have hk1 : 1 ≤ rj k := by rcases Nat.eq_zero_or_pos (rj k) with q | q; (exact absurd (by rw [hk.2.2, q]; rfl) c_37); omega
            have ek : k - 1 = nI (rj k - 1) := by have q := pk_sub (a := rj k) (b := 1) hk1; rw [← hk.2.2] at q; exact q
            have ekj : rj (k - 1) = rj k - 1 := by rw [ek]; exact nI_clampR (by omega)
            have hkn : rj (k - 1) < T.2.2.length := by omega
            have hk10 : rj (k - 1) < 10 := by omega
            have hL := htk.2.2.2 _ hkn
            have hoL := hok.2.2.2 _ hkn
            refine lv_aload_n hx hb dX7_spoil_52 rfl (lv_at hl 0 rfl) ?_
            refine w_gr 7 4 3 (T := TX7) (N := 9) hx hb hts in7 hown hK.1 hM (by decide) (by decide) (by decide) (by decide) (by decide) rfl (by decide) k40 rfl dX7_spoil_53 ?_
            refine lv_iload_n hx hb dX7_spoil_56 rfl (lv_at hl 1 rfl) ?_
            refine w_ald (N := 8) 4 hx hb hK.1 hM (by decide) (by first | rfl | (rw [(by decide)]; rfl)) (by first | decide | (rw [(by decide)]; decide)) (by decide) (vp8 i1) (25 + 60 * rj t) (sf3i i1) dX7_spoil_57 ?_
            refine w_gr 6 2 (25 + 60 * rj t + 5) (T := TX6) (N := 5) hx hb hts in6 hown hK.1 hM ((tok_t ht)).lt ((tok_t ht)).k ((tok_t ht)).n ((tok_t ht)).f2 (by decide) rfl (by decide) k130 rfl dX7_spoil_58 ?_
            refine lv_iload_n hx hb dX7_spoil_61 rfl (lv_at hl 2 rfl) ?_
            refine lv_iconst (v := 1) hx hb dX7_spoil_62 (by decide) ?_
            refine lv_isub hx hb dX7_spoil_63 ?_
            refine w_ald (N := 10) 2 hx hb hK.1 hM ((tok_t ht)).lt5 (by first | rfl | (rw [((tok_t ht)).k5]; rfl)) (by first | decide | (rw [((tok_t ht)).k5]; decide)) ((tok_t ht)).n5 (by rw [ek]; exact vp_in_nI (by omega) (by omega)) (25 + 60 * rj t + 6 + 5 * rj (k - 1)) ((tok_t ht).fl hk10) dX7_spoil_64 ?_
            refine w_gr 1 0 (25 + 60 * rj t + 6 + 5 * rj (k - 1) + 1) (T := TX1) (N := 2) hx hb hts in1 hown hK.1 hM (((tok_t ht).lim hk10)).lt (((tok_t ht).lim hk10)).k (((tok_t ht).lim hk10)).n (((tok_t ht).lim hk10)).f0 (by decide) rfl (by decide) k134 rfl dX7_spoil_65 ?_
            refine lv_astore (lv' := [(5, .ref (E.1 + (25 + 60 * rj t + 6 + 5 * rj (k - 1) + 1))), (0, .ref (E.1 + 0)), (1, .int t), (2, .int k), (3, .int i), (4, .int x)]) hx hb dX7_spoil_68 hl (by decide) rfl (fun ls hl => ?_)
            refine lv_aload hx hb dX7_spoil_70 (lv_at hl 0 rfl) ?_
            refine lv_iload_n hx hb dX7_spoil_72 rfl (lv_at hl 4 rfl) ?_
            refine w_cVi (C := RX3) (As := [.int i]) (rest := []) ⟨hx, hb, hml, hown, hts⟩ (c_X3_has l ((tok_t ht).lim hk10).text i) (cwV 1 hts gX7_spoil_X3_has rfl rfl rfl (by decide +kernel) ⟨Nat.le_of_ble_eq_true rfl, Nat.le_of_ble_eq_true rfl⟩) (w_recv (ci := 3) hK hM ((((tok_t ht).lim hk10)).text).lt ((((tok_t ht).lim hk10)).text).k (by decide) rfl) hM hK hS rfl hl.1 rfl (lv_room (Nat.le_of_ble_eq_true rfl)) dX7_spoil_73 ⟨Nat.le_of_ble_eq_true rfl, Nat.le_of_ble_eq_true rfl⟩ (fun r73 V73 H locs hp73 hM hS => ?_)
            obtain ⟨er73, eV⟩ := hp73
            rw [eV] at hM; clear eV
            rw [hL.1.1, has_if] at er73
            refine lv_if_eq (tgt := 90) hx hb dX7_spoil_76 (by decide) (fun c_76 => ?_) (fun c_76 => ?_)
            · have i4 : has (T.2.2.getD (rj (k - 1)) lz).1 i = false := b2i_eq0 (by rw [← er73]; exact c_76)
              refine lv_bipush (v := (-2)) hx hb dX7_spoil_90 (by decide) ?_
              have hpost : (fun v V' => v = (opSpoil σ t k i x).1 ∧ repC V' (opSpoil σ t k i x).2 ∧ frM V V') (-2) V := by
                have hq : opSpoil σ t k i x = (-2, σ) := by simp only [opSpoil, hT, i2, i3, Bool.and_self, if_true, if_neg c_37, i4]; rfl
                rw [hq]; exact ⟨rfl, hC, fun _ _ => rfl⟩
              exact w_iret V hx hb hret hK hS hM (hpost) hlocks dX7_spoil_92
            · have i4 : has (T.2.2.getD (rj (k - 1)) lz).1 i = true := b2i_ne0 (by rw [← er73]; exact c_76)
              have hi := has_j i4 (by have := hoL.2.1; omega)
              rw [hi.2] at hl
              refine lv_aload hx hb dX7_spoil_79 (lv_at hl 0 rfl) ?_
              refine lv_iload_n hx hb dX7_spoil_81 rfl (lv_at hl 4 rfl) ?_
              refine lv_iload hx hb dX7_spoil_82 (lv_at hl 5 rfl) ?_
              refine w_cVi (C := RX3) (As := [.int (nI (rj i)), .int x]) (rest := []) ⟨hx, hb, hml, hown, hts⟩ (c_X3_flip l ((tok_t ht).lim hk10).text hL.1 hoL.2.1 (j := rj i) hi.1 x) (cwV 2 hts gX7_spoil_X3_flip rfl rfl rfl (by decide +kernel) ⟨Nat.le_of_ble_eq_true rfl, Nat.le_of_ble_eq_true rfl⟩) (w_recv (ci := 3) hK hM ((((tok_t ht).lim hk10)).text).lt ((((tok_t ht).lim hk10)).text).k (by decide) rfl) hM hK hS rfl hl.1 rfl (lv_room (Nat.le_of_ble_eq_true rfl)) dX7_spoil_84 ⟨Nat.le_of_ble_eq_true rfl, Nat.le_of_ble_eq_true rfl⟩ (fun r84 V84 H locs hp84 hM hS => ?_)
              refine lv_goto (tgt := 92) hx hb dX7_spoil_87 (by decide) ?_
              have hpost : (fun v V' => v = (opSpoil σ t k i x).1 ∧ repC V' (opSpoil σ t k i x).2 ∧ frM V V') r84 V84 := by
                have hx := inR_j i3 (m := 0) (n := 255) rfl rfl (by omega) (by omega)
                have hq : opSpoil σ t k i x = ((T.2.2.getD (rj (k - 1)) lz).1.getD (rj i) 0 ^^^ x, sTok σ (rj t) (some (T.1, T.2.1, T.2.2.set (rj (k - 1)) ((T.2.2.getD (rj (k - 1)) lz).1.set (rj i) ((T.2.2.getD (rj (k - 1)) lz).1.getD (rj i) 0 ^^^ x), (T.2.2.getD (rj (k - 1)) lz).2)))) := by simp only [opSpoil, hT, i2, i3, Bool.and_self, if_true, if_neg c_37, i4]
                have hnl := hok.2.2.1
                rw [hq]; refine ⟨hp84.1, hC.tok ht (o := some (T.1, T.2.1, T.2.2.set (rj (k - 1)) ((T.2.2.getD (rj (k - 1)) lz).1.set (rj i) ((T.2.2.getD (rj (k - 1)) lz).1.getD (rj i) 0 ^^^ x), (T.2.2.getD (rj (k - 1)) lz).2))) ⟨by rw [hp84.2.2 _ (by omega) (by omega)]; exact hth, htk.1.otherR hp84.2.2 (by omega) (by omega) (by omega), htk.2.1.otherR hp84.2.2 (by omega) (by omega) (by omega), ?_, fun j hj => ?_⟩ (fun T2 h2 => ?_) (fun j a _ => hp84.2.2 j (by omega) (by omega)), fun j hj => hp84.2.2 j (by omega) (by omega)⟩
                · show V84 _ 3 = nI (T.2.2.set (rj (k - 1)) ((T.2.2.getD (rj (k - 1)) lz).1.set (rj i) ((T.2.2.getD (rj (k - 1)) lz).1.getD (rj i) 0 ^^^ x), (T.2.2.getD (rj (k - 1)) lz).2)).length; rw [List.length_set, hp84.2.2 _ (by omega) (by omega)]; exact htk.2.2.1
                · have hj2 : j < T.2.2.length := by have q : j < (T.2.2.set (rj (k - 1)) ((T.2.2.getD (rj (k - 1)) lz).1.set (rj i) ((T.2.2.getD (rj (k - 1)) lz).1.getD (rj i) 0 ^^^ x), (T.2.2.getD (rj (k - 1)) lz).2)).length := hj; rw [List.length_set] at q; exact q
                  have hLj := htk.2.2.2 j hj2
                  show limIs V84 _ ((T.2.2.set (rj (k - 1)) ((T.2.2.getD (rj (k - 1)) lz).1.set (rj i) ((T.2.2.getD (rj (k - 1)) lz).1.getD (rj i) 0 ^^^ x), (T.2.2.getD (rj (k - 1)) lz).2)).getD j lz)
                  by_cases ej : j = rj (k - 1)
                  · subst ej; rw [gd_set_eq hj2]; exact ⟨hp84.2.1, hL.2.otherR hp84.2.2 (by omega) (by omega) (by omega)⟩
                  · rw [gd_set_ne ej]; exact ⟨hLj.1.otherR hp84.2.2 (by omega) (by omega) (by omega), hLj.2.otherR hp84.2.2 (by omega) (by omega) (by omega)⟩
                · cases h2; refine ⟨hok.1, hok.2.1, by rw [List.length_set]; exact hok.2.2.1, fun j hj => ?_⟩
                  have hj2 : j < T.2.2.length := by have q : j < (T.2.2.set (rj (k - 1)) ((T.2.2.getD (rj (k - 1)) lz).1.set (rj i) ((T.2.2.getD (rj (k - 1)) lz).1.getD (rj i) 0 ^^^ x), (T.2.2.getD (rj (k - 1)) lz).2)).length := hj; rw [List.length_set] at q; exact q
                  show okLm ((T.2.2.set (rj (k - 1)) ((T.2.2.getD (rj (k - 1)) lz).1.set (rj i) ((T.2.2.getD (rj (k - 1)) lz).1.getD (rj i) 0 ^^^ x), (T.2.2.getD (rj (k - 1)) lz).2)).getD j lz)
                  by_cases ej : j = rj (k - 1)
                  · subst ej; rw [gd_set_eq hj2]; exact ⟨by rw [List.length_set]; exact hoL.1, by rw [List.length_set]; exact hoL.2.1, hoL.2.2.1, hoL.2.2.2.1.set (xor_ok (hoL.2.2.2.1.gd _) (by rw [hx.2.2]; exact nI_pos' (by omega))), hoL.2.2.2.2⟩
                  · rw [gd_set_ne ej]; exact hok.2.2.2 j hj2
              exact w_iret V84 hx hb hret hK hS hM (hpost) hlocks dX7_spoil_92
          · refine lv_aload_n hx hb dX7_spoil_40 rfl (lv_at hl 0 rfl) ?_
            refine w_gr 7 4 3 (T := TX7) (N := 9) hx hb hts in7 hown hK.1 hM (by decide) (by decide) (by decide) (by decide) (by decide) rfl (by decide) k40 rfl dX7_spoil_41 ?_
            refine lv_iload_n hx hb dX7_spoil_44 rfl (lv_at hl 1 rfl) ?_
            refine w_ald (N := 8) 4 hx hb hK.1 hM (by decide) (by first | rfl | (rw [(by decide)]; rfl)) (by first | decide | (rw [(by decide)]; decide)) (by decide) (vp8 i1) (25 + 60 * rj t) (sf3i i1) dX7_spoil_45 ?_
            refine w_gr 6 1 (25 + 60 * rj t + 3) (T := TX6) (N := 5) hx hb hts in6 hown hK.1 hM ((tok_t ht)).lt ((tok_t ht)).k ((tok_t ht)).n ((tok_t ht)).f1 (by decide) rfl (by decide) k120 rfl dX7_spoil_46 ?_
            refine lv_goto (tgt := 68) hx hb dX7_spoil_49 (by decide) ?_
            refine lv_astore (lv' := [(5, .ref (E.1 + (25 + 60 * rj t + 3))), (0, .ref (E.1 + 0)), (1, .int t), (2, .int k), (3, .int i), (4, .int x)]) hx hb dX7_spoil_68 hl (by decide) rfl (fun ls hl => ?_)
            refine lv_aload hx hb dX7_spoil_70 (lv_at hl 0 rfl) ?_
            refine lv_iload_n hx hb dX7_spoil_72 rfl (lv_at hl 4 rfl) ?_
            refine w_cVi (C := RX3) (As := [.int i]) (rest := []) ⟨hx, hb, hml, hown, hts⟩ (c_X3_has l (tok_t ht).sign i) (cwV 1 hts gX7_spoil_X3_has rfl rfl rfl (by decide +kernel) ⟨Nat.le_of_ble_eq_true rfl, Nat.le_of_ble_eq_true rfl⟩) (w_recv (ci := 3) hK hM (((tok_t ht)).sign).lt (((tok_t ht)).sign).k (by decide) rfl) hM hK hS rfl hl.1 rfl (lv_room (Nat.le_of_ble_eq_true rfl)) dX7_spoil_73 ⟨Nat.le_of_ble_eq_true rfl, Nat.le_of_ble_eq_true rfl⟩ (fun r73 V73 H locs hp73 hM hS => ?_)
            obtain ⟨er73, eV⟩ := hp73
            rw [eV] at hM; clear eV
            rw [htk.2.1.1, has_if] at er73
            refine lv_if_eq (tgt := 90) hx hb dX7_spoil_76 (by decide) (fun c_76 => ?_) (fun c_76 => ?_)
            · have i4 : has T.2.1 i = false := b2i_eq0 (by rw [← er73]; exact c_76)
              refine lv_bipush (v := (-2)) hx hb dX7_spoil_90 (by decide) ?_
              have hpost : (fun v V' => v = (opSpoil σ t k i x).1 ∧ repC V' (opSpoil σ t k i x).2 ∧ frM V V') (-2) V := by
                have hq : opSpoil σ t k i x = (-2, σ) := by simp only [opSpoil, hT, i2, i3, Bool.and_self, if_true, if_pos c_37, i4]; rfl
                rw [hq]; exact ⟨rfl, hC, fun _ _ => rfl⟩
              exact w_iret V hx hb hret hK hS hM (hpost) hlocks dX7_spoil_92
            · have i4 : has T.2.1 i = true := b2i_ne0 (by rw [← er73]; exact c_76)
              have hi := has_j i4 (by rw [hok.2.1.1]; omega)
              rw [hi.2] at hl
              refine lv_aload hx hb dX7_spoil_79 (lv_at hl 0 rfl) ?_
              refine lv_iload_n hx hb dX7_spoil_81 rfl (lv_at hl 4 rfl) ?_
              refine lv_iload hx hb dX7_spoil_82 (lv_at hl 5 rfl) ?_
              refine w_cVi (C := RX3) (As := [.int (nI (rj i)), .int x]) (rest := []) ⟨hx, hb, hml, hown, hts⟩ (c_X3_flip l (tok_t ht).sign htk.2.1 (by rw [hok.2.1.1]; omega) (j := rj i) hi.1 x) (cwV 2 hts gX7_spoil_X3_flip rfl rfl rfl (by decide +kernel) ⟨Nat.le_of_ble_eq_true rfl, Nat.le_of_ble_eq_true rfl⟩) (w_recv (ci := 3) hK hM (((tok_t ht)).sign).lt (((tok_t ht)).sign).k (by decide) rfl) hM hK hS rfl hl.1 rfl (lv_room (Nat.le_of_ble_eq_true rfl)) dX7_spoil_84 ⟨Nat.le_of_ble_eq_true rfl, Nat.le_of_ble_eq_true rfl⟩ (fun r84 V84 H locs hp84 hM hS => ?_)
              refine lv_goto (tgt := 92) hx hb dX7_spoil_87 (by decide) ?_
              have hpost : (fun v V' => v = (opSpoil σ t k i x).1 ∧ repC V' (opSpoil σ t k i x).2 ∧ frM V V') r84 V84 := by
                have hx := inR_j i3 (m := 0) (n := 255) rfl rfl (by omega) (by omega)
                have hq : opSpoil σ t k i x = (T.2.1.getD (rj i) 0 ^^^ x, sTok σ (rj t) (some (T.1, T.2.1.set (rj i) (T.2.1.getD (rj i) 0 ^^^ x), T.2.2))) := by simp only [opSpoil, hT, i2, i3, Bool.and_self, if_true, if_pos c_37, i4]
                rw [hq]; refine ⟨hp84.1, hC.tok ht (o := some (T.1, T.2.1.set (rj i) (T.2.1.getD (rj i) 0 ^^^ x), T.2.2)) ⟨by rw [hp84.2.2 _ (by omega) (by omega)]; exact hth, htk.1.otherR hp84.2.2 (by omega) (by omega) (by omega), hp84.2.1, by rw [hp84.2.2 _ (by omega) (by omega)]; exact htk.2.2.1, fun j hj => ?_⟩ (fun T2 h2 => ?_) (fun j a _ => hp84.2.2 j (by omega) (by omega)), fun j hj => hp84.2.2 j (by omega) (by omega)⟩
                · have hj2 : j < T.2.2.length := hj
                  have hLj := htk.2.2.2 j hj
                  exact ⟨hLj.1.otherR hp84.2.2 (by omega) (by omega) (by omega), hLj.2.otherR hp84.2.2 (by omega) (by omega) (by omega)⟩
                · cases h2; exact ⟨hok.1, ⟨by rw [List.length_set]; exact hok.2.1.1, hok.2.1.2.set (xor_ok (hok.2.1.2.gd _) (by rw [hx.2.2]; exact nI_pos' (by omega)))⟩, hok.2.2.1, hok.2.2.2⟩
              exact w_iret V84 hx hb hret hK hS hM (hpost) hlocks dX7_spoil_92
        · have i3 : inR x 0 255 = false := b2i_eq0 (by rw [← er27]; exact c_30)
          have ib : thr σ t = none ∨ ∃ T, thr σ t = some T ∧ (inR k 0 (nI T.2.2.length) && inR x 0 255) = false := by first | exact Or.inl hN | (right; exact ⟨T, hT, by rw [i3, Bool.and_false]⟩) | (right; exact ⟨T, hT, by simp only [inR]; grind⟩)
          refine lv_bipush (v := (-2)) hx hb dX7_spoil_33 (by decide) ?_
          have hpost : (fun v V' => v = (opSpoil σ t k i x).1 ∧ repC V' (opSpoil σ t k i x).2 ∧ frM V V') (-2) V := by
            have hq : opSpoil σ t k i x = (-2, σ) := by rcases ib with q | ⟨T9, q1, q2⟩; (simp [opSpoil, q]); (simp only [opSpoil, q1, q2]; rfl)
            rw [hq]; exact ⟨rfl, hC, fun _ _ => rfl⟩
          exact w_iret V hx hb hret hK hS hM (hpost) hlocks dX7_spoil_35
