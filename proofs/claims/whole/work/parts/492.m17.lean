-- needs: 44 450 451 456 460 462 464 466 469 475 490 491
set_option maxHeartbeats 4000000 in
set_option maxRecDepth 100000 in
theorem c_X8_wrong (l : Launch) {E : En} {V : Vt} (h0 : V 580 41 = 0) (w a : Int32) : CV l yX8_wrong wsX8_wrong 0 E V [.ref (E.1 + 580), .int w, .int a] (fun V' => V' = up2 (up2 V 580 41 w) 580 20 a) := by
  refine Met.ofW (cc := cX8_wrong) (maxL := 3) (ret := none) (by decide) rfl ?_
  intro p e s m args below meth c s₁ B hml hv
  obtain ⟨rfl, hM, hK⟩ := hv
  have hx := B.exec
  have hb := B.bytes
  have hret := B.returns
  have hts := atoms_spec (ws := wsX8_wrong) B.pre
  have hown : s.vm.findClass RX8 = some m.cls := findClass_of_methodNamed B.named
  have hlocks := B.notSynchronized
  have hsz : s.heap.size = E.1 + 610 := hM.1
  have hS : va_S (AE E) s.heap s.heap [] := va_S.rf
  have inw8 : ∀ w ∈ u_ws RX8 TX8 42, w ∈ wsX8_wrong := by decide +kernel
  have k237 := hts (.fieldLink RX8 237 "LimitTokensModel" "readFault" "I") (by decide +kernel)
  have k55 := hts (.fieldLink RX8 55 "LimitTokensModel" "place" "I") (by decide +kernel)
  have hl := lv_entry ([.ref (E.1 + 580), .int w, .int a]) (n := 3) (Nat.le_of_ble_eq_true rfl)
  rw [lg_entry_eq]
  generalize (lg_sl ([.ref (E.1 + 580), .int w, .int a]) ++ List.replicate (3 - (lg_sl ([.ref (E.1 + 580), .int w, .int a])).length) Slot.unset).toArray = ls at hl ⊢
  have hl : lv_has ls 3 [(0, .ref (E.1 + 580)), (1, .int w), (2, .int a)] := hl
  refine lv_aload_n hx hb dX8_wrong_0 rfl (lv_at hl 0 rfl) ?_
  refine w_gi 8 41 (T := TX8) (N := 42) hx hb hts inw8 hown hK.1 hM (by decide) (by decide) (by decide) (by decide) (by decide) rfl (by decide) k237 rfl dX8_wrong_1 ?_
  have q : (V 580 41 : Int32) = 0 := h0
  refine lv_eqi q ?_
  refine lv_if_ne (tgt := 17) hx hb dX8_wrong_4 (by decide) (fun c_4 => ?_) (fun c_4 => ?_)
  · exact absurd rfl c_4
  · have n_4 : 0 = 0 := (nEq (a := 0) (b := 0) rfl rfl (by omega) (by omega)).mp c_4
    refine lv_aload_n hx hb dX8_wrong_7 rfl (lv_at hl 0 rfl) ?_
    refine lv_iload_n hx hb dX8_wrong_8 rfl (lv_at hl 1 rfl) ?_
    refine w_pi 8 41 (T := TX8) (N := 42) hx hb hts inw8 tyX8 tyX8_ok nmX8 hown hK.1 hM hS (by decide) (by decide) (by decide) (by decide) (by decide) rfl (by decide) k237 rfl rfl rfl rfl dX8_wrong_9 (fun H locs hM hS => ?_)
    generalize hV9 : up2 V 580 41 w = V9 at hM
    refine lv_aload_n hx hb dX8_wrong_12 rfl (lv_at hl 0 rfl) ?_
    refine lv_iload_n hx hb dX8_wrong_13 rfl (lv_at hl 2 rfl) ?_
    refine w_pi 8 20 (T := TX8) (N := 42) hx hb hts inw8 tyX8 tyX8_ok nmX8 hown hK.1 hM hS (by decide) (by decide) (by decide) (by decide) (by decide) rfl (by decide) k55 rfl rfl rfl rfl dX8_wrong_14 (fun H locs hM hS => ?_)
    generalize hV14 : up2 V9 580 20 a = V14 at hM
    exact w_vret (free := AE E) V14 hx hb hret hK hS hM (by rw [← hV14, ← hV9]) hlocks dX8_wrong_17

set_option maxHeartbeats 4000000 in
set_option maxRecDepth 100000 in
theorem c_X8_next (l : Launch) {E : En} {V : Vt} {lt : List Int32} (hu : buf V 19 595 lt) (hlt : lt.length ≤ 1200) {x0 : RS} (hr : rdS V lt x0) : CI l yX8_next wsX8_next 1 E V [.ref (E.1 + 580)] (fun v V' => v = nxv lt x0 ∧ rdS V' lt (nxs lt x0) ∧ frN V V') := by
  refine Met.ofW (cc := cX8_next) (maxL := 1) (ret := (some .int)) (by decide) rfl ?_
  intro p e s m args below meth c s₁ B hml hv
  obtain ⟨rfl, hM, hK⟩ := hv
  have hx := B.exec
  have hb := B.bytes
  have hret := B.returns
  have hts := atoms_spec (ws := wsX8_next) B.pre
  have hown : s.vm.findClass RX8 = some m.cls := findClass_of_methodNamed B.named
  have hlocks := B.notSynchronized
  have hsz : s.heap.size = E.1 + 610 := hM.1
  have hS : va_S (AE E) s.heap s.heap [] := va_S.rf
  have inw8 : ∀ w ∈ u_ws RX8 TX8 42, w ∈ wsX8_next := by decide +kernel
  have k237 := hts (.fieldLink RX8 237 "LimitTokensModel" "readFault" "I") (by decide +kernel)
  have k240 := hts (.fieldLink RX8 240 "LimitTokensModel" "readAt" "I") (by decide +kernel)
  have k227 := hts (.fieldLink RX8 227 "LimitTokensModel" "tapeSize" "I") (by decide +kernel)
  have k52 := hts (.fieldLink RX8 52 "LimitTokensModel" "tape" "[I") (by decide +kernel)
  have hl := lv_entry ([.ref (E.1 + 580)]) (n := 1) (Nat.le_of_ble_eq_true rfl)
  rw [lg_entry_eq]
  generalize (lg_sl ([.ref (E.1 + 580)]) ++ List.replicate (1 - (lg_sl ([.ref (E.1 + 580)])).length) Slot.unset).toArray = ls at hl ⊢
  have hl : lv_has ls 1 [(0, .ref (E.1 + 580))] := hl
  refine lv_aload_n hx hb dX8_next_0 rfl (lv_at hl 0 rfl) ?_
  refine w_gi 8 41 (T := TX8) (N := 42) hx hb hts inw8 hown hK.1 hM (by decide) (by decide) (by decide) (by decide) (by decide) rfl (by decide) k237 rfl dX8_next_1 ?_
  refine lv_if_eq (tgt := 9) hx hb dX8_next_4 (by decide) (fun c_4 => ?_) (fun c_4 => ?_)
  · obtain ⟨p0, he, h40, hpl, h20⟩ := hr.z c_4
    refine lv_aload_n hx hb dX8_next_9 rfl (lv_at hl 0 rfl) ?_
    refine w_gi 8 40 (T := TX8) (N := 42) hx hb hts inw8 hown hK.1 hM (by decide) (by decide) (by decide) (by decide) (by decide) rfl (by decide) k240 rfl dX8_next_10 ?_
    have q : (V 580 40 : Int32) = nI p0 := h40
    refine lv_eqi q ?_
    refine lv_aload_n hx hb dX8_next_13 rfl (lv_at hl 0 rfl) ?_
    refine w_gi 8 19 (T := TX8) (N := 42) hx hb hts inw8 hown hK.1 hM (by decide) (by decide) (by decide) (by decide) (by decide) rfl (by decide) k227 rfl dX8_next_14 ?_
    have q : (V 580 19 : Int32) = nI lt.length := hu.1
    refine lv_eqi q ?_
    refine lv_icmp_ne (tgt := 31) hx hb dX8_next_17 (by decide) (fun c_17 => ?_) (fun c_17 => ?_)
    · have n_17 : ¬ p0 = lt.length := fun q9 => c_17 ((nEq (a := p0) (b := lt.length) rfl rfl (by omega) (by omega)).mpr q9)
      refine lv_aload_n hx hb dX8_next_31 rfl (lv_at hl 0 rfl) ?_
      refine lv_dup hx hb dX8_next_32 rfl ?_
      refine w_gi 8 40 (T := TX8) (N := 42) hx hb hts inw8 hown hK.1 hM (by decide) (by decide) (by decide) (by decide) (by decide) rfl (by decide) k240 rfl dX8_next_33 ?_
      have q : (V 580 40 : Int32) = nI p0 := h40
      refine lv_eqi q ?_
      refine lv_iconst (v := 1) hx hb dX8_next_36 (by decide) ?_
      refine lv_iadd hx hb dX8_next_37 ?_
      have q : ((nI p0) + 1 : Int32) = nI (p0 + 1) := (nAdd rfl rfl)
      refine lv_eqi q ?_
      refine w_pi 8 40 (T := TX8) (N := 42) hx hb hts inw8 tyX8 tyX8_ok nmX8 hown hK.1 hM hS (by decide) (by decide) (by decide) (by decide) (by decide) rfl (by decide) k240 rfl rfl rfl rfl dX8_next_38 (fun H locs hM hS => ?_)
      generalize hV38 : up2 V 580 40 (nI (p0 + 1)) = V38 at hM
      refine lv_aload_n hx hb dX8_next_41 rfl (lv_at hl 0 rfl) ?_
      refine w_gr 8 18 595 (T := TX8) (N := 42) hx hb hts inw8 hown hK.1 hM (by decide) (by decide) (by decide) (by decide) (by decide) rfl (by decide) k52 rfl dX8_next_42 ?_
      refine lv_aload_n hx hb dX8_next_45 rfl (lv_at hl 0 rfl) ?_
      refine w_gi 8 40 (T := TX8) (N := 42) hx hb hts inw8 hown hK.1 hM (by decide) (by decide) (by decide) (by decide) (by decide) rfl (by decide) k240 rfl dX8_next_46 ?_
      have q : (V38 580 40 : Int32) = nI (p0 + 1) := by rw [← hV38]; exact up2_s _ _ _ _
      refine lv_eqi q ?_
      refine lv_iconst (v := 1) hx hb dX8_next_49 (by decide) ?_
      refine lv_isub hx hb dX8_next_50 ?_
      have i_51 : ((nI (p0 + 1)) - 1 : Int32) = nI ((p0 + 1) - 1) := (nSub rfl rfl (by omega))
      refine w_ild (N := 1200) hx hb hK.1 hM (by decide) (by decide) (by decide) (by rw [i_51]; exact vp_in_nI (by omega) (by omega)) dX8_next_51 ?_
      have j_51 : ((nI (p0 + 1)) - 1).toNatClampNeg = (p0 + 1) - 1 := (congrArg Int32.toNatClampNeg i_51).trans (nI_clamp (by omega))
      have q : (V38 595 ((nI (p0 + 1)) - 1).toNatClampNeg : Int32) = V38 595 ((p0 + 1) - 1) := by rw [j_51]
      refine lv_eqi q ?_
      have q : (V38 595 ((p0 + 1) - 1) : Int32) = lt.getD p0 0 := by rw [Nat.add_sub_cancel, ← hV38, up2_k _ _ (by decide)]; exact hu.at (by omega)
      refine lv_eqi q ?_
      have hpost : (fun v V' => v = nxv lt x0 ∧ rdS V' lt (nxs lt x0) ∧ frN V V') (lt.getD p0 0) V38 := by
        refine ⟨by rw [he]; simp only [nxv, if_neg (show ¬ lt.length ≤ p0 by omega)], ?_, frN.up hV38 (by decide)⟩
        rw [he, show nxs lt (.inr p0) = .inr (p0 + 1) by simp only [nxs, if_neg (show ¬ lt.length ≤ p0 by omega)]]
        exact ⟨by rw [← hV38, up2_o _ _ (by decide)]; exact c_4, by rw [← hV38, up2_s], by omega, by rw [← hV38, up2_o _ _ (by decide)]; exact h20⟩
      exact w_iret V38 hx hb hret hK hS hM (hpost) hlocks dX8_next_52
    · have n_17 : p0 = lt.length := (nEq (a := p0) (b := lt.length) rfl rfl (by omega) (by omega)).mp c_17
      refine lv_aload_n hx hb dX8_next_20 rfl (lv_at hl 0 rfl) ?_
      refine lv_iconst (v := 1) hx hb dX8_next_21 (by decide) ?_
      refine lv_aload_n hx hb dX8_next_22 rfl (lv_at hl 0 rfl) ?_
      refine w_gi 8 19 (T := TX8) (N := 42) hx hb hts inw8 hown hK.1 hM (by decide) (by decide) (by decide) (by decide) (by decide) rfl (by decide) k227 rfl dX8_next_23 ?_
      have q : (V 580 19 : Int32) = nI lt.length := hu.1
      refine lv_eqi q ?_
      refine w_cVv (C := RX8) (As := [.int 1, .int (nI lt.length)]) (rest := []) ⟨hx, hb, hml, hown, hts⟩ (c_X8_wrong l c_4 1 (nI lt.length)) (cwV 2 hts gX8_next_X8_wrong rfl rfl rfl (by decide +kernel) ⟨Nat.le_of_ble_eq_true rfl, Nat.le_of_ble_eq_true rfl⟩) (w_recv (ci := 8) hK hM (by decide) (by decide) (by decide) rfl) hM hK hS rfl hl.1 rfl (lv_room (Nat.le_of_ble_eq_true rfl)) dX8_next_26 ⟨Nat.le_of_ble_eq_true rfl, Nat.le_of_ble_eq_true rfl⟩ (fun V26 H locs hp26 hM hS => ?_)
      refine lv_iconst (v := 0) hx hb dX8_next_29 (by decide) ?_
      have hpost : (fun v V' => v = nxv lt x0 ∧ rdS V' lt (nxs lt x0) ∧ frN V V') 0 V26 := by
        have h9 := rdS.wr (V1 := V) (l := lt) (ee := (1, p0)) hp26 rfl (by rw [n_17]) ⟨by simp, by simp⟩
        refine ⟨by rw [he]; simp only [nxv, if_pos (show lt.length ≤ p0 by omega)], ?_, h9.2⟩
        rw [he, show nxs lt (.inr p0) = .inl (1, p0) by simp only [nxs, if_pos (show lt.length ≤ p0 by omega)]]; exact h9.1
      exact w_iret V26 hx hb hret hK hS hM (hpost) hlocks dX8_next_30
  · obtain ⟨ee, he, -⟩ := hr.nz c_4
    refine lv_iconst (v := 0) hx hb dX8_next_7 (by decide) ?_
    have hpost : (fun v V' => v = nxv lt x0 ∧ rdS V' lt (nxs lt x0) ∧ frN V V') 0 V := by
      exact ⟨by rw [he]; rfl, by rw [he] at hr ⊢; exact hr, frN.rf⟩
    exact w_iret V hx hb hret hK hS hM (hpost) hlocks dX8_next_8

set_option maxHeartbeats 4000000 in
set_option maxRecDepth 100000 in
theorem c_X8_want (l : Launch) {E : En} {V : Vt} {lt : List Int32} (hu : buf V 19 595 lt) (hlt : lt.length ≤ 1200) {x0 : RS} (hr : rdS V lt x0) (b : Int32) : CV l yX8_want wsX8_want 2 E V [.ref (E.1 + 580), .int b] (fun V' => rdS V' lt (kS x0 (rMark lt b)) ∧ frN V V') := by
  refine Met.ofW (cc := cX8_want) (maxL := 3) (ret := none) (by decide) rfl ?_
  intro p e s m args below meth c s₁ B hml hv
  obtain ⟨rfl, hM, hK⟩ := hv
  have hx := B.exec
  have hb := B.bytes
  have hret := B.returns
  have hts := atoms_spec (ws := wsX8_want) B.pre
  have hown : s.vm.findClass RX8 = some m.cls := findClass_of_methodNamed B.named
  have hlocks := B.notSynchronized
  have hsz : s.heap.size = E.1 + 610 := hM.1
  have hS : va_S (AE E) s.heap s.heap [] := va_S.rf
  have inw8 : ∀ w ∈ u_ws RX8 TX8 42, w ∈ wsX8_want := by decide +kernel
  have k237 := hts (.fieldLink RX8 237 "LimitTokensModel" "readFault" "I") (by decide +kernel)
  have k240 := hts (.fieldLink RX8 240 "LimitTokensModel" "readAt" "I") (by decide +kernel)
  have hl := lv_entry ([.ref (E.1 + 580), .int b]) (n := 3) (Nat.le_of_ble_eq_true rfl)
  rw [lg_entry_eq]
  generalize (lg_sl ([.ref (E.1 + 580), .int b]) ++ List.replicate (3 - (lg_sl ([.ref (E.1 + 580), .int b])).length) Slot.unset).toArray = ls at hl ⊢
  have hl : lv_has ls 3 [(0, .ref (E.1 + 580)), (1, .int b)] := hl
  refine lv_aload_n hx hb dX8_want_0 rfl (lv_at hl 0 rfl) ?_
  refine w_cVi (C := RX8) (As := []) (rest := []) ⟨hx, hb, hml, hown, hts⟩ (c_X8_next l hu hlt hr) (cwV 0 hts gX8_want_X8_next rfl rfl rfl (by decide +kernel) ⟨Nat.le_of_ble_eq_true rfl, Nat.le_of_ble_eq_true rfl⟩) (w_recv (ci := 8) hK hM (by decide) (by decide) (by decide) rfl) hM hK hS rfl hl.1 rfl (lv_room (Nat.le_of_ble_eq_true rfl)) dX8_want_1 ⟨Nat.le_of_ble_eq_true rfl, Nat.le_of_ble_eq_true rfl⟩ (fun r1 V1 H locs hp1 hM hS => ?_)
  obtain ⟨ev1, rd1, fn1⟩ := hp1
  refine lv_istore_n (lv' := [(2, .int r1), (0, .ref (E.1 + 580)), (1, .int b)]) hx hb dX8_want_4 rfl hl (by decide) rfl (fun ls hl => ?_)
  refine lv_aload_n hx hb dX8_want_5 rfl (lv_at hl 1 rfl) ?_
  refine w_gi 8 41 (T := TX8) (N := 42) hx hb hts inw8 hown hK.1 hM (by decide) (by decide) (by decide) (by decide) (by decide) rfl (by decide) k237 rfl dX8_want_6 ?_
  refine lv_if_ne (tgt := 28) hx hb dX8_want_9 (by decide) (fun c_9 => ?_) (fun c_9 => ?_)
  · exact w_vret (free := AE E) V1 hx hb hret hK hS hM (⟨want_a rd1 c_9, fn1⟩) hlocks dX8_want_28
  · refine lv_iload_n hx hb dX8_want_12 rfl (lv_at hl 0 rfl) ?_
    refine lv_iload_n hx hb dX8_want_13 rfl (lv_at hl 2 rfl) ?_
    refine lv_icmp_eq (tgt := 28) hx hb dX8_want_14 (by decide) (fun c_14 => ?_) (fun c_14 => ?_)
    · exact w_vret (free := AE E) V1 hx hb hret hK hS hM (⟨want_b rd1 c_9 (ev1.symm.trans c_14), fn1⟩) hlocks dX8_want_28
    · obtain ⟨p0, hx0, h40, hk⟩ := want_c (b := b) rd1 c_9 (fun q => c_14 (ev1.trans q))
      refine lv_aload_n hx hb dX8_want_17 rfl (lv_at hl 1 rfl) ?_
      refine lv_iconst (v := 2) hx hb dX8_want_18 (by decide) ?_
      refine lv_aload_n hx hb dX8_want_19 rfl (lv_at hl 1 rfl) ?_
      refine w_gi 8 40 (T := TX8) (N := 42) hx hb hts inw8 hown hK.1 hM (by decide) (by decide) (by decide) (by decide) (by decide) rfl (by decide) k240 rfl dX8_want_20 ?_
      have q : (V1 580 40 : Int32) = nI (p0 + 1) := h40
      refine lv_eqi q ?_
      refine lv_iconst (v := 1) hx hb dX8_want_23 (by decide) ?_
      refine lv_isub hx hb dX8_want_24 ?_
      refine w_cVv (C := RX8) (As := [.int 2, .int ((nI (p0 + 1)) - 1)]) (rest := []) ⟨hx, hb, hml, hown, hts⟩ (c_X8_wrong l c_9 2 (nI (p0 + 1) - 1)) (cwV 2 hts gX8_want_X8_wrong rfl rfl rfl (by decide +kernel) ⟨Nat.le_of_ble_eq_true rfl, Nat.le_of_ble_eq_true rfl⟩) (w_recv (ci := 8) hK hM (by decide) (by decide) (by decide) rfl) hM hK hS rfl hl.1 rfl (lv_room (Nat.le_of_ble_eq_true rfl)) dX8_want_25 ⟨Nat.le_of_ble_eq_true rfl, Nat.le_of_ble_eq_true rfl⟩ (fun V25 H locs hp25 hM hS => ?_)
      have hpost : (fun V' => rdS V' lt (kS x0 (rMark lt b)) ∧ frN V V') V25 := by
        have h9 := rdS.wr (V1 := V) (l := lt) (ee := (2, p0)) hp25 rfl ((nSub (b := 1) rfl rfl (by omega)).trans (by rw [Nat.add_sub_cancel])) ⟨by simp, by simp⟩
        exact ⟨by rw [hk]; exact h9.1, fn1.trans h9.2⟩
      exact w_vret (free := AE E) V25 hx hb hret hK hS hM (hpost) hlocks dX8_want_28

set_option maxHeartbeats 4000000 in
set_option maxRecDepth 100000 in
theorem c_X8_readRow (l : Launch) {E : En} {V : Vt} {ca na : Nat} (ha : isA ca na) (hne : ca ≠ 595) {lt : List Int32} (hu : buf V 19 595 lt) (hlt : lt.length ≤ 1200) {x0 : RS} (hr : rdS V lt x0) (okl : okL lt) {b lo hi : Nat} (hbn : b + hi ≤ na) (hlo : lo ≤ 1000) (hhi : hi ≤ 1000) : CI l yX8_readRow wsX8_readRow 2 E V [.ref (E.1 + 580), .ref (E.1 + ca), .int (nI b), .int (nI lo), .int (nI hi)] (fun v V' => rdS V' lt (sS (rb lt lo hi x0)) ∧ (∀ bs p1, rb lt lo hi x0 = .inr (bs, p1) → v = nI bs.length ∧ seg V' ca b bs) ∧ frRw V V' ca b hi) := by
  refine Met.ofW (cc := cX8_readRow) (maxL := 7) (ret := (some .int)) (by decide) rfl ?_
  intro p e s m args below meth c s₁ B hml hv
  obtain ⟨rfl, hM, hK⟩ := hv
  have hx := B.exec
  have hb := B.bytes
  have hret := B.returns
  have hts := atoms_spec (ws := wsX8_readRow) B.pre
  have hown : s.vm.findClass RX8 = some m.cls := findClass_of_methodNamed B.named
  have hlocks := B.notSynchronized
  have hsz : s.heap.size = E.1 + 610 := hM.1
  have hS : va_S (AE E) s.heap s.heap [] := va_S.rf
  have inw8 : ∀ w ∈ u_ws RX8 TX8 42, w ∈ wsX8_readRow := by decide +kernel
  have k237 := hts (.fieldLink RX8 237 "LimitTokensModel" "readFault" "I") (by decide +kernel)
  have k240 := hts (.fieldLink RX8 240 "LimitTokensModel" "readAt" "I") (by decide +kernel)
  have hl := lv_entry ([.ref (E.1 + 580), .ref (E.1 + ca), .int (nI b), .int (nI lo), .int (nI hi)]) (n := 7) (Nat.le_of_ble_eq_true rfl)
  rw [lg_entry_eq]
  generalize (lg_sl ([.ref (E.1 + 580), .ref (E.1 + ca), .int (nI b), .int (nI lo), .int (nI hi)]) ++ List.replicate (7 - (lg_sl ([.ref (E.1 + 580), .ref (E.1 + ca), .int (nI b), .int (nI lo), .int (nI hi)])).length) Slot.unset).toArray = ls at hl ⊢
  have hl : lv_has ls 7 [(0, .ref (E.1 + 580)), (1, .ref (E.1 + ca)), (2, .int (nI b)), (3, .int (nI lo)), (4, .int (nI hi))] := hl
  have hna := ha.c
  refine lv_aload_n hx hb dX8_readRow_0 rfl (lv_at hl 0 rfl) ?_
  refine w_cVi (C := RX8) (As := []) (rest := []) ⟨hx, hb, hml, hown, hts⟩ (c_X8_next l hu hlt hr) (cwV 0 hts gX8_readRow_X8_next rfl rfl rfl (by decide +kernel) ⟨Nat.le_of_ble_eq_true rfl, Nat.le_of_ble_eq_true rfl⟩) (w_recv (ci := 8) hK hM (by decide) (by decide) (by decide) rfl) hM hK hS rfl hl.1 rfl (lv_room (Nat.le_of_ble_eq_true rfl)) dX8_readRow_1 ⟨Nat.le_of_ble_eq_true rfl, Nat.le_of_ble_eq_true rfl⟩ (fun r1 V1 H locs hp1 hM hS => ?_)
  obtain ⟨ev1, rd1, fn1⟩ := hp1
  refine lv_istore (lv' := [(5, .int r1), (0, .ref (E.1 + 580)), (1, .ref (E.1 + ca)), (2, .int (nI b)), (3, .int (nI lo)), (4, .int (nI hi))]) hx hb dX8_readRow_4 hl (by decide) rfl (fun ls hl => ?_)
  have join35 : ∀ (Vj : Vt) (H : Heap) (locs : List Loc) (ls : Array Slot) (y : RS) (hy : rdS Vj lt y) (hf : frN V Vj) (hd : rowSt Vj lt lo hi x0 r1 y 0 ca b), Wd E Vj H → va_S (AE E) s.heap H locs → lv_has ls 7 [(0, .ref (E.1 + 580)), (1, .ref (E.1 + ca)), (2, .int (nI b)), (5, .int r1)] → W p l e (headSpec wsX8_readRow (rmD 2)).room s m ([.ref (E.1 + 580), .ref (E.1 + ca), .int (nI b), .int (nI lo), .int (nI hi)] : List Value).toArray below meth c H locs 0 0 (MQ below (QI E (fun V' => Wd E V') (fun v V' => rdS V' lt (sS (rb lt lo hi x0)) ∧ (∀ bs p1, rb lt lo hi x0 = .inr (bs, p1) → v = nI bs.length ∧ seg V' ca b bs) ∧ frRw V V' ca b hi)) ([.ref (E.1 + 580), .ref (E.1 + ca), .int (nI b), .int (nI lo), .int (nI hi)] : List Value).toArray s 0 0 (AE E)) (F0 m 35 ls []) := by
    intro Vj H locs ls y hy hf hd hM hS hl
    refine lv_iconst (v := 0) hx hb dX8_readRow_35 (by decide) ?_
    refine lv_istore (lv' := [(6, .int 0), (0, .ref (E.1 + 580)), (1, .ref (E.1 + ca)), (2, .int (nI b)), (5, .int r1)]) hx hb dX8_readRow_36 hl (by decide) rfl (fun ls hl => ?_)
    have loop38 : ∀ (fu : Nat) (Vw : Vt) (H : Heap) (locs : List Loc) (ls : Array Slot) (j : Nat) (y : RS) (hy : rdS Vw lt y) (hf : frRw V Vw ca b hi) (hd : rowSt Vw lt lo hi x0 r1 y j ca b) (hj : j ≤ hi), hi - j < fu → Wd E Vw H → va_S (AE E) s.heap H locs → lv_has ls 7 [(0, .ref (E.1 + 580)), (1, .ref (E.1 + ca)), (2, .int (nI b)), (5, .int r1), (6, .int (nI j))] → W p l e (headSpec wsX8_readRow (rmD 2)).room s m ([.ref (E.1 + 580), .ref (E.1 + ca), .int (nI b), .int (nI lo), .int (nI hi)] : List Value).toArray below meth c H locs 0 0 (MQ below (QI E (fun V' => Wd E V') (fun v V' => rdS V' lt (sS (rb lt lo hi x0)) ∧ (∀ bs p1, rb lt lo hi x0 = .inr (bs, p1) → v = nI bs.length ∧ seg V' ca b bs) ∧ frRw V V' ca b hi)) ([.ref (E.1 + 580), .ref (E.1 + ca), .int (nI b), .int (nI lo), .int (nI hi)] : List Value).toArray s 0 0 (AE E)) (F0 m 38 ls []) := by
      intro fu
      induction fu with
      | zero => intros; omega
      | succ fu ih38 =>
        intro Vw H locs ls j y hy hf hd hj hfu hM hS hl
        refine lv_iload hx hb dX8_readRow_38 (lv_at hl 4 rfl) ?_
        refine lv_iload hx hb dX8_readRow_40 (lv_at hl 3 rfl) ?_
        refine lv_icmp_ge (tgt := 68) hx hb dX8_readRow_42 (by decide) (fun c_42 => ?_) (fun c_42 => ?_)
        · refine lv_iload hx hb dX8_readRow_68 (lv_at hl 3 rfl) ?_
          have hpost : (fun v V' => rdS V' lt (sS (rb lt lo hi x0)) ∧ (∀ bs p1, rb lt lo hi x0 = .inr (bs, p1) → v = nI bs.length ∧ seg V' ca b bs) ∧ frRw V V' ca b hi) r1 Vw := by
            have h9 := hd.e (by omega) (by omega) hy (Or.inl c_42)
            exact ⟨h9.1, h9.2, hf⟩
          exact w_iret Vw hx hb hret hK hS hM (hpost) hlocks dX8_readRow_70
        · refine lv_aload_n hx hb dX8_readRow_45 rfl (lv_at hl 0 rfl) ?_
          refine w_gi 8 41 (T := TX8) (N := 42) hx hb hts inw8 hown hK.1 hM (by decide) (by decide) (by decide) (by decide) (by decide) rfl (by decide) k237 rfl dX8_readRow_46 ?_
          refine lv_if_ne (tgt := 68) hx hb dX8_readRow_49 (by decide) (fun c_49 => ?_) (fun c_49 => ?_)
          · refine lv_iload hx hb dX8_readRow_68 (lv_at hl 3 rfl) ?_
            have hpost : (fun v V' => rdS V' lt (sS (rb lt lo hi x0)) ∧ (∀ bs p1, rb lt lo hi x0 = .inr (bs, p1) → v = nI bs.length ∧ seg V' ca b bs) ∧ frRw V V' ca b hi) r1 Vw := by
              have h9 := hd.e (by omega) (by omega) hy (Or.inr c_49)
              exact ⟨h9.1, h9.2, hf⟩
            exact w_iret Vw hx hb hret hK hS hM (hpost) hlocks dX8_readRow_70
          · obtain ⟨p1, hyp, -⟩ := hy.z c_49
            obtain ⟨p0, n, hxp, hp0, hp1, hg, hrn, ⟨hn1, hn2⟩, hjn, hpl, hsg⟩ := hd.2 p1 hyp
            have hjn2 : j < n := by by_cases q : j < n; (exact q); (exfalso; apply c_42; rw [hrn]; exact (nI_leI (by omega) (by omega)).mpr (by omega))
            refine lv_aload_n hx hb dX8_readRow_52 rfl (lv_at hl 1 rfl) ?_
            refine lv_iload_n hx hb dX8_readRow_53 rfl (lv_at hl 2 rfl) ?_
            refine lv_iload hx hb dX8_readRow_54 (lv_at hl 4 rfl) ?_
            refine lv_iadd hx hb dX8_readRow_56 ?_
            have q : ((nI b) + (nI j) : Int32) = nI (b + j) := (nAdd rfl rfl)
            refine lv_eqi q ?_
            refine lv_aload_n hx hb dX8_readRow_57 rfl (lv_at hl 0 rfl) ?_
            refine w_cVi (C := RX8) (As := []) (rest := [.int (nI (b + j)), .ref (E.1 + ca)]) ⟨hx, hb, hml, hown, hts⟩ (c_X8_next l (hf.bf hu hne) hlt hy) (cwV 0 hts gX8_readRow_X8_next rfl rfl rfl (by decide +kernel) ⟨Nat.le_of_ble_eq_true rfl, Nat.le_of_ble_eq_true rfl⟩) (w_recv (ci := 8) hK hM (by decide) (by decide) (by decide) rfl) hM hK hS rfl hl.1 rfl (lv_room (Nat.le_of_ble_eq_true rfl)) dX8_readRow_58 ⟨Nat.le_of_ble_eq_true rfl, Nat.le_of_ble_eq_true rfl⟩ (fun r58 V58 H locs hp58 hM hS => ?_)
            obtain ⟨ev58, rd58, fn58⟩ := hp58
            have i_61 : (nI (b + j) : Int32) = nI (b + j) := rfl
            have j_61 : (nI (b + j)).toNatClampNeg = b + j := (congrArg Int32.toNatClampNeg i_61).trans (nI_clamp (by omega))
            refine w_ist (N := na) hx hb hK.1 hM hS ha.lt ha.k ha.n (by rw [i_61]; exact vp_in_nI (by omega) (by omega)) dX8_readRow_61 (fun H locs hM hS => ?_)
            rw [j_61] at hM
            generalize hV61 : up2 V58 ca (b + j) r58 = V61 at hM
            obtain ⟨x6_62, ex6_62⟩ : ∃ y : Int32, y = (nI j) + 1 := ⟨_, rfl⟩
            refine lv_iinc (v := x6_62) (lv' := [(6, .int x6_62), (0, .ref (E.1 + 580)), (1, .ref (E.1 + ca)), (2, .int (nI b)), (5, .int r1)]) hx hb dX8_readRow_62 hl (k := 4) rfl (by rw [ex6_62]; rfl) (by decide) rfl (fun ls hl => ?_)
            refine lv_goto (tgt := 38) hx hb dX8_readRow_65 (by decide) ?_
            rw [show x6_62 = nI (j + 1) from (ex6_62.trans (nAdd rfl rfl))] at hl
            exact ih38 V61 _ _ _ (j + 1) (nxs lt y) (rd58.fr (fun z _ => by rw [← hV61, up2_k _ _ (Ne.symm ha.ne)])) ((frN.rw hf fn58 ha.ne).st hV61 (by omega) ha.ne) (by rw [hyp] at hd ev58 ⊢; exact hd.s (by omega) (by omega) hrn hjn2 (by omega) (fun z hz => by rw [← hV61, up2_o _ _ (by omega), fn58.1 ca ha.ne]) (by rw [← hV61, up2_s]; exact ev58)) (by omega) (by omega) hM hS (lv_sub hl [1, 2, 3, 4, 0] rfl)
    exact loop38 _ Vj _ _ _ 0 _ (hy) (hf.rw0 ha.ne) (hd) (Nat.zero_le _) (Nat.lt_succ_self _) hM hS (lv_sub hl [1, 2, 3, 4, 0] rfl)
  refine lv_aload_n hx hb dX8_readRow_6 rfl (lv_at hl 1 rfl) ?_
  refine w_gi 8 41 (T := TX8) (N := 42) hx hb hts inw8 hown hK.1 hM (by decide) (by decide) (by decide) (by decide) (by decide) rfl (by decide) k237 rfl dX8_readRow_7 ?_
  refine lv_if_ne (tgt := 35) hx hb dX8_readRow_10 (by decide) (fun c_10 => ?_) (fun c_10 => ?_)
  · obtain ⟨ee, he1, he2⟩ := rb_n (lo := lo) (hi := hi) rd1 c_10
    exact join35 V1 _ _ _ (.inl ee) (by rw [← he1]; exact rd1) fn1 (rowSt.f he2) hM hS (lv_sub hl [1, 2, 3, 0] rfl)
  · refine lv_iload hx hb dX8_readRow_13 (lv_at hl 0 rfl) ?_
    refine lv_iload_n hx hb dX8_readRow_15 rfl (lv_at hl 4 rfl) ?_
    refine lv_iload hx hb dX8_readRow_16 (lv_at hl 5 rfl) ?_
    refine w_cSi (As := [.int r1, .int (nI lo), .int (nI hi)]) (rest := []) ⟨hx, hb, hml, hown, hts⟩ (c_X8_within l r1 (nI lo) (nI hi)) (va_cwS 3 hts gX8_readRow_X8_within rfl rfl rfl (by decide +kernel) ⟨Nat.le_of_ble_eq_true rfl, Nat.le_of_ble_eq_true rfl⟩) hM hK hS rfl hl.1 rfl (lv_room (Nat.le_of_ble_eq_true rfl)) dX8_readRow_18 ⟨Nat.le_of_ble_eq_true rfl, Nat.le_of_ble_eq_true rfl⟩ (fun r18 V18 H locs hp18 hM hS => ?_)
    obtain ⟨er18, eV⟩ := hp18
    rw [eV] at hM; clear eV
    refine lv_if_ne (tgt := 35) hx hb dX8_readRow_21 (by decide) (fun c_21 => ?_) (fun c_21 => ?_)
    · have i21 : inR r1 (nI lo) (nI hi) = true := b2i_ne0 (by rw [← er18]; exact c_21)
      exact join35 V1 _ _ _ (nxs lt x0) rd1 fn1 (by rw [ev1]; exact rowSt.i okl (by omega) (by omega) rd1 c_10 (by rw [← ev1]; exact i21)) hM hS (lv_sub hl [1, 2, 3, 0] rfl)
    · have i21 : inR r1 (nI lo) (nI hi) = false := b2i_eq0 (er18.symm.trans c_21)
      obtain ⟨p0, h40, he2⟩ := rb_3 (lo := lo) (hi := hi) rd1 c_10 (by rw [← ev1]; exact i21)
      refine lv_aload_n hx hb dX8_readRow_24 rfl (lv_at hl 1 rfl) ?_
      refine lv_iconst (v := 3) hx hb dX8_readRow_25 (by decide) ?_
      refine lv_aload_n hx hb dX8_readRow_26 rfl (lv_at hl 1 rfl) ?_
      refine w_gi 8 40 (T := TX8) (N := 42) hx hb hts inw8 hown hK.1 hM (by decide) (by decide) (by decide) (by decide) (by decide) rfl (by decide) k240 rfl dX8_readRow_27 ?_
      have q : (V1 580 40 : Int32) = nI (p0 + 1) := h40
      refine lv_eqi q ?_
      refine lv_iconst (v := 1) hx hb dX8_readRow_30 (by decide) ?_
      refine lv_isub hx hb dX8_readRow_31 ?_
      refine w_cVv (C := RX8) (As := [.int 3, .int ((nI (p0 + 1)) - 1)]) (rest := []) ⟨hx, hb, hml, hown, hts⟩ (c_X8_wrong l c_10 3 (nI (p0 + 1) - 1)) (cwV 2 hts gX8_readRow_X8_wrong rfl rfl rfl (by decide +kernel) ⟨Nat.le_of_ble_eq_true rfl, Nat.le_of_ble_eq_true rfl⟩) (w_recv (ci := 8) hK hM (by decide) (by decide) (by decide) rfl) hM hK hS rfl hl.1 rfl (lv_room (Nat.le_of_ble_eq_true rfl)) dX8_readRow_32 ⟨Nat.le_of_ble_eq_true rfl, Nat.le_of_ble_eq_true rfl⟩ (fun V32 H locs hp32 hM hS => ?_)
      have h9 := rdS.wr (V1 := V) (l := lt) (ee := (3, p0)) hp32 rfl ((nSub (b := 1) rfl rfl (by omega)).trans (by rw [Nat.add_sub_cancel])) ⟨by simp, by simp⟩
      exact join35 V32 _ _ _ (.inl (3, p0)) h9.1 (fn1.trans h9.2) (rowSt.f he2) hM hS (lv_sub hl [1, 2, 3, 0] rfl)
