-- needs: 44 450 451 452 453 454 455 456 457 460 461 462
set_option maxHeartbeats 4000000 in
set_option maxRecDepth 100000 in
theorem c_X8_isToken (l : Launch) {E : En} {V : Vt} {σ : St} (cT : mTok V σ) (t : Int32) : CI l yX8_isToken wsX8_isToken 2 E V [.ref (E.1 + 580), .int t] (fun v V' => v = b2i (thr σ t).isSome ∧ V' = V) := by
  refine Met.ofW (cc := cX8_isToken) (maxL := 2) (ret := (some .boolean)) (by decide) rfl ?_
  intro p e s m args below meth c s₁ B hml hv
  obtain ⟨rfl, hM, hK⟩ := hv
  have hx := B.exec
  have hb := B.bytes
  have hret := B.returns
  have hts := atoms_spec (ws := wsX8_isToken) B.pre
  have hown : s.vm.findClass RX8 = some m.cls := findClass_of_methodNamed B.named
  have hlocks := B.notSynchronized
  have hsz : s.heap.size = E.1 + 610 := hM.1
  have hS : va_S (AE E) s.heap s.heap [] := va_S.rf
  have inw8 : ∀ w ∈ u_ws RX8 TX8 42, w ∈ wsX8_isToken := by decide +kernel
  have k59 := hts (.fieldLink RX8 59 "LimitTokensModel" "there" "[Z") (by decide +kernel)
  have hl := lv_entry ([.ref (E.1 + 580), .int t]) (n := 2) (Nat.le_of_ble_eq_true rfl)
  rw [lg_entry_eq]
  generalize (lg_sl ([.ref (E.1 + 580), .int t]) ++ List.replicate (2 - (lg_sl ([.ref (E.1 + 580), .int t])).length) Slot.unset).toArray = ls at hl ⊢
  have hl : lv_has ls 2 [(0, .ref (E.1 + 580)), (1, .int t)] := hl
  refine lv_iload_n hx hb dX8_isToken_0 rfl (lv_at hl 1 rfl) ?_
  refine w_cSi (As := [.int t]) (rest := []) ⟨hx, hb, hml, hown, hts⟩ (c_X8_is l t) (va_cwS 1 hts gX8_isToken_X8_is rfl rfl rfl (by decide +kernel) ⟨Nat.le_of_ble_eq_true rfl, Nat.le_of_ble_eq_true rfl⟩) hM hK hS rfl hl.1 rfl (lv_room (Nat.le_of_ble_eq_true rfl)) dX8_isToken_1 ⟨Nat.le_of_ble_eq_true rfl, Nat.le_of_ble_eq_true rfl⟩ (fun r1 V1 H locs hp1 hM hS => ?_)
  obtain ⟨er1, eV⟩ := hp1
  rw [eV] at hM; clear eV
  refine lv_if_eq (tgt := 20) hx hb dX8_isToken_4 (by decide) (fun c_4 => ?_) (fun c_4 => ?_)
  · have i1 : in8 t = false := b2i_eq0 (by rw [← er1]; exact c_4)
    refine lv_iconst (v := 0) hx hb dX8_isToken_20 (by decide) ?_
    exact w_zret V hx hb hret hK hS hM (⟨by first | (rw [thr, if_pos i1, j1]; rfl) | (rw [thr, i1]; rfl), rfl⟩) (rfl) hlocks dX8_isToken_21
  · have i1 : in8 t = true := b2i_ne0 (by rw [← er1]; exact c_4)
    obtain ⟨h8t, ent⟩ := in8_r i1
    refine lv_aload_n hx hb dX8_isToken_7 rfl (lv_at hl 0 rfl) ?_
    refine w_gr 8 21 596 (T := TX8) (N := 42) hx hb hts inw8 hown hK.1 hM (by decide) (by decide) (by decide) (by decide) (by decide) rfl (by decide) k59 rfl dX8_isToken_8 ?_
    refine lv_iload_n hx hb dX8_isToken_11 rfl (lv_at hl 1 rfl) ?_
    have i_12 : (t : Int32) = nI (rj t) := ent
    refine w_zld (N := 9) hx hb hK.1 hM (by decide) (by decide) (by decide) (by rw [i_12]; exact vp_in_nI (by omega) (by omega)) dX8_isToken_12 ?_
    have j_12 : t.toNatClampNeg = rj t := (congrArg Int32.toNatClampNeg i_12).trans (nI_clamp (by omega))
    have q : (V 596 t.toNatClampNeg : Int32) = V 596 (rj t) := by rw [j_12]
    refine lv_eqi q ?_
    have q : (V 596 (rj t) : Int32) = b2i (σ.2.1 (rj t)).isSome := (cT _ h8t).b
    refine lv_eqi q ?_
    refine lv_if_eq (tgt := 20) hx hb dX8_isToken_13 (by decide) (fun c_13 => ?_) (fun c_13 => ?_)
    · have j1 : (σ.2.1 (rj t)).isSome = false := b2i_eq0 c_13
      refine lv_iconst (v := 0) hx hb dX8_isToken_20 (by decide) ?_
      exact w_zret V hx hb hret hK hS hM (⟨by first | (rw [thr, if_pos i1, j1]; rfl) | (rw [thr, i1]; rfl), rfl⟩) (rfl) hlocks dX8_isToken_21
    · have j1 : (σ.2.1 (rj t)).isSome = true := b2i_ne0 c_13
      refine lv_iconst (v := 1) hx hb dX8_isToken_16 (by decide) ?_
      refine lv_goto (tgt := 21) hx hb dX8_isToken_17 (by decide) ?_
      exact w_zret V hx hb hret hK hS hM (⟨by first | (rw [thr, if_pos i1, j1]; rfl) | (rw [thr, i1]; rfl), rfl⟩) (rfl) hlocks dX8_isToken_21

set_option maxHeartbeats 4000000 in
set_option maxRecDepth 100000 in
theorem c_X8_isText (l : Launch) {E : En} {V : Vt} {σ : St} (cR : mReg V σ) (oR : oReg σ) (r : Int32) (i1 : in8 r = true) : CI l yX8_isText wsX8_isText 1 E V [.ref (E.1 + 580), .int r] (fun v V' => v = b2i (okW1 (σ.1 (rj r))) ∧ V' = V) := by
  refine Met.ofW (cc := cX8_isText) (maxL := 2) (ret := (some .boolean)) (by decide) rfl ?_
  intro p e s m args below meth c s₁ B hml hv
  obtain ⟨rfl, hM, hK⟩ := hv
  have hx := B.exec
  have hb := B.bytes
  have hret := B.returns
  have hts := atoms_spec (ws := wsX8_isText) B.pre
  have hown : s.vm.findClass RX8 = some m.cls := findClass_of_methodNamed B.named
  have hlocks := B.notSynchronized
  have hsz : s.heap.size = E.1 + 610 := hM.1
  have hS : va_S (AE E) s.heap s.heap [] := va_S.rf
  have inw8 : ∀ w ∈ u_ws RX8 TX8 42, w ∈ wsX8_isText := by decide +kernel
  have k49 := hts (.fieldLink RX8 49 "LimitTokensModel" "registerSize" "[I") (by decide +kernel)
  have hl := lv_entry ([.ref (E.1 + 580), .int r]) (n := 2) (Nat.le_of_ble_eq_true rfl)
  rw [lg_entry_eq]
  generalize (lg_sl ([.ref (E.1 + 580), .int r]) ++ List.replicate (2 - (lg_sl ([.ref (E.1 + 580), .int r])).length) Slot.unset).toArray = ls at hl ⊢
  have hl : lv_has ls 2 [(0, .ref (E.1 + 580)), (1, .int r)] := hl
  have h8r := (in8_r i1).1
  have olr := (oR _ h8r).1
  refine lv_aload_n hx hb dX8_isText_0 rfl (lv_at hl 0 rfl) ?_
  refine w_gr 8 17 594 (T := TX8) (N := 42) hx hb hts inw8 hown hK.1 hM (by decide) (by decide) (by decide) (by decide) (by decide) rfl (by decide) k49 rfl dX8_isText_1 ?_
  refine lv_iload_n hx hb dX8_isText_4 rfl (lv_at hl 1 rfl) ?_
  have i_5 : (r : Int32) = nI (rj r) := (in8_r i1).2
  refine w_ild (N := 8) hx hb hK.1 hM (by decide) (by decide) (by decide) (by rw [i_5]; exact vp_in_nI (by omega) (by omega)) dX8_isText_5 ?_
  have j_5 : r.toNatClampNeg = rj r := (congrArg Int32.toNatClampNeg i_5).trans (nI_clamp (by omega))
  have q : (V 594 r.toNatClampNeg : Int32) = V 594 (rj r) := by rw [j_5]
  refine lv_eqi q ?_
  have q : (V 594 (rj r) : Int32) = nI (σ.1 (rj r)).length := (cR _ h8r).1
  refine lv_eqi q ?_
  refine lv_iconst (v := 1) hx hb dX8_isText_6 (by decide) ?_
  refine lv_bipush (v := 60) hx hb dX8_isText_7 (by decide) ?_
  refine w_cSi (As := [.int (nI (σ.1 (rj r)).length), .int 1, .int 60]) (rest := []) ⟨hx, hb, hml, hown, hts⟩ (c_X8_within l (nI (σ.1 (rj r)).length) 1 60) (va_cwS 3 hts gX8_isText_X8_within rfl rfl rfl (by decide +kernel) ⟨Nat.le_of_ble_eq_true rfl, Nat.le_of_ble_eq_true rfl⟩) hM hK hS rfl hl.1 rfl (lv_room (Nat.le_of_ble_eq_true rfl)) dX8_isText_9 ⟨Nat.le_of_ble_eq_true rfl, Nat.le_of_ble_eq_true rfl⟩ (fun r9 V9 H locs hp9 hM hS => ?_)
  obtain ⟨er9, eV⟩ := hp9
  rw [eV] at hM; clear eV
  exact w_zret V hx hb hret hK hS hM (⟨by rw [er9, okW1_m (by omega)], rfl⟩) (by rw [er9]; exact b2i_nar _) hlocks dX8_isText_12

set_option maxHeartbeats 4000000 in
set_option maxRecDepth 100000 in
theorem c_X8_clear (l : Launch) {E : En} {V : Vt} {σ : St} (hC : repM V σ) (r : Int32) : CI l yX8_clear wsX8_clear 2 E V [.ref (E.1 + 580), .int r] (fun v V' => v = (opClear σ r).1 ∧ repM V' (opClear σ r).2 ∧ frC V V') := by
  refine Met.ofW (cc := cX8_clear) (maxL := 3) (ret := (some .int)) (by decide) rfl ?_
  intro p e s m args below meth c s₁ B hml hv
  obtain ⟨rfl, hM, hK⟩ := hv
  have hx := B.exec
  have hb := B.bytes
  have hret := B.returns
  have hts := atoms_spec (ws := wsX8_clear) B.pre
  have hown : s.vm.findClass RX8 = some m.cls := findClass_of_methodNamed B.named
  have hlocks := B.notSynchronized
  have hsz : s.heap.size = E.1 + 610 := hM.1
  have hS : va_S (AE E) s.heap s.heap [] := va_S.rf
  have inw8 : ∀ w ∈ u_ws RX8 TX8 42, w ∈ wsX8_clear := by decide +kernel
  have k112 := hts (.fieldLink RX8 112 "LimitTokensModel" "thrown" "I") (by decide +kernel)
  have k49 := hts (.fieldLink RX8 49 "LimitTokensModel" "registerSize" "[I") (by decide +kernel)
  have hl := lv_entry ([.ref (E.1 + 580), .int r]) (n := 3) (Nat.le_of_ble_eq_true rfl)
  rw [lg_entry_eq]
  generalize (lg_sl ([.ref (E.1 + 580), .int r]) ++ List.replicate (3 - (lg_sl ([.ref (E.1 + 580), .int r])).length) Slot.unset).toArray = ls at hl ⊢
  have hl : lv_has ls 3 [(0, .ref (E.1 + 580)), (1, .int r)] := hl
  refine lv_aload_n hx hb dX8_clear_0 rfl (lv_at hl 0 rfl) ?_
  refine lv_iconst (v := 0) hx hb dX8_clear_1 (by decide) ?_
  refine w_pi 8 0 (T := TX8) (N := 42) hx hb hts inw8 tyX8 tyX8_ok nmX8 hown hK.1 hM hS (by decide) (by decide) (by decide) (by decide) (by decide) rfl (by decide) k112 rfl rfl rfl rfl dX8_clear_2 (fun H locs hM hS => ?_)
  generalize hV2 : up2 V 580 0 0 = V2 at hM
  have hC2 := hC.fr (pFr.th hV2).1
  have fC2 := (pFr.th hV2).2
  obtain ⟨⟨oR, oT, oP⟩, cN, cR, cT, cP, cQ, cF, cL⟩ := id hC2
  refine lv_iload_n hx hb dX8_clear_5 rfl (lv_at hl 1 rfl) ?_
  refine w_cSi (As := [.int r]) (rest := []) ⟨hx, hb, hml, hown, hts⟩ (c_X8_is l r) (va_cwS 1 hts gX8_clear_X8_is rfl rfl rfl (by decide +kernel) ⟨Nat.le_of_ble_eq_true rfl, Nat.le_of_ble_eq_true rfl⟩) hM hK hS rfl hl.1 rfl (lv_room (Nat.le_of_ble_eq_true rfl)) dX8_clear_6 ⟨Nat.le_of_ble_eq_true rfl, Nat.le_of_ble_eq_true rfl⟩ (fun r6 V6 H locs hp6 hM hS => ?_)
  obtain ⟨er6, eV⟩ := hp6
  rw [eV] at hM; clear eV
  refine lv_if_ne (tgt := 15) hx hb dX8_clear_9 (by decide) (fun c_9 => ?_) (fun c_9 => ?_)
  · have i1 : in8 r = true := b2i_ne0 (by rw [← er6]; exact c_9)
    obtain ⟨h8r, enr⟩ := in8_r i1
    refine lv_aload_n hx hb dX8_clear_15 rfl (lv_at hl 0 rfl) ?_
    refine w_gr 8 17 594 (T := TX8) (N := 42) hx hb hts inw8 hown hK.1 hM (by decide) (by decide) (by decide) (by decide) (by decide) rfl (by decide) k49 rfl dX8_clear_16 ?_
    refine lv_iload_n hx hb dX8_clear_19 rfl (lv_at hl 1 rfl) ?_
    have i_20 : (r : Int32) = nI (rj r) := enr
    refine w_ild (N := 8) hx hb hK.1 hM (by decide) (by decide) (by decide) (by rw [i_20]; exact vp_in_nI (by omega) (by omega)) dX8_clear_20 ?_
    have j_20 : r.toNatClampNeg = rj r := (congrArg Int32.toNatClampNeg i_20).trans (nI_clamp (by omega))
    have q : (V2 594 r.toNatClampNeg : Int32) = V2 594 (rj r) := by rw [j_20]
    refine lv_eqi q ?_
    have q : (V2 594 (rj r) : Int32) = nI (σ.1 (rj r)).length := (cR _ h8r).1
    refine lv_eqi q ?_
    refine lv_topi (fun x2_21 ex2_21 => ?_)
    refine lv_istore_n (lv' := [(2, .int x2_21), (0, .ref (E.1 + 580)), (1, .int r)]) hx hb dX8_clear_21 rfl hl (by decide) rfl (fun ls hl => ?_)
    refine lv_aload_n hx hb dX8_clear_22 rfl (lv_at hl 1 rfl) ?_
    refine w_gr 8 17 594 (T := TX8) (N := 42) hx hb hts inw8 hown hK.1 hM (by decide) (by decide) (by decide) (by decide) (by decide) rfl (by decide) k49 rfl dX8_clear_23 ?_
    refine lv_iload_n hx hb dX8_clear_26 rfl (lv_at hl 2 rfl) ?_
    refine lv_iconst (v := 0) hx hb dX8_clear_27 (by decide) ?_
    have i_28 : (r : Int32) = nI (rj r) := enr
    have j_28 : r.toNatClampNeg = rj r := (congrArg Int32.toNatClampNeg i_28).trans (nI_clamp (by omega))
    refine w_ist (N := 8) hx hb hK.1 hM hS (by decide) (by decide) (by decide) (by rw [i_28]; exact vp_in_nI (by omega) (by omega)) dX8_clear_28 (fun H locs hM hS => ?_)
    rw [j_28] at hM
    generalize hV28 : up2 V2 594 (rj r) 0 = V28 at hM
    refine lv_iload_n hx hb dX8_clear_29 rfl (lv_at hl 0 rfl) ?_
    have hpost : (fun v V' => v = (opClear σ r).1 ∧ repM V' (opClear σ r).2 ∧ frC V V') x2_21 V28 := by
      have hq : opClear σ r = (nI (σ.1 (rj r)).length, sReg σ (rj r) []) := by simp [opClear, i1]
      have hk : ∀ k, k ≠ 594 → V28 k = V2 k := fun k a => by rw [← hV28, up2_k _ _ a]
      rw [hq]; exact ⟨ex2_21, hC2.reg h8r (by rw [← hV28, up2_s]; rfl) (seg.nil _ _ _) (by simp) (fun x hx => by cases hx) (fun i a => by rw [← hV28, up2_o _ _ a]) (fun i a => by rw [hk 593 (by decide)]) (fun k a => hk k (by omega)) (fun i a => by rw [hk 580 (by decide)]), fC2.up hV28 (by decide)⟩
    exact w_iret V28 hx hb hret hK hS hM (hpost) hlocks dX8_clear_30
  · have i1 : in8 r = false := b2i_eq0 (by rw [← er6]; exact c_9)
    refine lv_bipush (v := (-2)) hx hb dX8_clear_12 (by decide) ?_
    have hpost : (fun v V' => v = (opClear σ r).1 ∧ repM V' (opClear σ r).2 ∧ frC V V') (-2) V2 := by
      have hq : opClear σ r = (-2, σ) := by first | (simp [opClear, i1]; done)
      rw [hq]; exact ⟨rfl, hC2, fC2⟩
    exact w_iret V2 hx hb hret hK hS hM (hpost) hlocks dX8_clear_14

set_option maxHeartbeats 4000000 in
set_option maxRecDepth 100000 in
theorem c_X8_at (l : Launch) {E : En} {V : Vt} {σ : St} (hC : repM V σ) (r i : Int32) : CI l yX8_at wsX8_at 2 E V [.ref (E.1 + 580), .int r, .int i] (fun v V' => v = (opAt σ r i).1 ∧ repM V' (opAt σ r i).2 ∧ frC V V') := by
  refine Met.ofW (cc := cX8_at) (maxL := 3) (ret := (some .int)) (by decide) rfl ?_
  intro p e s m args below meth c s₁ B hml hv
  obtain ⟨rfl, hM, hK⟩ := hv
  have hx := B.exec
  have hb := B.bytes
  have hret := B.returns
  have hts := atoms_spec (ws := wsX8_at) B.pre
  have hown : s.vm.findClass RX8 = some m.cls := findClass_of_methodNamed B.named
  have hlocks := B.notSynchronized
  have hsz : s.heap.size = E.1 + 610 := hM.1
  have hS : va_S (AE E) s.heap s.heap [] := va_S.rf
  have inw8 : ∀ w ∈ u_ws RX8 TX8 42, w ∈ wsX8_at := by decide +kernel
  have k112 := hts (.fieldLink RX8 112 "LimitTokensModel" "thrown" "I") (by decide +kernel)
  have k49 := hts (.fieldLink RX8 49 "LimitTokensModel" "registerSize" "[I") (by decide +kernel)
  have k46 := hts (.fieldLink RX8 46 "LimitTokensModel" "register" "[I") (by decide +kernel)
  have hl := lv_entry ([.ref (E.1 + 580), .int r, .int i]) (n := 3) (Nat.le_of_ble_eq_true rfl)
  rw [lg_entry_eq]
  generalize (lg_sl ([.ref (E.1 + 580), .int r, .int i]) ++ List.replicate (3 - (lg_sl ([.ref (E.1 + 580), .int r, .int i])).length) Slot.unset).toArray = ls at hl ⊢
  have hl : lv_has ls 3 [(0, .ref (E.1 + 580)), (1, .int r), (2, .int i)] := hl
  refine lv_aload_n hx hb dX8_at_0 rfl (lv_at hl 0 rfl) ?_
  refine lv_iconst (v := 0) hx hb dX8_at_1 (by decide) ?_
  refine w_pi 8 0 (T := TX8) (N := 42) hx hb hts inw8 tyX8 tyX8_ok nmX8 hown hK.1 hM hS (by decide) (by decide) (by decide) (by decide) (by decide) rfl (by decide) k112 rfl rfl rfl rfl dX8_at_2 (fun H locs hM hS => ?_)
  generalize hV2 : up2 V 580 0 0 = V2 at hM
  have hC2 := hC.fr (pFr.th hV2).1
  have fC2 := (pFr.th hV2).2
  obtain ⟨⟨oR, oT, oP⟩, cN, cR, cT, cP, cQ, cF, cL⟩ := id hC2
  refine lv_iload_n hx hb dX8_at_5 rfl (lv_at hl 1 rfl) ?_
  refine w_cSi (As := [.int r]) (rest := []) ⟨hx, hb, hml, hown, hts⟩ (c_X8_is l r) (va_cwS 1 hts gX8_at_X8_is rfl rfl rfl (by decide +kernel) ⟨Nat.le_of_ble_eq_true rfl, Nat.le_of_ble_eq_true rfl⟩) hM hK hS rfl hl.1 rfl (lv_room (Nat.le_of_ble_eq_true rfl)) dX8_at_6 ⟨Nat.le_of_ble_eq_true rfl, Nat.le_of_ble_eq_true rfl⟩ (fun r6 V6 H locs hp6 hM hS => ?_)
  obtain ⟨er6, eV⟩ := hp6
  rw [eV] at hM; clear eV
  refine lv_if_ne (tgt := 17) hx hb dX8_at_9 (by decide) (fun c_9 => ?_) (fun c_9 => ?_)
  · have i1 : in8 r = true := b2i_ne0 (by rw [← er6]; exact c_9)
    obtain ⟨h8r, enr⟩ := in8_r i1
    have olr := (oR _ h8r).1
    refine lv_iload_n hx hb dX8_at_17 rfl (lv_at hl 2 rfl) ?_
    refine lv_iconst (v := 0) hx hb dX8_at_18 (by decide) ?_
    refine lv_aload_n hx hb dX8_at_19 rfl (lv_at hl 0 rfl) ?_
    refine w_gr 8 17 594 (T := TX8) (N := 42) hx hb hts inw8 hown hK.1 hM (by decide) (by decide) (by decide) (by decide) (by decide) rfl (by decide) k49 rfl dX8_at_20 ?_
    refine lv_iload_n hx hb dX8_at_23 rfl (lv_at hl 1 rfl) ?_
    have i_24 : (r : Int32) = nI (rj r) := enr
    refine w_ild (N := 8) hx hb hK.1 hM (by decide) (by decide) (by decide) (by rw [i_24]; exact vp_in_nI (by omega) (by omega)) dX8_at_24 ?_
    have j_24 : r.toNatClampNeg = rj r := (congrArg Int32.toNatClampNeg i_24).trans (nI_clamp (by omega))
    have q : (V2 594 r.toNatClampNeg : Int32) = V2 594 (rj r) := by rw [j_24]
    refine lv_eqi q ?_
    have q : (V2 594 (rj r) : Int32) = nI (σ.1 (rj r)).length := (cR _ h8r).1
    refine lv_eqi q ?_
    refine lv_iconst (v := 1) hx hb dX8_at_25 (by decide) ?_
    refine lv_isub hx hb dX8_at_26 ?_
    refine w_cSi (As := [.int i, .int 0, .int ((nI (σ.1 (rj r)).length) - 1)]) (rest := []) ⟨hx, hb, hml, hown, hts⟩ (c_X8_within l i 0 (nI (σ.1 (rj r)).length - 1)) (va_cwS 3 hts gX8_at_X8_within rfl rfl rfl (by decide +kernel) ⟨Nat.le_of_ble_eq_true rfl, Nat.le_of_ble_eq_true rfl⟩) hM hK hS rfl hl.1 rfl (lv_room (Nat.le_of_ble_eq_true rfl)) dX8_at_27 ⟨Nat.le_of_ble_eq_true rfl, Nat.le_of_ble_eq_true rfl⟩ (fun r27 V27 H locs hp27 hM hS => ?_)
    obtain ⟨er27, eV⟩ := hp27
    rw [eV] at hM; clear eV
    refine lv_if_eq (tgt := 47) hx hb dX8_at_30 (by decide) (fun c_30 => ?_) (fun c_30 => ?_)
    · have i2 : inR i 0 (nI (σ.1 (rj r)).length - 1) = false := b2i_eq0 (by rw [← er27]; exact c_30)
      have i3 : has (σ.1 (rj r)) i = false := by rw [← inR_has (by omega)]; exact i2
      refine lv_iconst (v := (-1)) hx hb dX8_at_47 (by decide) ?_
      have hpost : (fun v V' => v = (opAt σ r i).1 ∧ repM V' (opAt σ r i).2 ∧ frC V V') (-1) V2 := by
        have hq : opAt σ r i = (_, σ) := rfl
        refine ⟨?_, hC2, fC2⟩
        unfold opAt
        dsimp only
        first | (rw [if_pos i1, bAt_has i3]) | (rw [if_pos i1, bAt_hasn i3]) | (rw [i1]; rfl)
      exact w_iret V2 hx hb hret hK hS hM (hpost) hlocks dX8_at_48
    · have i2 : inR i 0 (nI (σ.1 (rj r)).length - 1) = true := b2i_ne0 (by rw [← er27]; exact c_30)
      have i3 : has (σ.1 (rj r)) i = true := by rw [← inR_has (by omega)]; exact i2
      obtain ⟨hji, eni⟩ := has_j i3 (by omega)
      refine lv_aload_n hx hb dX8_at_33 rfl (lv_at hl 0 rfl) ?_
      refine w_gr 8 16 593 (T := TX8) (N := 42) hx hb hts inw8 hown hK.1 hM (by decide) (by decide) (by decide) (by decide) (by decide) rfl (by decide) k46 rfl dX8_at_34 ?_
      refine lv_bipush (v := 100) hx hb dX8_at_37 (by decide) ?_
      refine lv_iload_n hx hb dX8_at_39 rfl (lv_at hl 1 rfl) ?_
      refine lv_imul hx hb dX8_at_40 ?_
      have q : (100 * r : Int32) = nI (100 * (rj r)) := (nMul rfl enr)
      refine lv_eqi q ?_
      refine lv_iload_n hx hb dX8_at_41 rfl (lv_at hl 2 rfl) ?_
      refine lv_iadd hx hb dX8_at_42 ?_
      have q : ((nI (100 * (rj r))) + i : Int32) = nI ((100 * (rj r)) + (rj i)) := (nAdd rfl eni)
      refine lv_eqi q ?_
      have i_43 : (nI ((100 * (rj r)) + (rj i)) : Int32) = nI ((100 * (rj r)) + (rj i)) := rfl
      refine w_ild (N := 800) hx hb hK.1 hM (by decide) (by decide) (by decide) (by rw [i_43]; exact vp_in_nI (by omega) (by omega)) dX8_at_43 ?_
      have j_43 : (nI ((100 * (rj r)) + (rj i))).toNatClampNeg = (100 * (rj r)) + (rj i) := (congrArg Int32.toNatClampNeg i_43).trans (nI_clamp (by omega))
      have q : (V2 593 (nI ((100 * (rj r)) + (rj i))).toNatClampNeg : Int32) = V2 593 ((100 * (rj r)) + (rj i)) := by rw [j_43]
      refine lv_eqi q ?_
      have q : (V2 593 ((100 * (rj r)) + (rj i)) : Int32) = (σ.1 (rj r)).getD (rj i) 0 := (cR _ h8r).2 _ hji
      refine lv_eqi q ?_
      refine lv_goto (tgt := 48) hx hb dX8_at_44 (by decide) ?_
      have hpost : (fun v V' => v = (opAt σ r i).1 ∧ repM V' (opAt σ r i).2 ∧ frC V V') ((σ.1 (rj r)).getD (rj i) 0) V2 := by
        have hq : opAt σ r i = (_, σ) := rfl
        refine ⟨?_, hC2, fC2⟩
        unfold opAt
        dsimp only
        first | (rw [if_pos i1, bAt_has i3]) | (rw [if_pos i1, bAt_hasn i3]) | (rw [i1]; rfl)
      exact w_iret V2 hx hb hret hK hS hM (hpost) hlocks dX8_at_48
  · have i1 : in8 r = false := b2i_eq0 (by rw [← er6]; exact c_9)
    refine lv_bipush (v := (-2)) hx hb dX8_at_12 (by decide) ?_
    refine lv_goto (tgt := 48) hx hb dX8_at_14 (by decide) ?_
    have hpost : (fun v V' => v = (opAt σ r i).1 ∧ repM V' (opAt σ r i).2 ∧ frC V V') (-2) V2 := by
      have hq : opAt σ r i = (_, σ) := rfl
      refine ⟨?_, hC2, fC2⟩
      unfold opAt
      dsimp only
      first | (rw [if_pos i1, bAt_has i3]) | (rw [if_pos i1, bAt_hasn i3]) | (rw [i1]; rfl)
    exact w_iret V2 hx hb hret hK hS hM (hpost) hlocks dX8_at_48

set_option maxHeartbeats 4000000 in
set_option maxRecDepth 100000 in
theorem c_X8_hash (l : Launch) {E : En} {V : Vt} {σ : St} (hC : repM V σ) (a b : Int32) : CI l yX8_hash wsX8_hash 3 E V [.ref (E.1 + 580), .int a, .int b] (fun v V' => v = (opHash σ a b).1 ∧ repM V' (opHash σ a b).2 ∧ frC V V') := by
  refine Met.ofW (cc := cX8_hash) (maxL := 3) (ret := (some .int)) (by decide) rfl ?_
  intro p e s m args below meth c s₁ B hml hv
  obtain ⟨rfl, hM, hK⟩ := hv
  have hx := B.exec
  have hb := B.bytes
  have hret := B.returns
  have hts := atoms_spec (ws := wsX8_hash) B.pre
  have hown : s.vm.findClass RX8 = some m.cls := findClass_of_methodNamed B.named
  have hlocks := B.notSynchronized
  have hsz : s.heap.size = E.1 + 610 := hM.1
  have hS : va_S (AE E) s.heap s.heap [] := va_S.rf
  have inw8 : ∀ w ∈ u_ws RX8 TX8 42, w ∈ wsX8_hash := by decide +kernel
  have k112 := hts (.fieldLink RX8 112 "LimitTokensModel" "thrown" "I") (by decide +kernel)
  have k126 := hts (.fieldLink RX8 126 "LimitTokensModel" "inSize" "I") (by decide +kernel)
  have k46 := hts (.fieldLink RX8 46 "LimitTokensModel" "register" "[I") (by decide +kernel)
  have k49 := hts (.fieldLink RX8 49 "LimitTokensModel" "registerSize" "[I") (by decide +kernel)
  have k28 := hts (.fieldLink RX8 28 "LimitTokensModel" "hashed" "[I") (by decide +kernel)
  have hl := lv_entry ([.ref (E.1 + 580), .int a, .int b]) (n := 3) (Nat.le_of_ble_eq_true rfl)
  rw [lg_entry_eq]
  generalize (lg_sl ([.ref (E.1 + 580), .int a, .int b]) ++ List.replicate (3 - (lg_sl ([.ref (E.1 + 580), .int a, .int b])).length) Slot.unset).toArray = ls at hl ⊢
  have hl : lv_has ls 3 [(0, .ref (E.1 + 580)), (1, .int a), (2, .int b)] := hl
  refine lv_aload_n hx hb dX8_hash_0 rfl (lv_at hl 0 rfl) ?_
  refine lv_iconst (v := 0) hx hb dX8_hash_1 (by decide) ?_
  refine w_pi 8 0 (T := TX8) (N := 42) hx hb hts inw8 tyX8 tyX8_ok nmX8 hown hK.1 hM hS (by decide) (by decide) (by decide) (by decide) (by decide) rfl (by decide) k112 rfl rfl rfl rfl dX8_hash_2 (fun H locs hM hS => ?_)
  generalize hV2 : up2 V 580 0 0 = V2 at hM
  have hC2 := hC.fr (pFr.th hV2).1
  have fC2 := (pFr.th hV2).2
  obtain ⟨⟨oR, oT, oP⟩, cN, cR, cT, cP, cQ, cF, cL⟩ := id hC2
  refine lv_iload_n hx hb dX8_hash_5 rfl (lv_at hl 1 rfl) ?_
  refine w_cSi (As := [.int a]) (rest := []) ⟨hx, hb, hml, hown, hts⟩ (c_X8_is l a) (va_cwS 1 hts gX8_hash_X8_is rfl rfl rfl (by decide +kernel) ⟨Nat.le_of_ble_eq_true rfl, Nat.le_of_ble_eq_true rfl⟩) hM hK hS rfl hl.1 rfl (lv_room (Nat.le_of_ble_eq_true rfl)) dX8_hash_6 ⟨Nat.le_of_ble_eq_true rfl, Nat.le_of_ble_eq_true rfl⟩ (fun r6 V6 H locs hp6 hM hS => ?_)
  obtain ⟨er6, eV⟩ := hp6
  rw [eV] at hM; clear eV
  refine lv_if_eq (tgt := 19) hx hb dX8_hash_9 (by decide) (fun c_9 => ?_) (fun c_9 => ?_)
  · have i1 : in8 a = false := b2i_eq0 (by rw [← er6]; exact c_9)
    refine lv_bipush (v := (-2)) hx hb dX8_hash_19 (by decide) ?_
    have hpost : (fun v V' => v = (opHash σ a b).1 ∧ repM V' (opHash σ a b).2 ∧ frC V V') (-2) V2 := by
      have hq : opHash σ a b = (-2, σ) := by first | (simp [opHash, i1, i2]; done) | (simp [opHash, i1]; done)
      rw [hq]; exact ⟨rfl, hC2, fC2⟩
    exact w_iret V2 hx hb hret hK hS hM (hpost) hlocks dX8_hash_21
  · have i1 : in8 a = true := b2i_ne0 (by rw [← er6]; exact c_9)
    obtain ⟨h8a, ena⟩ := in8_r i1
    refine lv_iload_n hx hb dX8_hash_12 rfl (lv_at hl 2 rfl) ?_
    refine w_cSi (As := [.int b]) (rest := []) ⟨hx, hb, hml, hown, hts⟩ (c_X8_is l b) (va_cwS 1 hts gX8_hash_X8_is rfl rfl rfl (by decide +kernel) ⟨Nat.le_of_ble_eq_true rfl, Nat.le_of_ble_eq_true rfl⟩) hM hK hS rfl hl.1 rfl (lv_room (Nat.le_of_ble_eq_true rfl)) dX8_hash_13 ⟨Nat.le_of_ble_eq_true rfl, Nat.le_of_ble_eq_true rfl⟩ (fun r13 V13 H locs hp13 hM hS => ?_)
    obtain ⟨er13, eV⟩ := hp13
    rw [eV] at hM; clear eV
    refine lv_if_ne (tgt := 22) hx hb dX8_hash_16 (by decide) (fun c_16 => ?_) (fun c_16 => ?_)
    · have i2 : in8 b = true := b2i_ne0 (by rw [← er13]; exact c_16)
      obtain ⟨h8b, enb⟩ := in8_r i2
      have olb := (oR _ h8b).1
      refine lv_aload_n hx hb dX8_hash_22 rfl (lv_at hl 0 rfl) ?_
      refine lv_iconst (v := 0) hx hb dX8_hash_23 (by decide) ?_
      refine w_pi 8 7 (T := TX8) (N := 42) hx hb hts inw8 tyX8 tyX8_ok nmX8 hown hK.1 hM hS (by decide) (by decide) (by decide) (by decide) (by decide) rfl (by decide) k126 rfl rfl rfl rfl dX8_hash_24 (fun H locs hM hS => ?_)
      generalize hV24 : up2 V2 580 7 0 = V24 at hM
      refine lv_aload_n hx hb dX8_hash_27 rfl (lv_at hl 0 rfl) ?_
      refine lv_aload_n hx hb dX8_hash_28 rfl (lv_at hl 0 rfl) ?_
      refine w_gr 8 16 593 (T := TX8) (N := 42) hx hb hts inw8 hown hK.1 hM (by decide) (by decide) (by decide) (by decide) (by decide) rfl (by decide) k46 rfl dX8_hash_29 ?_
      refine lv_bipush (v := 100) hx hb dX8_hash_32 (by decide) ?_
      refine lv_iload_n hx hb dX8_hash_34 rfl (lv_at hl 2 rfl) ?_
      refine lv_imul hx hb dX8_hash_35 ?_
      have q : (100 * b : Int32) = nI (100 * (rj b)) := (nMul rfl enb)
      refine lv_eqi q ?_
      refine lv_aload_n hx hb dX8_hash_36 rfl (lv_at hl 0 rfl) ?_
      refine w_gr 8 17 594 (T := TX8) (N := 42) hx hb hts inw8 hown hK.1 hM (by decide) (by decide) (by decide) (by decide) (by decide) rfl (by decide) k49 rfl dX8_hash_37 ?_
      refine lv_iload_n hx hb dX8_hash_40 rfl (lv_at hl 2 rfl) ?_
      have i_41 : (b : Int32) = nI (rj b) := enb
      refine w_ild (N := 8) hx hb hK.1 hM (by decide) (by decide) (by decide) (by rw [i_41]; exact vp_in_nI (by omega) (by omega)) dX8_hash_41 ?_
      have j_41 : b.toNatClampNeg = rj b := (congrArg Int32.toNatClampNeg i_41).trans (nI_clamp (by omega))
      have q : (V24 594 b.toNatClampNeg : Int32) = V24 594 (rj b) := by rw [j_41]
      refine lv_eqi q ?_
      have q : (V24 594 (rj b) : Int32) = nI (σ.1 (rj b)).length := by rw [← hV24, up2_k _ _ (by decide)]; exact (cR _ h8b).1
      refine lv_eqi q ?_
      refine w_cVv (C := RX8) (As := [.ref (E.1 + 593), .int (nI (100 * (rj b))), .int (nI (σ.1 (rj b)).length)]) (rest := []) ⟨hx, hb, hml, hown, hts⟩ (c_X8_take l a593 (by decide) (buf.nil hV24) (b := 100 * rj b) (l0 := σ.1 (rj b)) ((cR _ h8b).2.keep (by rw [← hV24, up2_k _ _ (by decide)])) (by omega) (by simp; omega)) (cwV 3 hts gX8_hash_X8_take rfl rfl rfl (by decide +kernel) ⟨Nat.le_of_ble_eq_true rfl, Nat.le_of_ble_eq_true rfl⟩) (w_recv (ci := 8) hK hM (by decide) (by decide) (by decide) rfl) hM hK hS rfl hl.1 rfl (lv_room (Nat.le_of_ble_eq_true rfl)) dX8_hash_42 ⟨Nat.le_of_ble_eq_true rfl, Nat.le_of_ble_eq_true rfl⟩ (fun V42 H locs hp42 hM hS => ?_)
      have F42 : frS V2 V42 583 590 := (show frS V2 V24 583 590 from ⟨fun k _ b => by rw [← hV24, up2_k _ _ b], fun i a _ _ => by rw [← hV24, up2_o _ _ a]⟩).trans (hp42.2.toS (by omega) (by decide))
      refine lv_aload_n hx hb dX8_hash_45 rfl (lv_at hl 0 rfl) ?_
      refine w_cVv (C := RX8) (As := []) (rest := []) ⟨hx, hb, hml, hown, hts⟩ (c_X8_hashNow l (fun i hi => by rw [F42.1 582 (by omega) (by decide)]; exact cN.1 i hi) (fun i hi => by rw [F42.1 581 (by omega) (by decide)]; exact cN.2.1 i hi) (l0 := [] ++ σ.1 (rj b)) hp42.1 (by simp; omega)) (cwV 0 hts gX8_hash_X8_hashNow rfl rfl rfl (by decide +kernel) ⟨Nat.le_of_ble_eq_true rfl, Nat.le_of_ble_eq_true rfl⟩) (w_recv (ci := 8) hK hM (by decide) (by decide) (by decide) rfl) hM hK hS rfl hl.1 rfl (lv_room (Nat.le_of_ble_eq_true rfl)) dX8_hash_46 ⟨Nat.le_of_ble_eq_true rfl, Nat.le_of_ble_eq_true rfl⟩ (fun V46 H locs hp46 hM hS => ?_)
      rw [List.nil_append] at hp46
      have F46 : frS V2 V46 583 590 := F42.trans ⟨fun k a b => hp46.2.2.1 k (by omega) b, fun i a _ _ => hp46.2.2.2 i a⟩
      have hC46 := hC2.fr (F46.p (by decide))
      refine lv_aload_n hx hb dX8_hash_49 rfl (lv_at hl 0 rfl) ?_
      refine w_gr 8 8 587 (T := TX8) (N := 42) hx hb hts inw8 hown hK.1 hM (by decide) (by decide) (by decide) (by decide) (by decide) rfl (by decide) k28 rfl dX8_hash_50 ?_
      refine lv_aload_n hx hb dX8_hash_53 rfl (lv_at hl 0 rfl) ?_
      refine w_gr 8 16 593 (T := TX8) (N := 42) hx hb hts inw8 hown hK.1 hM (by decide) (by decide) (by decide) (by decide) (by decide) rfl (by decide) k46 rfl dX8_hash_54 ?_
      refine lv_bipush (v := 100) hx hb dX8_hash_57 (by decide) ?_
      refine lv_iload_n hx hb dX8_hash_59 rfl (lv_at hl 1 rfl) ?_
      refine lv_imul hx hb dX8_hash_60 ?_
      have q : (100 * a : Int32) = nI (100 * (rj a)) := (nMul rfl ena)
      refine lv_eqi q ?_
      refine w_cSv (As := [.ref (E.1 + 587), .ref (E.1 + 593), .int (nI (100 * (rj a)))]) (rest := []) ⟨hx, hb, hml, hown, hts⟩ (c_X8_copyTo l a587 a593 (by decide) (by omega) (b := 100 * rj a) (by omega)) (va_cwS 3 hts gX8_hash_X8_copyTo rfl rfl rfl (by decide +kernel) ⟨Nat.le_of_ble_eq_true rfl, Nat.le_of_ble_eq_true rfl⟩) hM hK hS rfl hl.1 rfl (lv_room (Nat.le_of_ble_eq_true rfl)) dX8_hash_61 ⟨Nat.le_of_ble_eq_true rfl, Nat.le_of_ble_eq_true rfl⟩ (fun V61 H locs hp61 hM hS => ?_)
      refine lv_aload_n hx hb dX8_hash_64 rfl (lv_at hl 0 rfl) ?_
      refine w_gr 8 17 594 (T := TX8) (N := 42) hx hb hts inw8 hown hK.1 hM (by decide) (by decide) (by decide) (by decide) (by decide) rfl (by decide) k49 rfl dX8_hash_65 ?_
      refine lv_iload_n hx hb dX8_hash_68 rfl (lv_at hl 1 rfl) ?_
      refine lv_bipush (v := 32) hx hb dX8_hash_69 (by decide) ?_
      have i_71 : (a : Int32) = nI (rj a) := ena
      have j_71 : a.toNatClampNeg = rj a := (congrArg Int32.toNatClampNeg i_71).trans (nI_clamp (by omega))
      refine w_ist (N := 8) hx hb hK.1 hM hS (by decide) (by decide) (by decide) (by rw [i_71]; exact vp_in_nI (by omega) (by omega)) dX8_hash_71 (fun H locs hM hS => ?_)
      rw [j_71] at hM
      generalize hV71 : up2 V61 594 (rj a) 32 = V71 at hM
      refine lv_bipush (v := 32) hx hb dX8_hash_72 (by decide) ?_
      have hpost : (fun v V' => v = (opHash σ a b).1 ∧ repM V' (opHash σ a b).2 ∧ frC V V') 32 V71 := by
        have hq : opHash σ a b = (32, sReg σ (rj a) (sha (σ.1 (rj b)))) := by simp [opHash, i1, i2]
        have h9 := hC46.regC h8a (sha_len _) (sha_ok _) hp46.1 hp61 hV71
        rw [hq]; exact ⟨rfl, h9.1, (fC2.trans (F46.C (by decide))).trans h9.2⟩
      exact w_iret V71 hx hb hret hK hS hM (hpost) hlocks dX8_hash_74
    · have i2 : in8 b = false := b2i_eq0 (by rw [← er13]; exact c_16)
      refine lv_bipush (v := (-2)) hx hb dX8_hash_19 (by decide) ?_
      have hpost : (fun v V' => v = (opHash σ a b).1 ∧ repM V' (opHash σ a b).2 ∧ frC V V') (-2) V2 := by
        have hq : opHash σ a b = (-2, σ) := by first | (simp [opHash, i1, i2]; done) | (simp [opHash, i1]; done)
        rw [hq]; exact ⟨rfl, hC2, fC2⟩
      exact w_iret V2 hx hb hret hK hS hM (hpost) hlocks dX8_hash_21

set_option maxHeartbeats 4000000 in
set_option maxRecDepth 100000 in
theorem c_X8_seal (l : Launch) {E : En} {V : Vt} {σ : St} (hC : repM V σ) (a k n : Int32) : CI l yX8_seal wsX8_seal 4 E V [.ref (E.1 + 580), .int a, .int k, .int n] (fun v V' => v = (opSeal σ a k n).1 ∧ repM V' (opSeal σ a k n).2 ∧ frC V V') := by
  refine Met.ofW (cc := cX8_seal) (maxL := 4) (ret := (some .int)) (by decide) rfl ?_
  intro p e s m args below meth c s₁ B hml hv
  obtain ⟨rfl, hM, hK⟩ := hv
  have hx := B.exec
  have hb := B.bytes
  have hret := B.returns
  have hts := atoms_spec (ws := wsX8_seal) B.pre
  have hown : s.vm.findClass RX8 = some m.cls := findClass_of_methodNamed B.named
  have hlocks := B.notSynchronized
  have hsz : s.heap.size = E.1 + 610 := hM.1
  have hS : va_S (AE E) s.heap s.heap [] := va_S.rf
  have inw8 : ∀ w ∈ u_ws RX8 TX8 42, w ∈ wsX8_seal := by decide +kernel
  have k112 := hts (.fieldLink RX8 112 "LimitTokensModel" "thrown" "I") (by decide +kernel)
  have k46 := hts (.fieldLink RX8 46 "LimitTokensModel" "register" "[I") (by decide +kernel)
  have k49 := hts (.fieldLink RX8 49 "LimitTokensModel" "registerSize" "[I") (by decide +kernel)
  have k37 := hts (.fieldLink RX8 37 "LimitTokensModel" "out" "[I") (by decide +kernel)
  have hl := lv_entry ([.ref (E.1 + 580), .int a, .int k, .int n]) (n := 4) (Nat.le_of_ble_eq_true rfl)
  rw [lg_entry_eq]
  generalize (lg_sl ([.ref (E.1 + 580), .int a, .int k, .int n]) ++ List.replicate (4 - (lg_sl ([.ref (E.1 + 580), .int a, .int k, .int n])).length) Slot.unset).toArray = ls at hl ⊢
  have hl : lv_has ls 4 [(0, .ref (E.1 + 580)), (1, .int a), (2, .int k), (3, .int n)] := hl
  refine lv_aload_n hx hb dX8_seal_0 rfl (lv_at hl 0 rfl) ?_
  refine lv_iconst (v := 0) hx hb dX8_seal_1 (by decide) ?_
  refine w_pi 8 0 (T := TX8) (N := 42) hx hb hts inw8 tyX8 tyX8_ok nmX8 hown hK.1 hM hS (by decide) (by decide) (by decide) (by decide) (by decide) rfl (by decide) k112 rfl rfl rfl rfl dX8_seal_2 (fun H locs hM hS => ?_)
  generalize hV2 : up2 V 580 0 0 = V2 at hM
  have hC2 := hC.fr (pFr.th hV2).1
  have fC2 := (pFr.th hV2).2
  obtain ⟨⟨oR, oT, oP⟩, cN, cR, cT, cP, cQ, cF, cL⟩ := id hC2
  refine lv_iload_n hx hb dX8_seal_5 rfl (lv_at hl 1 rfl) ?_
  refine w_cSi (As := [.int a]) (rest := []) ⟨hx, hb, hml, hown, hts⟩ (c_X8_is l a) (va_cwS 1 hts gX8_seal_X8_is rfl rfl rfl (by decide +kernel) ⟨Nat.le_of_ble_eq_true rfl, Nat.le_of_ble_eq_true rfl⟩) hM hK hS rfl hl.1 rfl (lv_room (Nat.le_of_ble_eq_true rfl)) dX8_seal_6 ⟨Nat.le_of_ble_eq_true rfl, Nat.le_of_ble_eq_true rfl⟩ (fun r6 V6 H locs hp6 hM hS => ?_)
  obtain ⟨er6, eV⟩ := hp6
  rw [eV] at hM; clear eV
  refine lv_if_eq (tgt := 26) hx hb dX8_seal_9 (by decide) (fun c_9 => ?_) (fun c_9 => ?_)
  · have i1 : in8 a = false := b2i_eq0 (by rw [← er6]; exact c_9)
    refine lv_bipush (v := (-2)) hx hb dX8_seal_26 (by decide) ?_
    have hpost : (fun v V' => v = (opSeal σ a k n).1 ∧ repM V' (opSeal σ a k n).2 ∧ frC V V') (-2) V2 := by
      have hq : opSeal σ a k n = (-2, σ) := by first | (simp [opSeal, i1, i2, i3]; done) | (simp [opSeal, i1, i2]; done) | (simp [opSeal, i1]; done)
      rw [hq]; exact ⟨rfl, hC2, fC2⟩
    exact w_iret V2 hx hb hret hK hS hM (hpost) hlocks dX8_seal_28
  · have i1 : in8 a = true := b2i_ne0 (by rw [← er6]; exact c_9)
    obtain ⟨h8a, ena⟩ := in8_r i1
    refine lv_iload_n hx hb dX8_seal_12 rfl (lv_at hl 2 rfl) ?_
    refine w_cSi (As := [.int k]) (rest := []) ⟨hx, hb, hml, hown, hts⟩ (c_X8_is l k) (va_cwS 1 hts gX8_seal_X8_is rfl rfl rfl (by decide +kernel) ⟨Nat.le_of_ble_eq_true rfl, Nat.le_of_ble_eq_true rfl⟩) hM hK hS rfl hl.1 rfl (lv_room (Nat.le_of_ble_eq_true rfl)) dX8_seal_13 ⟨Nat.le_of_ble_eq_true rfl, Nat.le_of_ble_eq_true rfl⟩ (fun r13 V13 H locs hp13 hM hS => ?_)
    obtain ⟨er13, eV⟩ := hp13
    rw [eV] at hM; clear eV
    refine lv_if_eq (tgt := 26) hx hb dX8_seal_16 (by decide) (fun c_16 => ?_) (fun c_16 => ?_)
    · have i2 : in8 k = false := b2i_eq0 (by rw [← er13]; exact c_16)
      refine lv_bipush (v := (-2)) hx hb dX8_seal_26 (by decide) ?_
      have hpost : (fun v V' => v = (opSeal σ a k n).1 ∧ repM V' (opSeal σ a k n).2 ∧ frC V V') (-2) V2 := by
        have hq : opSeal σ a k n = (-2, σ) := by first | (simp [opSeal, i1, i2, i3]; done) | (simp [opSeal, i1, i2]; done) | (simp [opSeal, i1]; done)
        rw [hq]; exact ⟨rfl, hC2, fC2⟩
      exact w_iret V2 hx hb hret hK hS hM (hpost) hlocks dX8_seal_28
    · have i2 : in8 k = true := b2i_ne0 (by rw [← er13]; exact c_16)
      obtain ⟨h8k, enk⟩ := in8_r i2
      refine lv_iload_n hx hb dX8_seal_19 rfl (lv_at hl 3 rfl) ?_
      refine w_cSi (As := [.int n]) (rest := []) ⟨hx, hb, hml, hown, hts⟩ (c_X8_is l n) (va_cwS 1 hts gX8_seal_X8_is rfl rfl rfl (by decide +kernel) ⟨Nat.le_of_ble_eq_true rfl, Nat.le_of_ble_eq_true rfl⟩) hM hK hS rfl hl.1 rfl (lv_room (Nat.le_of_ble_eq_true rfl)) dX8_seal_20 ⟨Nat.le_of_ble_eq_true rfl, Nat.le_of_ble_eq_true rfl⟩ (fun r20 V20 H locs hp20 hM hS => ?_)
      obtain ⟨er20, eV⟩ := hp20
      rw [eV] at hM; clear eV
      refine lv_if_ne (tgt := 29) hx hb dX8_seal_23 (by decide) (fun c_23 => ?_) (fun c_23 => ?_)
      · have i3 : in8 n = true := b2i_ne0 (by rw [← er20]; exact c_23)
        obtain ⟨h8n, enn⟩ := in8_r i3
        have olk := (oR _ h8k).1
        have oln := (oR _ h8n).1
        refine lv_aload_n hx hb dX8_seal_29 rfl (lv_at hl 0 rfl) ?_
        refine lv_aload_n hx hb dX8_seal_30 rfl (lv_at hl 0 rfl) ?_
        refine w_gr 8 16 593 (T := TX8) (N := 42) hx hb hts inw8 hown hK.1 hM (by decide) (by decide) (by decide) (by decide) (by decide) rfl (by decide) k46 rfl dX8_seal_31 ?_
        refine lv_bipush (v := 100) hx hb dX8_seal_34 (by decide) ?_
        refine lv_iload_n hx hb dX8_seal_36 rfl (lv_at hl 2 rfl) ?_
        refine lv_imul hx hb dX8_seal_37 ?_
        have q : (100 * k : Int32) = nI (100 * (rj k)) := (nMul rfl enk)
        refine lv_eqi q ?_
        refine lv_aload_n hx hb dX8_seal_38 rfl (lv_at hl 0 rfl) ?_
        refine w_gr 8 17 594 (T := TX8) (N := 42) hx hb hts inw8 hown hK.1 hM (by decide) (by decide) (by decide) (by decide) (by decide) rfl (by decide) k49 rfl dX8_seal_39 ?_
        refine lv_iload_n hx hb dX8_seal_42 rfl (lv_at hl 2 rfl) ?_
        have i_43 : (k : Int32) = nI (rj k) := enk
        refine w_ild (N := 8) hx hb hK.1 hM (by decide) (by decide) (by decide) (by rw [i_43]; exact vp_in_nI (by omega) (by omega)) dX8_seal_43 ?_
        have j_43 : k.toNatClampNeg = rj k := (congrArg Int32.toNatClampNeg i_43).trans (nI_clamp (by omega))
        have q : (V2 594 k.toNatClampNeg : Int32) = V2 594 (rj k) := by rw [j_43]
        refine lv_eqi q ?_
        have q : (V2 594 (rj k) : Int32) = nI (σ.1 (rj k)).length := (cR _ h8k).1
        refine lv_eqi q ?_
        refine w_cVv (C := RX8) (As := [.ref (E.1 + 593), .int (nI (100 * (rj k))), .int (nI (σ.1 (rj k)).length)]) (rest := []) ⟨hx, hb, hml, hown, hts⟩ (c_X8_keyIs l a593 (by decide) (b := 100 * rj k) (l0 := σ.1 (rj k)) (cR _ h8k).2 (by omega) (by omega)) (cwV 3 hts gX8_seal_X8_keyIs rfl rfl rfl (by decide +kernel) ⟨Nat.le_of_ble_eq_true rfl, Nat.le_of_ble_eq_true rfl⟩) (w_recv (ci := 8) hK hM (by decide) (by decide) (by decide) rfl) hM hK hS rfl hl.1 rfl (lv_room (Nat.le_of_ble_eq_true rfl)) dX8_seal_44 ⟨Nat.le_of_ble_eq_true rfl, Nat.le_of_ble_eq_true rfl⟩ (fun V44 H locs hp44 hM hS => ?_)
        have F44 : frS V2 V44 583 590 := ⟨fun k a b => hp44.2.2.1 k (by omega) b, fun i _ a b => hp44.2.2.2 i a b⟩
        refine lv_aload_n hx hb dX8_seal_47 rfl (lv_at hl 0 rfl) ?_
        refine lv_aload_n hx hb dX8_seal_48 rfl (lv_at hl 0 rfl) ?_
        refine w_gr 8 16 593 (T := TX8) (N := 42) hx hb hts inw8 hown hK.1 hM (by decide) (by decide) (by decide) (by decide) (by decide) rfl (by decide) k46 rfl dX8_seal_49 ?_
        refine lv_bipush (v := 100) hx hb dX8_seal_52 (by decide) ?_
        refine lv_iload_n hx hb dX8_seal_54 rfl (lv_at hl 3 rfl) ?_
        refine lv_imul hx hb dX8_seal_55 ?_
        have q : (100 * n : Int32) = nI (100 * (rj n)) := (nMul rfl enn)
        refine lv_eqi q ?_
        refine lv_aload_n hx hb dX8_seal_56 rfl (lv_at hl 0 rfl) ?_
        refine w_gr 8 17 594 (T := TX8) (N := 42) hx hb hts inw8 hown hK.1 hM (by decide) (by decide) (by decide) (by decide) (by decide) rfl (by decide) k49 rfl dX8_seal_57 ?_
        refine lv_iload_n hx hb dX8_seal_60 rfl (lv_at hl 3 rfl) ?_
        have i_61 : (n : Int32) = nI (rj n) := enn
        refine w_ild (N := 8) hx hb hK.1 hM (by decide) (by decide) (by decide) (by rw [i_61]; exact vp_in_nI (by omega) (by omega)) dX8_seal_61 ?_
        have j_61 : n.toNatClampNeg = rj n := (congrArg Int32.toNatClampNeg i_61).trans (nI_clamp (by omega))
        have q : (V44 594 n.toNatClampNeg : Int32) = V44 594 (rj n) := by rw [j_61]
        refine lv_eqi q ?_
        have q : (V44 594 (rj n) : Int32) = nI (σ.1 (rj n)).length := by rw [hp44.2.2.1 594 (by decide) (by decide)]; exact (cR _ h8n).1
        refine lv_eqi q ?_
        refine w_cVv (C := RX8) (As := [.ref (E.1 + 593), .int (nI (100 * (rj n))), .int (nI (σ.1 (rj n)).length)]) (rest := []) ⟨hx, hb, hml, hown, hts⟩ (c_X8_add l a593 (by decide) hp44.2.1 (b := 100 * rj n) (l0 := σ.1 (rj n)) ((cR _ h8n).2.keep (hp44.2.2.1 593 (by decide) (by decide))) (by omega) (by simp; omega)) (cwV 3 hts gX8_seal_X8_add rfl rfl rfl (by decide +kernel) ⟨Nat.le_of_ble_eq_true rfl, Nat.le_of_ble_eq_true rfl⟩) (w_recv (ci := 8) hK hM (by decide) (by decide) (by decide) rfl) hM hK hS rfl hl.1 rfl (lv_room (Nat.le_of_ble_eq_true rfl)) dX8_seal_62 ⟨Nat.le_of_ble_eq_true rfl, Nat.le_of_ble_eq_true rfl⟩ (fun V62 H locs hp62 hM hS => ?_)
        have F62 : frS V2 V62 583 590 := F44.trans (hp62.2.toS (by omega) (by decide))
        have hk62 : buf V62 10 588 (σ.1 (rj k)) := hp44.1.keep (hp62.2.2 10 (by decide)) (hp62.2.1 588 (by decide) (by decide))
        refine lv_aload_n hx hb dX8_seal_65 rfl (lv_at hl 0 rfl) ?_
        refine w_cVv (C := RX8) (As := []) (rest := []) ⟨hx, hb, hml, hown, hts⟩ (c_X8_sealNow l (fun i hi => by rw [F62.1 582 (by omega) (by decide)]; exact cN.1 i hi) (fun i hi => by rw [F62.1 581 (by omega) (by decide)]; exact cN.2.1 i hi) hk62 hp62.1 (by omega) (by simp; omega)) (cwV 0 hts gX8_seal_X8_sealNow rfl rfl rfl (by decide +kernel) ⟨Nat.le_of_ble_eq_true rfl, Nat.le_of_ble_eq_true rfl⟩) (w_recv (ci := 8) hK hM (by decide) (by decide) (by decide) rfl) hM hK hS rfl hl.1 rfl (lv_room (Nat.le_of_ble_eq_true rfl)) dX8_seal_66 ⟨Nat.le_of_ble_eq_true rfl, Nat.le_of_ble_eq_true rfl⟩ (fun V66 H locs hp66 hM hS => ?_)
        rw [List.nil_append] at hp66
        have F66 : frS V2 V66 583 590 := F62.trans hp66.2
        have hC66 := hC2.fr (F66.p (by decide))
        refine lv_aload_n hx hb dX8_seal_69 rfl (lv_at hl 0 rfl) ?_
        refine w_gr 8 13 590 (T := TX8) (N := 42) hx hb hts inw8 hown hK.1 hM (by decide) (by decide) (by decide) (by decide) (by decide) rfl (by decide) k37 rfl dX8_seal_70 ?_
        refine lv_aload_n hx hb dX8_seal_73 rfl (lv_at hl 0 rfl) ?_
        refine w_gr 8 16 593 (T := TX8) (N := 42) hx hb hts inw8 hown hK.1 hM (by decide) (by decide) (by decide) (by decide) (by decide) rfl (by decide) k46 rfl dX8_seal_74 ?_
        refine lv_bipush (v := 100) hx hb dX8_seal_77 (by decide) ?_
        refine lv_iload_n hx hb dX8_seal_79 rfl (lv_at hl 1 rfl) ?_
        refine lv_imul hx hb dX8_seal_80 ?_
        have q : (100 * a : Int32) = nI (100 * (rj a)) := (nMul rfl ena)
        refine lv_eqi q ?_
        refine w_cSv (As := [.ref (E.1 + 590), .ref (E.1 + 593), .int (nI (100 * (rj a)))]) (rest := []) ⟨hx, hb, hml, hown, hts⟩ (c_X8_copyTo l a590 a593 (by decide) (by omega) (b := 100 * rj a) (by omega)) (va_cwS 3 hts gX8_seal_X8_copyTo rfl rfl rfl (by decide +kernel) ⟨Nat.le_of_ble_eq_true rfl, Nat.le_of_ble_eq_true rfl⟩) hM hK hS rfl hl.1 rfl (lv_room (Nat.le_of_ble_eq_true rfl)) dX8_seal_81 ⟨Nat.le_of_ble_eq_true rfl, Nat.le_of_ble_eq_true rfl⟩ (fun V81 H locs hp81 hM hS => ?_)
        refine lv_aload_n hx hb dX8_seal_84 rfl (lv_at hl 0 rfl) ?_
        refine w_gr 8 17 594 (T := TX8) (N := 42) hx hb hts inw8 hown hK.1 hM (by decide) (by decide) (by decide) (by decide) (by decide) rfl (by decide) k49 rfl dX8_seal_85 ?_
        refine lv_iload_n hx hb dX8_seal_88 rfl (lv_at hl 1 rfl) ?_
        refine lv_bipush (v := 32) hx hb dX8_seal_89 (by decide) ?_
        have i_91 : (a : Int32) = nI (rj a) := ena
        have j_91 : a.toNatClampNeg = rj a := (congrArg Int32.toNatClampNeg i_91).trans (nI_clamp (by omega))
        refine w_ist (N := 8) hx hb hK.1 hM hS (by decide) (by decide) (by decide) (by rw [i_91]; exact vp_in_nI (by omega) (by omega)) dX8_seal_91 (fun H locs hM hS => ?_)
        rw [j_91] at hM
        generalize hV91 : up2 V81 594 (rj a) 32 = V91 at hM
        refine lv_bipush (v := 32) hx hb dX8_seal_92 (by decide) ?_
        have hpost : (fun v V' => v = (opSeal σ a k n).1 ∧ repM V' (opSeal σ a k n).2 ∧ frC V V') 32 V91 := by
          have hq : opSeal σ a k n = (32, sReg σ (rj a) (hmac (σ.1 (rj k)) (σ.1 (rj n)))) := by simp [opSeal, i1, i2, i3]
          have h9 := hC66.regC h8a (hmac_len _ _) (hmac_ok _ _) hp66.1 hp81 hV91
          rw [hq]; exact ⟨rfl, h9.1, (fC2.trans (F66.C (by decide))).trans h9.2⟩
        exact w_iret V91 hx hb hret hK hS hM (hpost) hlocks dX8_seal_94
      · have i3 : in8 n = false := b2i_eq0 (by rw [← er20]; exact c_23)
        refine lv_bipush (v := (-2)) hx hb dX8_seal_26 (by decide) ?_
        have hpost : (fun v V' => v = (opSeal σ a k n).1 ∧ repM V' (opSeal σ a k n).2 ∧ frC V V') (-2) V2 := by
          have hq : opSeal σ a k n = (-2, σ) := by first | (simp [opSeal, i1, i2, i3]; done) | (simp [opSeal, i1, i2]; done) | (simp [opSeal, i1]; done)
          rw [hq]; exact ⟨rfl, hC2, fC2⟩
        exact w_iret V2 hx hb hret hK hS hM (hpost) hlocks dX8_seal_28

set_option maxHeartbeats 4000000 in
set_option maxRecDepth 100000 in
theorem c_X8_drop (l : Launch) {E : En} {V : Vt} {σ : St} (hC : repM V σ) (t : Int32) : CI l yX8_drop wsX8_drop 2 E V [.ref (E.1 + 580), .int t] (fun v V' => v = (opDrop σ t).1 ∧ repM V' (opDrop σ t).2 ∧ frC V V') := by
  refine Met.ofW (cc := cX8_drop) (maxL := 3) (ret := (some .int)) (by decide) rfl ?_
  intro p e s m args below meth c s₁ B hml hv
  obtain ⟨rfl, hM, hK⟩ := hv
  have hx := B.exec
  have hb := B.bytes
  have hret := B.returns
  have hts := atoms_spec (ws := wsX8_drop) B.pre
  have hown : s.vm.findClass RX8 = some m.cls := findClass_of_methodNamed B.named
  have hlocks := B.notSynchronized
  have hsz : s.heap.size = E.1 + 610 := hM.1
  have hS : va_S (AE E) s.heap s.heap [] := va_S.rf
  have inw8 : ∀ w ∈ u_ws RX8 TX8 42, w ∈ wsX8_drop := by decide +kernel
  have k112 := hts (.fieldLink RX8 112 "LimitTokensModel" "thrown" "I") (by decide +kernel)
  have k59 := hts (.fieldLink RX8 59 "LimitTokensModel" "there" "[Z") (by decide +kernel)
  have hl := lv_entry ([.ref (E.1 + 580), .int t]) (n := 3) (Nat.le_of_ble_eq_true rfl)
  rw [lg_entry_eq]
  generalize (lg_sl ([.ref (E.1 + 580), .int t]) ++ List.replicate (3 - (lg_sl ([.ref (E.1 + 580), .int t])).length) Slot.unset).toArray = ls at hl ⊢
  have hl : lv_has ls 3 [(0, .ref (E.1 + 580)), (1, .int t)] := hl
  refine lv_aload_n hx hb dX8_drop_0 rfl (lv_at hl 0 rfl) ?_
  refine lv_iconst (v := 0) hx hb dX8_drop_1 (by decide) ?_
  refine w_pi 8 0 (T := TX8) (N := 42) hx hb hts inw8 tyX8 tyX8_ok nmX8 hown hK.1 hM hS (by decide) (by decide) (by decide) (by decide) (by decide) rfl (by decide) k112 rfl rfl rfl rfl dX8_drop_2 (fun H locs hM hS => ?_)
  generalize hV2 : up2 V 580 0 0 = V2 at hM
  have hC2 := hC.fr (pFr.th hV2).1
  have fC2 := (pFr.th hV2).2
  obtain ⟨⟨oR, oT, oP⟩, cN, cR, cT, cP, cQ, cF, cL⟩ := id hC2
  refine lv_iload_n hx hb dX8_drop_5 rfl (lv_at hl 1 rfl) ?_
  refine w_cSi (As := [.int t]) (rest := []) ⟨hx, hb, hml, hown, hts⟩ (c_X8_is l t) (va_cwS 1 hts gX8_drop_X8_is rfl rfl rfl (by decide +kernel) ⟨Nat.le_of_ble_eq_true rfl, Nat.le_of_ble_eq_true rfl⟩) hM hK hS rfl hl.1 rfl (lv_room (Nat.le_of_ble_eq_true rfl)) dX8_drop_6 ⟨Nat.le_of_ble_eq_true rfl, Nat.le_of_ble_eq_true rfl⟩ (fun r6 V6 H locs hp6 hM hS => ?_)
  obtain ⟨er6, eV⟩ := hp6
  rw [eV] at hM; clear eV
  refine lv_if_ne (tgt := 15) hx hb dX8_drop_9 (by decide) (fun c_9 => ?_) (fun c_9 => ?_)
  · have i1 : in8 t = true := b2i_ne0 (by rw [← er6]; exact c_9)
    obtain ⟨h8t, ent⟩ := in8_r i1
    refine lv_aload_n hx hb dX8_drop_15 rfl (lv_at hl 0 rfl) ?_
    refine w_gr 8 21 596 (T := TX8) (N := 42) hx hb hts inw8 hown hK.1 hM (by decide) (by decide) (by decide) (by decide) (by decide) rfl (by decide) k59 rfl dX8_drop_16 ?_
    refine lv_iload_n hx hb dX8_drop_19 rfl (lv_at hl 1 rfl) ?_
    have i_20 : (t : Int32) = nI (rj t) := ent
    refine w_zld (N := 9) hx hb hK.1 hM (by decide) (by decide) (by decide) (by rw [i_20]; exact vp_in_nI (by omega) (by omega)) dX8_drop_20 ?_
    have j_20 : t.toNatClampNeg = rj t := (congrArg Int32.toNatClampNeg i_20).trans (nI_clamp (by omega))
    have q : (V2 596 t.toNatClampNeg : Int32) = V2 596 (rj t) := by rw [j_20]
    refine lv_eqi q ?_
    have q : (V2 596 (rj t) : Int32) = b2i (σ.2.1 (rj t)).isSome := (cT _ h8t).b
    refine lv_eqi q ?_
    refine lv_if_eq (tgt := 28) hx hb dX8_drop_21 (by decide) (fun c_21 => ?_) (fun c_21 => ?_)
    · have j1 : (σ.2.1 (rj t)).isSome = false := b2i_eq0 c_21
      refine lv_iconst (v := 0) hx hb dX8_drop_28 (by decide) ?_
      refine lv_istore_n (lv' := [(2, .int 0), (0, .ref (E.1 + 580)), (1, .int t)]) hx hb dX8_drop_29 rfl hl (by decide) rfl (fun ls hl => ?_)
      refine lv_aload_n hx hb dX8_drop_30 rfl (lv_at hl 1 rfl) ?_
      refine w_gr 8 21 596 (T := TX8) (N := 42) hx hb hts inw8 hown hK.1 hM (by decide) (by decide) (by decide) (by decide) (by decide) rfl (by decide) k59 rfl dX8_drop_31 ?_
      refine lv_iload_n hx hb dX8_drop_34 rfl (lv_at hl 2 rfl) ?_
      refine lv_iconst (v := 0) hx hb dX8_drop_35 (by decide) ?_
      have i_36 : (t : Int32) = nI (rj t) := ent
      have j_36 : t.toNatClampNeg = rj t := (congrArg Int32.toNatClampNeg i_36).trans (nI_clamp (by omega))
      refine w_zst (N := 9) hx hb hK.1 hM hS (by decide) (by decide) (by decide) (by rw [i_36]; exact vp_in_nI (by omega) (by omega)) (by decide) dX8_drop_36 (fun H locs hM hS => ?_)
      rw [j_36] at hM
      generalize hV36 : up2 V2 596 (rj t) 0 = V36 at hM
      refine lv_iload_n hx hb dX8_drop_37 rfl (lv_at hl 0 rfl) ?_
      have hpost : (fun v V' => v = (opDrop σ t).1 ∧ repM V' (opDrop σ t).2 ∧ frC V V') 0 V36 := by
        have hq : opDrop σ t = (b2i (σ.2.1 (rj t)).isSome, sTok σ (rj t) none) := by simp [opDrop, i1]
        have h9 := hC2.drop h8t hV36
        rw [hq, j1]; exact ⟨rfl, h9.1, fC2.trans h9.2⟩
      exact w_iret V36 hx hb hret hK hS hM (hpost) hlocks dX8_drop_38
    · have j1 : (σ.2.1 (rj t)).isSome = true := b2i_ne0 c_21
      refine lv_iconst (v := 1) hx hb dX8_drop_24 (by decide) ?_
      refine lv_goto (tgt := 29) hx hb dX8_drop_25 (by decide) ?_
      refine lv_istore_n (lv' := [(2, .int 1), (0, .ref (E.1 + 580)), (1, .int t)]) hx hb dX8_drop_29 rfl hl (by decide) rfl (fun ls hl => ?_)
      refine lv_aload_n hx hb dX8_drop_30 rfl (lv_at hl 1 rfl) ?_
      refine w_gr 8 21 596 (T := TX8) (N := 42) hx hb hts inw8 hown hK.1 hM (by decide) (by decide) (by decide) (by decide) (by decide) rfl (by decide) k59 rfl dX8_drop_31 ?_
      refine lv_iload_n hx hb dX8_drop_34 rfl (lv_at hl 2 rfl) ?_
      refine lv_iconst (v := 0) hx hb dX8_drop_35 (by decide) ?_
      have i_36 : (t : Int32) = nI (rj t) := ent
      have j_36 : t.toNatClampNeg = rj t := (congrArg Int32.toNatClampNeg i_36).trans (nI_clamp (by omega))
      refine w_zst (N := 9) hx hb hK.1 hM hS (by decide) (by decide) (by decide) (by rw [i_36]; exact vp_in_nI (by omega) (by omega)) (by decide) dX8_drop_36 (fun H locs hM hS => ?_)
      rw [j_36] at hM
      generalize hV36 : up2 V2 596 (rj t) 0 = V36 at hM
      refine lv_iload_n hx hb dX8_drop_37 rfl (lv_at hl 0 rfl) ?_
      have hpost : (fun v V' => v = (opDrop σ t).1 ∧ repM V' (opDrop σ t).2 ∧ frC V V') 1 V36 := by
        have hq : opDrop σ t = (b2i (σ.2.1 (rj t)).isSome, sTok σ (rj t) none) := by simp [opDrop, i1]
        have h9 := hC2.drop h8t hV36
        rw [hq, j1]; exact ⟨rfl, h9.1, fC2.trans h9.2⟩
      exact w_iret V36 hx hb hret hK hS hM (hpost) hlocks dX8_drop_38
  · have i1 : in8 t = false := b2i_eq0 (by rw [← er6]; exact c_9)
    refine lv_bipush (v := (-2)) hx hb dX8_drop_12 (by decide) ?_
    have hpost : (fun v V' => v = (opDrop σ t).1 ∧ repM V' (opDrop σ t).2 ∧ frC V V') (-2) V2 := by
      have hq : opDrop σ t = (-2, σ) := by first | (simp [opDrop, i1]; done)
      rw [hq]; exact ⟨rfl, hC2, fC2⟩
    exact w_iret V2 hx hb hret hK hS hM (hpost) hlocks dX8_drop_14

set_option maxHeartbeats 4000000 in
set_option maxRecDepth 100000 in
theorem c_X8_sign (l : Launch) {E : En} {V : Vt} {σ : St} (hC : repM V σ) (t i : Int32) : CI l yX8_sign wsX8_sign 3 E V [.ref (E.1 + 580), .int t, .int i] (fun v V' => v = (opSign σ t i).1 ∧ repM V' (opSign σ t i).2 ∧ frC V V') := by
  refine Met.ofW (cc := cX8_sign) (maxL := 3) (ret := (some .int)) (by decide) rfl ?_
  intro p e s m args below meth c s₁ B hml hv
  obtain ⟨rfl, hM, hK⟩ := hv
  have hx := B.exec
  have hb := B.bytes
  have hret := B.returns
  have hts := atoms_spec (ws := wsX8_sign) B.pre
  have hown : s.vm.findClass RX8 = some m.cls := findClass_of_methodNamed B.named
  have hlocks := B.notSynchronized
  have hsz : s.heap.size = E.1 + 610 := hM.1
  have hS : va_S (AE E) s.heap s.heap [] := va_S.rf
  have inw8 : ∀ w ∈ u_ws RX8 TX8 42, w ∈ wsX8_sign := by decide +kernel
  have k112 := hts (.fieldLink RX8 112 "LimitTokensModel" "thrown" "I") (by decide +kernel)
  have k84 := hts (.fieldLink RX8 84 "LimitTokensModel" "sign" "[I") (by decide +kernel)
  have hl := lv_entry ([.ref (E.1 + 580), .int t, .int i]) (n := 3) (Nat.le_of_ble_eq_true rfl)
  rw [lg_entry_eq]
  generalize (lg_sl ([.ref (E.1 + 580), .int t, .int i]) ++ List.replicate (3 - (lg_sl ([.ref (E.1 + 580), .int t, .int i])).length) Slot.unset).toArray = ls at hl ⊢
  have hl : lv_has ls 3 [(0, .ref (E.1 + 580)), (1, .int t), (2, .int i)] := hl
  refine lv_aload_n hx hb dX8_sign_0 rfl (lv_at hl 0 rfl) ?_
  refine lv_iconst (v := 0) hx hb dX8_sign_1 (by decide) ?_
  refine w_pi 8 0 (T := TX8) (N := 42) hx hb hts inw8 tyX8 tyX8_ok nmX8 hown hK.1 hM hS (by decide) (by decide) (by decide) (by decide) (by decide) rfl (by decide) k112 rfl rfl rfl rfl dX8_sign_2 (fun H locs hM hS => ?_)
  generalize hV2 : up2 V 580 0 0 = V2 at hM
  have hC2 := hC.fr (pFr.th hV2).1
  have fC2 := (pFr.th hV2).2
  obtain ⟨⟨oR, oT, oP⟩, cN, cR, cT, cP, cQ, cF, cL⟩ := id hC2
  refine lv_aload_n hx hb dX8_sign_5 rfl (lv_at hl 0 rfl) ?_
  refine lv_iload_n hx hb dX8_sign_6 rfl (lv_at hl 1 rfl) ?_
  refine w_cVi (C := RX8) (As := [.int t]) (rest := []) ⟨hx, hb, hml, hown, hts⟩ (c_X8_isToken l cT t) (cwV 1 hts gX8_sign_X8_isToken rfl rfl rfl (by decide +kernel) ⟨Nat.le_of_ble_eq_true rfl, Nat.le_of_ble_eq_true rfl⟩) (w_recv (ci := 8) hK hM (by decide) (by decide) (by decide) rfl) hM hK hS rfl hl.1 rfl (lv_room (Nat.le_of_ble_eq_true rfl)) dX8_sign_7 ⟨Nat.le_of_ble_eq_true rfl, Nat.le_of_ble_eq_true rfl⟩ (fun r7 V7 H locs hp7 hM hS => ?_)
  obtain ⟨er7, eV⟩ := hp7
  rw [eV] at hM; clear eV
  refine lv_if_eq (tgt := 37) hx hb dX8_sign_10 (by decide) (fun c_10 => ?_) (fun c_10 => ?_)
  · have hN : thr σ t = none := by have q9 := b2i_eq0 (er7.symm.trans c_10); cases q8 : thr σ t with | none => rfl | some x => rw [q8] at q9; cases q9
    refine lv_bipush (v := (-2)) hx hb dX8_sign_37 (by decide) ?_
    have hpost : (fun v V' => v = (opSign σ t i).1 ∧ repM V' (opSign σ t i).2 ∧ frC V V') (-2) V2 := by
      refine ⟨?_, hC2, fC2⟩
      unfold opSign
      dsimp only
      first | (rw [hT]; dsimp only; rw [if_pos i2]) | (rw [hT]; dsimp only; rw [i2]; rfl) | (rw [hN])
    exact w_iret V2 hx hb hret hK hS hM (hpost) hlocks dX8_sign_39
  · obtain ⟨T, hT⟩ : ∃ T, thr σ t = some T := Option.isSome_iff_exists.mp (b2i_ne0 (by rw [← er7]; exact c_10))
    obtain ⟨i1, ht, et, hTt⟩ := thr_some hT
    obtain ⟨hth, htk⟩ := (cT (rj t) ht).s hTt
    have hok := oT (rj t) ht T hTt
    refine lv_iload_n hx hb dX8_sign_13 rfl (lv_at hl 2 rfl) ?_
    refine lv_iconst (v := 0) hx hb dX8_sign_14 (by decide) ?_
    refine lv_bipush (v := 31) hx hb dX8_sign_15 (by decide) ?_
    refine w_cSi (As := [.int i, .int 0, .int 31]) (rest := []) ⟨hx, hb, hml, hown, hts⟩ (c_X8_within l i 0 31) (va_cwS 3 hts gX8_sign_X8_within rfl rfl rfl (by decide +kernel) ⟨Nat.le_of_ble_eq_true rfl, Nat.le_of_ble_eq_true rfl⟩) hM hK hS rfl hl.1 rfl (lv_room (Nat.le_of_ble_eq_true rfl)) dX8_sign_17 ⟨Nat.le_of_ble_eq_true rfl, Nat.le_of_ble_eq_true rfl⟩ (fun r17 V17 H locs hp17 hM hS => ?_)
    obtain ⟨er17, eV⟩ := hp17
    rw [eV] at hM; clear eV
    refine lv_if_eq (tgt := 37) hx hb dX8_sign_20 (by decide) (fun c_20 => ?_) (fun c_20 => ?_)
    · have i2 : inR i 0 31 = false := b2i_eq0 (by rw [← er17]; exact c_20)
      refine lv_bipush (v := (-2)) hx hb dX8_sign_37 (by decide) ?_
      have hpost : (fun v V' => v = (opSign σ t i).1 ∧ repM V' (opSign σ t i).2 ∧ frC V V') (-2) V2 := by
        refine ⟨?_, hC2, fC2⟩
        unfold opSign
        dsimp only
        first | (rw [hT]; dsimp only; rw [if_pos i2]) | (rw [hT]; dsimp only; rw [i2]; rfl) | (rw [hN])
      exact w_iret V2 hx hb hret hK hS hM (hpost) hlocks dX8_sign_39
    · have i2 : inR i 0 31 = true := b2i_ne0 (by rw [← er17]; exact c_20)
      obtain ⟨loi, hii, eni⟩ := inR_j i2 (m := 0) (n := 31) rfl rfl (by omega) (by omega)
      refine lv_aload_n hx hb dX8_sign_23 rfl (lv_at hl 0 rfl) ?_
      refine w_gr 8 29 604 (T := TX8) (N := 42) hx hb hts inw8 hown hK.1 hM (by decide) (by decide) (by decide) (by decide) (by decide) rfl (by decide) k84 rfl dX8_sign_24 ?_
      refine lv_bipush (v := 32) hx hb dX8_sign_27 (by decide) ?_
      refine lv_iload_n hx hb dX8_sign_29 rfl (lv_at hl 1 rfl) ?_
      refine lv_imul hx hb dX8_sign_30 ?_
      have q : (32 * t : Int32) = nI (32 * (rj t)) := (nMul rfl et)
      refine lv_eqi q ?_
      refine lv_iload_n hx hb dX8_sign_31 rfl (lv_at hl 2 rfl) ?_
      refine lv_iadd hx hb dX8_sign_32 ?_
      have q : ((nI (32 * (rj t))) + i : Int32) = nI ((32 * (rj t)) + (rj i)) := (nAdd rfl eni)
      refine lv_eqi q ?_
      have i_33 : (nI ((32 * (rj t)) + (rj i)) : Int32) = nI ((32 * (rj t)) + (rj i)) := rfl
      refine w_ild (N := 288) hx hb hK.1 hM (by decide) (by decide) (by decide) (by rw [i_33]; exact vp_in_nI (by omega) (by omega)) dX8_sign_33 ?_
      have j_33 : (nI ((32 * (rj t)) + (rj i))).toNatClampNeg = (32 * (rj t)) + (rj i) := (congrArg Int32.toNatClampNeg i_33).trans (nI_clamp (by omega))
      have q : (V2 604 (nI ((32 * (rj t)) + (rj i))).toNatClampNeg : Int32) = V2 604 ((32 * (rj t)) + (rj i)) := by rw [j_33]
      refine lv_eqi q ?_
      have q : (V2 604 ((32 * (rj t)) + (rj i)) : Int32) = T.2.1.getD (rj i) 0 := htk.2.2.2.1 _ (by have := hok.2.1.1; omega)
      refine lv_eqi q ?_
      refine lv_goto (tgt := 39) hx hb dX8_sign_34 (by decide) ?_
      have hpost : (fun v V' => v = (opSign σ t i).1 ∧ repM V' (opSign σ t i).2 ∧ frC V V') (T.2.1.getD (rj i) 0) V2 := by
        refine ⟨?_, hC2, fC2⟩
        unfold opSign
        dsimp only
        first | (rw [hT]; dsimp only; rw [if_pos i2]) | (rw [hT]; dsimp only; rw [i2]; rfl) | (rw [hN])
      exact w_iret V2 hx hb hret hK hS hM (hpost) hlocks dX8_sign_39

set_option maxHeartbeats 4000000 in
set_option maxRecDepth 100000 in
theorem c_X8_ask (l : Launch) {E : En} {V : Vt} {σ : St} (hC : repM V σ) (i x : Int32) : CI l yX8_ask wsX8_ask 2 E V [.ref (E.1 + 580), .int i, .int x] (fun v V' => v = (opAsk σ i x).1 ∧ repM V' (opAsk σ i x).2 ∧ frC V V') := by
  refine Met.ofW (cc := cX8_ask) (maxL := 4) (ret := (some .int)) (by decide) rfl ?_
  intro p e s m args below meth c s₁ B hml hv
  obtain ⟨rfl, hM, hK⟩ := hv
  have hx := B.exec
  have hb := B.bytes
  have hret := B.returns
  have hts := atoms_spec (ws := wsX8_ask) B.pre
  have hown : s.vm.findClass RX8 = some m.cls := findClass_of_methodNamed B.named
  have hlocks := B.notSynchronized
  have hsz : s.heap.size = E.1 + 610 := hM.1
  have hS : va_S (AE E) s.heap s.heap [] := va_S.rf
  have inw8 : ∀ w ∈ u_ws RX8 TX8 42, w ∈ wsX8_ask := by decide +kernel
  have k112 := hts (.fieldLink RX8 112 "LimitTokensModel" "thrown" "I") (by decide +kernel)
  have k87 := hts (.fieldLink RX8 87 "LimitTokensModel" "asked" "[I") (by decide +kernel)
  have hl := lv_entry ([.ref (E.1 + 580), .int i, .int x]) (n := 4) (Nat.le_of_ble_eq_true rfl)
  rw [lg_entry_eq]
  generalize (lg_sl ([.ref (E.1 + 580), .int i, .int x]) ++ List.replicate (4 - (lg_sl ([.ref (E.1 + 580), .int i, .int x])).length) Slot.unset).toArray = ls at hl ⊢
  have hl : lv_has ls 4 [(0, .ref (E.1 + 580)), (1, .int i), (2, .int x)] := hl
  refine lv_aload_n hx hb dX8_ask_0 rfl (lv_at hl 0 rfl) ?_
  refine lv_iconst (v := 0) hx hb dX8_ask_1 (by decide) ?_
  refine w_pi 8 0 (T := TX8) (N := 42) hx hb hts inw8 tyX8 tyX8_ok nmX8 hown hK.1 hM hS (by decide) (by decide) (by decide) (by decide) (by decide) rfl (by decide) k112 rfl rfl rfl rfl dX8_ask_2 (fun H locs hM hS => ?_)
  generalize hV2 : up2 V 580 0 0 = V2 at hM
  have hC2 := hC.fr (pFr.th hV2).1
  have fC2 := (pFr.th hV2).2
  obtain ⟨⟨oR, oT, oP⟩, cN, cR, cT, cP, cQ, cF, cL⟩ := id hC2
  refine lv_iload_n hx hb dX8_ask_5 rfl (lv_at hl 1 rfl) ?_
  refine w_cSi (As := [.int i]) (rest := []) ⟨hx, hb, hml, hown, hts⟩ (c_X8_is l i) (va_cwS 1 hts gX8_ask_X8_is rfl rfl rfl (by decide +kernel) ⟨Nat.le_of_ble_eq_true rfl, Nat.le_of_ble_eq_true rfl⟩) hM hK hS rfl hl.1 rfl (lv_room (Nat.le_of_ble_eq_true rfl)) dX8_ask_6 ⟨Nat.le_of_ble_eq_true rfl, Nat.le_of_ble_eq_true rfl⟩ (fun r6 V6 H locs hp6 hM hS => ?_)
  obtain ⟨er6, eV⟩ := hp6
  rw [eV] at hM; clear eV
  refine lv_if_eq (tgt := 22) hx hb dX8_ask_9 (by decide) (fun c_9 => ?_) (fun c_9 => ?_)
  · have i1 : in8 i = false := b2i_eq0 (by rw [← er6]; exact c_9)
    refine lv_bipush (v := (-2)) hx hb dX8_ask_22 (by decide) ?_
    have hpost : (fun v V' => v = (opAsk σ i x).1 ∧ repM V' (opAsk σ i x).2 ∧ frC V V') (-2) V2 := by
      have hq : opAsk σ i x = (-2, σ) := by first | (simp [opAsk, i1, i2]; done) | (simp [opAsk, i1]; done)
      rw [hq]; exact ⟨rfl, hC2, fC2⟩
    exact w_iret V2 hx hb hret hK hS hM (hpost) hlocks dX8_ask_24
  · have i1 : in8 i = true := b2i_ne0 (by rw [← er6]; exact c_9)
    obtain ⟨h8i, eni⟩ := in8_r i1
    refine lv_iload_n hx hb dX8_ask_12 rfl (lv_at hl 2 rfl) ?_
    refine lv_iconst (v := 0) hx hb dX8_ask_13 (by decide) ?_
    refine lv_ldc (v := 999999) hx hb hown (hts (.constant RX8 187 999999) (by decide +kernel)) dX8_ask_14 ?_
    refine w_cSi (As := [.int x, .int 0, .int 999999]) (rest := []) ⟨hx, hb, hml, hown, hts⟩ (c_X8_within l x 0 999999) (va_cwS 3 hts gX8_ask_X8_within rfl rfl rfl (by decide +kernel) ⟨Nat.le_of_ble_eq_true rfl, Nat.le_of_ble_eq_true rfl⟩) hM hK hS rfl hl.1 rfl (lv_room (Nat.le_of_ble_eq_true rfl)) dX8_ask_16 ⟨Nat.le_of_ble_eq_true rfl, Nat.le_of_ble_eq_true rfl⟩ (fun r16 V16 H locs hp16 hM hS => ?_)
    obtain ⟨er16, eV⟩ := hp16
    rw [eV] at hM; clear eV
    refine lv_if_ne (tgt := 25) hx hb dX8_ask_19 (by decide) (fun c_19 => ?_) (fun c_19 => ?_)
    · have i2 : inR x 0 999999 = true := b2i_ne0 (by rw [← er16]; exact c_19)
      refine lv_aload_n hx hb dX8_ask_25 rfl (lv_at hl 0 rfl) ?_
      refine w_gr 8 30 605 (T := TX8) (N := 42) hx hb hts inw8 hown hK.1 hM (by decide) (by decide) (by decide) (by decide) (by decide) rfl (by decide) k87 rfl dX8_ask_26 ?_
      refine lv_iload_n hx hb dX8_ask_29 rfl (lv_at hl 1 rfl) ?_
      have i_30 : (i : Int32) = nI (rj i) := eni
      refine w_ild (N := 8) hx hb hK.1 hM (by decide) (by decide) (by decide) (by rw [i_30]; exact vp_in_nI (by omega) (by omega)) dX8_ask_30 ?_
      have j_30 : i.toNatClampNeg = rj i := (congrArg Int32.toNatClampNeg i_30).trans (nI_clamp (by omega))
      have q : (V2 605 i.toNatClampNeg : Int32) = V2 605 (rj i) := by rw [j_30]
      refine lv_eqi q ?_
      have q : (V2 605 (rj i) : Int32) = σ.2.2.2.1 (rj i) := cQ _ h8i
      refine lv_eqi q ?_
      refine lv_topi (fun x3_31 ex3_31 => ?_)
      refine lv_istore_n (lv' := [(3, .int x3_31), (0, .ref (E.1 + 580)), (1, .int i), (2, .int x)]) hx hb dX8_ask_31 rfl hl (by decide) rfl (fun ls hl => ?_)
      refine lv_aload_n hx hb dX8_ask_32 rfl (lv_at hl 1 rfl) ?_
      refine w_gr 8 30 605 (T := TX8) (N := 42) hx hb hts inw8 hown hK.1 hM (by decide) (by decide) (by decide) (by decide) (by decide) rfl (by decide) k87 rfl dX8_ask_33 ?_
      refine lv_iload_n hx hb dX8_ask_36 rfl (lv_at hl 2 rfl) ?_
      refine lv_iload_n hx hb dX8_ask_37 rfl (lv_at hl 3 rfl) ?_
      have i_38 : (i : Int32) = nI (rj i) := eni
      have j_38 : i.toNatClampNeg = rj i := (congrArg Int32.toNatClampNeg i_38).trans (nI_clamp (by omega))
      refine w_ist (N := 8) hx hb hK.1 hM hS (by decide) (by decide) (by decide) (by rw [i_38]; exact vp_in_nI (by omega) (by omega)) dX8_ask_38 (fun H locs hM hS => ?_)
      rw [j_38] at hM
      generalize hV38 : up2 V2 605 (rj i) x = V38 at hM
      refine lv_iload_n hx hb dX8_ask_39 rfl (lv_at hl 0 rfl) ?_
      have hpost : (fun v V' => v = (opAsk σ i x).1 ∧ repM V' (opAsk σ i x).2 ∧ frC V V') x3_31 V38 := by
        have hq : opAsk σ i x = (σ.2.2.2.1 (rj i), sReq σ (rj i) x) := by simp [opAsk, i1, i2]
        have h9 := hC2.req h8i hV38
        rw [hq]; exact ⟨ex3_31, h9.1, fC2.trans h9.2⟩
      exact w_iret V38 hx hb hret hK hS hM (hpost) hlocks dX8_ask_40
    · have i2 : inR x 0 999999 = false := b2i_eq0 (by rw [← er16]; exact c_19)
      refine lv_bipush (v := (-2)) hx hb dX8_ask_22 (by decide) ?_
      have hpost : (fun v V' => v = (opAsk σ i x).1 ∧ repM V' (opAsk σ i x).2 ∧ frC V V') (-2) V2 := by
        have hq : opAsk σ i x = (-2, σ) := by first | (simp [opAsk, i1, i2]; done) | (simp [opAsk, i1]; done)
        rw [hq]; exact ⟨rfl, hC2, fC2⟩
      exact w_iret V2 hx hb hret hK hS hM (hpost) hlocks dX8_ask_24

set_option maxHeartbeats 4000000 in
set_option maxRecDepth 100000 in
theorem c_X8_place_ (l : Launch) {E : En} {V : Vt} {σ : St} (hC : repM V σ)  : CI l yX8_place_ wsX8_place_ 2 E V [.ref (E.1 + 580)] (fun v V' => v = (opPlace σ).1 ∧ repM V' (opPlace σ).2 ∧ frC V V') := by
  refine Met.ofW (cc := cX8_place_) (maxL := 1) (ret := (some .int)) (by decide) rfl ?_
  intro p e s m args below meth c s₁ B hml hv
  obtain ⟨rfl, hM, hK⟩ := hv
  have hx := B.exec
  have hb := B.bytes
  have hret := B.returns
  have hts := atoms_spec (ws := wsX8_place_) B.pre
  have hown : s.vm.findClass RX8 = some m.cls := findClass_of_methodNamed B.named
  have hlocks := B.notSynchronized
  have hsz : s.heap.size = E.1 + 610 := hM.1
  have hS : va_S (AE E) s.heap s.heap [] := va_S.rf
  have inw8 : ∀ w ∈ u_ws RX8 TX8 42, w ∈ wsX8_place_ := by decide +kernel
  have k112 := hts (.fieldLink RX8 112 "LimitTokensModel" "thrown" "I") (by decide +kernel)
  have k55 := hts (.fieldLink RX8 55 "LimitTokensModel" "place" "I") (by decide +kernel)
  have hl := lv_entry ([.ref (E.1 + 580)]) (n := 1) (Nat.le_of_ble_eq_true rfl)
  rw [lg_entry_eq]
  generalize (lg_sl ([.ref (E.1 + 580)]) ++ List.replicate (1 - (lg_sl ([.ref (E.1 + 580)])).length) Slot.unset).toArray = ls at hl ⊢
  have hl : lv_has ls 1 [(0, .ref (E.1 + 580))] := hl
  refine lv_aload_n hx hb dX8_place__0 rfl (lv_at hl 0 rfl) ?_
  refine lv_iconst (v := 0) hx hb dX8_place__1 (by decide) ?_
  refine w_pi 8 0 (T := TX8) (N := 42) hx hb hts inw8 tyX8 tyX8_ok nmX8 hown hK.1 hM hS (by decide) (by decide) (by decide) (by decide) (by decide) rfl (by decide) k112 rfl rfl rfl rfl dX8_place__2 (fun H locs hM hS => ?_)
  generalize hV2 : up2 V 580 0 0 = V2 at hM
  have hC2 := hC.fr (pFr.th hV2).1
  have fC2 := (pFr.th hV2).2
  obtain ⟨⟨oR, oT, oP⟩, cN, cR, cT, cP, cQ, cF, cL⟩ := id hC2
  refine lv_aload_n hx hb dX8_place__5 rfl (lv_at hl 0 rfl) ?_
  refine w_gi 8 20 (T := TX8) (N := 42) hx hb hts inw8 hown hK.1 hM (by decide) (by decide) (by decide) (by decide) (by decide) rfl (by decide) k55 rfl dX8_place__6 ?_
  exact w_iret V2 hx hb hret hK hS hM (⟨cL, hC2, fC2⟩) hlocks dX8_place__9

set_option maxHeartbeats 4000000 in
set_option maxRecDepth 100000 in
theorem c_X8_fault (l : Launch) {E : En} {V : Vt} {σ : St} (hC : repM V σ) (w : Int32) : CI l yX8_fault wsX8_fault 2 E V [.ref (E.1 + 580), .int w] (fun v V' => v = (opFault σ w).1 ∧ repM V' (opFault σ w).2 ∧ frC V V') := by
  refine Met.ofW (cc := cX8_fault) (maxL := 2) (ret := (some .int)) (by decide) rfl ?_
  intro p e s m args below meth c s₁ B hml hv
  obtain ⟨rfl, hM, hK⟩ := hv
  have hx := B.exec
  have hb := B.bytes
  have hret := B.returns
  have hts := atoms_spec (ws := wsX8_fault) B.pre
  have hown : s.vm.findClass RX8 = some m.cls := findClass_of_methodNamed B.named
  have hlocks := B.notSynchronized
  have hsz : s.heap.size = E.1 + 610 := hM.1
  have hS : va_S (AE E) s.heap s.heap [] := va_S.rf
  have inw8 : ∀ w ∈ u_ws RX8 TX8 42, w ∈ wsX8_fault := by decide +kernel
  have k112 := hts (.fieldLink RX8 112 "LimitTokensModel" "thrown" "I") (by decide +kernel)
  have k198 := hts (.fieldLink RX8 198 "LimitTokensModel" "proved" "Z") (by decide +kernel)
  have k202 := hts (.fieldLink RX8 202 "LimitTokensModel" "begun" "I") (by decide +kernel)
  have k105 := hts (.fieldLink RX8 105 "LimitTokensModel" "faultLimit" "I") (by decide +kernel)
  have k102 := hts (.fieldLink RX8 102 "LimitTokensModel" "faultToken" "I") (by decide +kernel)
  have hl := lv_entry ([.ref (E.1 + 580), .int w]) (n := 2) (Nat.le_of_ble_eq_true rfl)
  rw [lg_entry_eq]
  generalize (lg_sl ([.ref (E.1 + 580), .int w]) ++ List.replicate (2 - (lg_sl ([.ref (E.1 + 580), .int w])).length) Slot.unset).toArray = ls at hl ⊢
  have hl : lv_has ls 2 [(0, .ref (E.1 + 580)), (1, .int w)] := hl
  refine lv_aload_n hx hb dX8_fault_0 rfl (lv_at hl 0 rfl) ?_
  refine lv_iconst (v := 0) hx hb dX8_fault_1 (by decide) ?_
  refine w_pi 8 0 (T := TX8) (N := 42) hx hb hts inw8 tyX8 tyX8_ok nmX8 hown hK.1 hM hS (by decide) (by decide) (by decide) (by decide) (by decide) rfl (by decide) k112 rfl rfl rfl rfl dX8_fault_2 (fun H locs hM hS => ?_)
  generalize hV2 : up2 V 580 0 0 = V2 at hM
  have hC2 := hC.fr (pFr.th hV2).1
  have fC2 := (pFr.th hV2).2
  obtain ⟨⟨oR, oT, oP⟩, cN, cR, cT, cP, cQ, cF, cL⟩ := id hC2
  refine lv_iload_n hx hb dX8_fault_5 rfl (lv_at hl 1 rfl) ?_
  refine lv_iconst (v := 0) hx hb dX8_fault_6 (by decide) ?_
  refine lv_iconst (v := 2) hx hb dX8_fault_7 (by decide) ?_
  refine w_cSi (As := [.int w, .int 0, .int 2]) (rest := []) ⟨hx, hb, hml, hown, hts⟩ (c_X8_within l w 0 2) (va_cwS 3 hts gX8_fault_X8_within rfl rfl rfl (by decide +kernel) ⟨Nat.le_of_ble_eq_true rfl, Nat.le_of_ble_eq_true rfl⟩) hM hK hS rfl hl.1 rfl (lv_room (Nat.le_of_ble_eq_true rfl)) dX8_fault_8 ⟨Nat.le_of_ble_eq_true rfl, Nat.le_of_ble_eq_true rfl⟩ (fun r8 V8 H locs hp8 hM hS => ?_)
  obtain ⟨er8, eV⟩ := hp8
  rw [eV] at hM; clear eV
  refine lv_if_ne (tgt := 17) hx hb dX8_fault_11 (by decide) (fun c_11 => ?_) (fun c_11 => ?_)
  · have i1 : inR w 0 2 = true := b2i_ne0 (by rw [← er8]; exact c_11)
    obtain ⟨low, hiw, enw⟩ := inR_j i1 (m := 0) (n := 2) rfl rfl (by omega) (by omega)
    refine lv_aload_n hx hb dX8_fault_17 rfl (lv_at hl 0 rfl) ?_
    refine w_gi 8 36 (T := TX8) (N := 42) hx hb hts inw8 hown hK.1 hM (by decide) (by decide) (by decide) (by decide) (by decide) rfl (by decide) k198 rfl dX8_fault_18 ?_
    refine lv_if_ne (tgt := 28) hx hb dX8_fault_21 (by decide) (fun c_21 => ?_) (fun c_21 => ?_)
    · refine lv_iload_n hx hb dX8_fault_28 rfl (lv_at hl 1 rfl) ?_
      refine lv_if_ne (tgt := 39) hx hb dX8_fault_29 (by decide) (fun c_29 => ?_) (fun c_29 => ?_)
      · refine lv_iload_n hx hb dX8_fault_39 rfl (lv_at hl 1 rfl) ?_
        refine lv_iconst (v := 1) hx hb dX8_fault_40 (by decide) ?_
        refine lv_icmp_ne (tgt := 51) hx hb dX8_fault_41 (by decide) (fun c_41 => ?_) (fun c_41 => ?_)
        · refine lv_aload_n hx hb dX8_fault_51 rfl (lv_at hl 0 rfl) ?_
          refine w_gi 8 39 (T := TX8) (N := 42) hx hb hts inw8 hown hK.1 hM (by decide) (by decide) (by decide) (by decide) (by decide) rfl (by decide) k202 rfl dX8_fault_52 ?_
          have hpost : (fun v V' => v = (opFault σ w).1 ∧ repM V' (opFault σ w).2 ∧ frC V V') (V2 580 39) V2 := by
            refine ⟨?_, hC2, fC2⟩
            unfold opFault
            dsimp only
            have hw : w = 0 ∨ w = 1 ∨ w = 2 := by have h3 : rj w = 0 ∨ rj w = 1 ∨ rj w = 2 := (by omega); rcases h3 with q | q | q <;> rw [q] at enw <;> simp only [enw] <;> decide
            rcases cF with ⟨q0, q1⟩ | ⟨q0, q1, q2, q3⟩
            · exact absurd q0 c_21
            · rcases hw with rfl | rfl | rfl <;> first | exact absurd rfl c_29 | exact absurd rfl c_41 | exact absurd c_29 (by decide) | exact absurd c_41 (by decide) | (rw [if_pos rfl]; exact q1) | (rw [if_neg (by decide), if_pos rfl]; exact q2) | (rw [if_neg (by decide), if_neg (by decide), if_pos rfl]; exact q3)
          exact w_iret V2 hx hb hret hK hS hM (hpost) hlocks dX8_fault_55
        · refine lv_aload_n hx hb dX8_fault_44 rfl (lv_at hl 0 rfl) ?_
          refine w_gi 8 38 (T := TX8) (N := 42) hx hb hts inw8 hown hK.1 hM (by decide) (by decide) (by decide) (by decide) (by decide) rfl (by decide) k105 rfl dX8_fault_45 ?_
          refine lv_goto (tgt := 55) hx hb dX8_fault_48 (by decide) ?_
          have hpost : (fun v V' => v = (opFault σ w).1 ∧ repM V' (opFault σ w).2 ∧ frC V V') (V2 580 38) V2 := by
            refine ⟨?_, hC2, fC2⟩
            unfold opFault
            dsimp only
            have hw : w = 0 ∨ w = 1 ∨ w = 2 := by have h3 : rj w = 0 ∨ rj w = 1 ∨ rj w = 2 := (by omega); rcases h3 with q | q | q <;> rw [q] at enw <;> simp only [enw] <;> decide
            rcases cF with ⟨q0, q1⟩ | ⟨q0, q1, q2, q3⟩
            · exact absurd q0 c_21
            · rcases hw with rfl | rfl | rfl <;> first | exact absurd rfl c_29 | exact absurd rfl c_41 | exact absurd c_29 (by decide) | exact absurd c_41 (by decide) | (rw [if_pos rfl]; exact q1) | (rw [if_neg (by decide), if_pos rfl]; exact q2) | (rw [if_neg (by decide), if_neg (by decide), if_pos rfl]; exact q3)
          exact w_iret V2 hx hb hret hK hS hM (hpost) hlocks dX8_fault_55
      · refine lv_aload_n hx hb dX8_fault_32 rfl (lv_at hl 0 rfl) ?_
        refine w_gi 8 37 (T := TX8) (N := 42) hx hb hts inw8 hown hK.1 hM (by decide) (by decide) (by decide) (by decide) (by decide) rfl (by decide) k102 rfl dX8_fault_33 ?_
        refine lv_goto (tgt := 55) hx hb dX8_fault_36 (by decide) ?_
        have hpost : (fun v V' => v = (opFault σ w).1 ∧ repM V' (opFault σ w).2 ∧ frC V V') (V2 580 37) V2 := by
          refine ⟨?_, hC2, fC2⟩
          unfold opFault
          dsimp only
          have hw : w = 0 ∨ w = 1 ∨ w = 2 := by have h3 : rj w = 0 ∨ rj w = 1 ∨ rj w = 2 := (by omega); rcases h3 with q | q | q <;> rw [q] at enw <;> simp only [enw] <;> decide
          rcases cF with ⟨q0, q1⟩ | ⟨q0, q1, q2, q3⟩
          · exact absurd q0 c_21
          · rcases hw with rfl | rfl | rfl <;> first | exact absurd rfl c_29 | exact absurd rfl c_41 | exact absurd c_29 (by decide) | exact absurd c_41 (by decide) | (rw [if_pos rfl]; exact q1) | (rw [if_neg (by decide), if_pos rfl]; exact q2) | (rw [if_neg (by decide), if_neg (by decide), if_pos rfl]; exact q3)
        exact w_iret V2 hx hb hret hK hS hM (hpost) hlocks dX8_fault_55
    · refine lv_iconst (v := (-1)) hx hb dX8_fault_24 (by decide) ?_
      refine lv_goto (tgt := 55) hx hb dX8_fault_25 (by decide) ?_
      have hpost : (fun v V' => v = (opFault σ w).1 ∧ repM V' (opFault σ w).2 ∧ frC V V') (-1) V2 := by
        refine ⟨?_, hC2, fC2⟩
        unfold opFault
        dsimp only
        have hw : w = 0 ∨ w = 1 ∨ w = 2 := by have h3 : rj w = 0 ∨ rj w = 1 ∨ rj w = 2 := (by omega); rcases h3 with q | q | q <;> rw [q] at enw <;> simp only [enw] <;> decide
        rcases cF with ⟨q0, q1⟩ | ⟨q0, q1, q2, q3⟩
        · rw [q1]; rcases hw with rfl | rfl | rfl <;> rfl
        · exact absurd (q0.symm.trans c_21) (by decide)
      exact w_iret V2 hx hb hret hK hS hM (hpost) hlocks dX8_fault_55
  · have i1 : inR w 0 2 = false := b2i_eq0 (by rw [← er8]; exact c_11)
    refine lv_bipush (v := (-2)) hx hb dX8_fault_14 (by decide) ?_
    have hpost : (fun v V' => v = (opFault σ w).1 ∧ repM V' (opFault σ w).2 ∧ frC V V') (-2) V2 := by
      have hq : opFault σ w = (-2, σ) := by
        simp only [opFault]
        rw [if_neg (fun q => by rw [q] at i1; exact absurd i1 (by decide)), if_neg (fun q => by rw [q] at i1; exact absurd i1 (by decide)), if_neg (fun q => by rw [q] at i1; exact absurd i1 (by decide))]
      rw [hq]; exact ⟨rfl, hC2, fC2⟩
    exact w_iret V2 hx hb hret hK hS hM (hpost) hlocks dX8_fault_16
