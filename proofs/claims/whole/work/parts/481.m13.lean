-- needs: 44 450 451 452 453 454 455 456 457 460 462 463 464 466 475 476 480
set_option maxHeartbeats 4000000 in
set_option maxRecDepth 100000 in
theorem c_X8_truth (l : Launch) {E : En} {V : Vt} {σ : St} (hC : repM V σ) (r : Int32) : CI l yX8_truth wsX8_truth 3 E V [.ref (E.1 + 580), .int r] (fun v V' => v = (opTruth σ r).1 ∧ repM V' (opTruth σ r).2 ∧ frC V V') := by
  refine Met.ofW (cc := cX8_truth) (maxL := 2) (ret := (some .int)) (by decide) rfl ?_
  intro p e s m args below meth c s₁ B hml hv
  obtain ⟨rfl, hM, hK⟩ := hv
  have hx := B.exec
  have hb := B.bytes
  have hret := B.returns
  have hts := atoms_spec (ws := wsX8_truth) B.pre
  have hown : s.vm.findClass RX8 = some m.cls := findClass_of_methodNamed B.named
  have hlocks := B.notSynchronized
  have hsz : s.heap.size = E.1 + 610 := hM.1
  have hS : va_S (AE E) s.heap s.heap [] := va_S.rf
  have inw8 : ∀ w ∈ u_ws RX8 TX8 42, w ∈ wsX8_truth := by decide +kernel
  have k112 := hts (.fieldLink RX8 112 "LimitTokensModel" "thrown" "I") (by decide +kernel)
  have k46 := hts (.fieldLink RX8 46 "LimitTokensModel" "register" "[I") (by decide +kernel)
  have k49 := hts (.fieldLink RX8 49 "LimitTokensModel" "registerSize" "[I") (by decide +kernel)
  have hl := lv_entry ([.ref (E.1 + 580), .int r]) (n := 2) (Nat.le_of_ble_eq_true rfl)
  rw [lg_entry_eq]
  generalize (lg_sl ([.ref (E.1 + 580), .int r]) ++ List.replicate (2 - (lg_sl ([.ref (E.1 + 580), .int r])).length) Slot.unset).toArray = ls at hl ⊢
  have hl : lv_has ls 2 [(0, .ref (E.1 + 580)), (1, .int r)] := hl
  refine lv_aload_n hx hb dX8_truth_0 rfl (lv_at hl 0 rfl) ?_
  refine lv_iconst (v := 0) hx hb dX8_truth_1 (by decide) ?_
  refine w_pi 8 0 (T := TX8) (N := 42) hx hb hts inw8 tyX8 tyX8_ok nmX8 hown hK.1 hM hS (by decide) (by decide) (by decide) (by decide) (by decide) rfl (by decide) k112 rfl rfl rfl rfl dX8_truth_2 (fun H locs hM hS => ?_)
  generalize hV2 : up2 V 580 0 0 = V2 at hM
  have hC2 := hC.fr (pFr.th hV2).1
  have fC2 := (pFr.th hV2).2
  obtain ⟨⟨oR, oT, oP⟩, cN, cR, cT, cP, cQ, cF, cL⟩ := id hC2
  refine lv_iload_n hx hb dX8_truth_5 rfl (lv_at hl 1 rfl) ?_
  refine w_cSi (As := [.int r]) (rest := []) ⟨hx, hb, hml, hown, hts⟩ (c_X8_is l r) (va_cwS 1 hts gX8_truth_X8_is rfl rfl rfl (by decide +kernel) ⟨Nat.le_of_ble_eq_true rfl, Nat.le_of_ble_eq_true rfl⟩) hM hK hS rfl hl.1 rfl (lv_room (Nat.le_of_ble_eq_true rfl)) dX8_truth_6 ⟨Nat.le_of_ble_eq_true rfl, Nat.le_of_ble_eq_true rfl⟩ (fun r6 V6 H locs hp6 hM hS => ?_)
  obtain ⟨er6, eV⟩ := hp6
  rw [eV] at hM; clear eV
  refine lv_if_ne (tgt := 17) hx hb dX8_truth_9 (by decide) (fun c_9 => ?_) (fun c_9 => ?_)
  · have i1 : in8 r = true := b2i_ne0 (by rw [← er6]; exact c_9)
    obtain ⟨h8r, enr⟩ := in8_r i1
    refine lv_aload_n hx hb dX8_truth_17 rfl (lv_at hl 0 rfl) ?_
    refine lv_aload_n hx hb dX8_truth_18 rfl (lv_at hl 0 rfl) ?_
    refine w_gr 8 16 593 (T := TX8) (N := 42) hx hb hts inw8 hown hK.1 hM (by decide) (by decide) (by decide) (by decide) (by decide) rfl (by decide) k46 rfl dX8_truth_19 ?_
    refine lv_bipush (v := 100) hx hb dX8_truth_22 (by decide) ?_
    refine lv_iload_n hx hb dX8_truth_24 rfl (lv_at hl 1 rfl) ?_
    refine lv_imul hx hb dX8_truth_25 ?_
    have q : (100 * r : Int32) = nI (100 * (rj r)) := (nMul rfl enr)
    refine lv_eqi q ?_
    refine lv_aload_n hx hb dX8_truth_26 rfl (lv_at hl 0 rfl) ?_
    refine w_gr 8 17 594 (T := TX8) (N := 42) hx hb hts inw8 hown hK.1 hM (by decide) (by decide) (by decide) (by decide) (by decide) rfl (by decide) k49 rfl dX8_truth_27 ?_
    refine lv_iload_n hx hb dX8_truth_30 rfl (lv_at hl 1 rfl) ?_
    have i_31 : (r : Int32) = nI (rj r) := enr
    refine w_ild (N := 8) hx hb hK.1 hM (by decide) (by decide) (by decide) (by rw [i_31]; exact vp_in_nI (by omega) (by omega)) dX8_truth_31 ?_
    have j_31 : r.toNatClampNeg = rj r := (congrArg Int32.toNatClampNeg i_31).trans (nI_clamp (by omega))
    have q : (V2 594 r.toNatClampNeg : Int32) = V2 594 (rj r) := by rw [j_31]
    refine lv_eqi q ?_
    have q : (V2 594 (rj r) : Int32) = nI (σ.1 (rj r)).length := (cR _ h8r).1
    refine lv_eqi q ?_
    refine w_cVi (C := RX8) (As := [.ref (E.1 + 593), .int (nI (100 * (rj r))), .int (nI (σ.1 (rj r)).length)]) (rest := []) ⟨hx, hb, hml, hown, hts⟩ (c_X8_truthOf l a593 (b := 100 * rj r) (lt := σ.1 (rj r)) (cR _ h8r).2 (by have := (oR _ h8r).1; omega) (oR _ h8r).2 (qq := σ.2.2.2.1) cQ) (cwV 3 hts gX8_truth_X8_truthOf rfl rfl rfl (by decide +kernel) ⟨Nat.le_of_ble_eq_true rfl, Nat.le_of_ble_eq_true rfl⟩) (w_recv (ci := 8) hK hM (by decide) (by decide) (by decide) rfl) hM hK hS rfl hl.1 rfl (lv_room (Nat.le_of_ble_eq_true rfl)) dX8_truth_32 ⟨Nat.le_of_ble_eq_true rfl, Nat.le_of_ble_eq_true rfl⟩ (fun r32 V32 H locs hp32 hM hS => ?_)
    obtain ⟨er32, eV⟩ := hp32
    rw [eV] at hM; clear eV
    have hpost : (fun v V' => v = (opTruth σ r).1 ∧ repM V' (opTruth σ r).2 ∧ frC V V') r32 V2 := by
      refine ⟨?_, hC2, fC2⟩
      rw [er32]; simp [opTruth, i1]
    exact w_iret V2 hx hb hret hK hS hM (hpost) hlocks dX8_truth_35
  · have i1 : in8 r = false := b2i_eq0 (by rw [← er6]; exact c_9)
    refine lv_bipush (v := (-2)) hx hb dX8_truth_12 (by decide) ?_
    refine lv_goto (tgt := 35) hx hb dX8_truth_14 (by decide) ?_
    have hpost : (fun v V' => v = (opTruth σ r).1 ∧ repM V' (opTruth σ r).2 ∧ frC V V') (-2) V2 := by
      refine ⟨?_, hC2, fC2⟩
      simp [opTruth, i1]
    exact w_iret V2 hx hb hret hK hS hM (hpost) hlocks dX8_truth_35

set_option maxHeartbeats 4000000 in
set_option maxRecDepth 100000 in
theorem c_X8_fail (l : Launch) {E : En} {V : Vt} (w t u : Int32) : CI l yX8_fail wsX8_fail 0 E V [.ref (E.1 + 580), .int w, .int t, .int u] (fun v V' => v = -10 - w ∧ V' = up2 (up2 V 580 37 t) 580 38 u) := by
  refine Met.ofW (cc := cX8_fail) (maxL := 4) (ret := (some .int)) (by decide) rfl ?_
  intro p e s m args below meth c s₁ B hml hv
  obtain ⟨rfl, hM, hK⟩ := hv
  have hx := B.exec
  have hb := B.bytes
  have hret := B.returns
  have hts := atoms_spec (ws := wsX8_fail) B.pre
  have hown : s.vm.findClass RX8 = some m.cls := findClass_of_methodNamed B.named
  have hlocks := B.notSynchronized
  have hsz : s.heap.size = E.1 + 610 := hM.1
  have hS : va_S (AE E) s.heap s.heap [] := va_S.rf
  have inw8 : ∀ w ∈ u_ws RX8 TX8 42, w ∈ wsX8_fail := by decide +kernel
  have k102 := hts (.fieldLink RX8 102 "LimitTokensModel" "faultToken" "I") (by decide +kernel)
  have k105 := hts (.fieldLink RX8 105 "LimitTokensModel" "faultLimit" "I") (by decide +kernel)
  have hl := lv_entry ([.ref (E.1 + 580), .int w, .int t, .int u]) (n := 4) (Nat.le_of_ble_eq_true rfl)
  rw [lg_entry_eq]
  generalize (lg_sl ([.ref (E.1 + 580), .int w, .int t, .int u]) ++ List.replicate (4 - (lg_sl ([.ref (E.1 + 580), .int w, .int t, .int u])).length) Slot.unset).toArray = ls at hl ⊢
  have hl : lv_has ls 4 [(0, .ref (E.1 + 580)), (1, .int w), (2, .int t), (3, .int u)] := hl
  refine lv_aload_n hx hb dX8_fail_0 rfl (lv_at hl 0 rfl) ?_
  refine lv_iload_n hx hb dX8_fail_1 rfl (lv_at hl 2 rfl) ?_
  refine w_pi 8 37 (T := TX8) (N := 42) hx hb hts inw8 tyX8 tyX8_ok nmX8 hown hK.1 hM hS (by decide) (by decide) (by decide) (by decide) (by decide) rfl (by decide) k102 rfl rfl rfl rfl dX8_fail_2 (fun H locs hM hS => ?_)
  generalize hV2 : up2 V 580 37 t = V2 at hM
  refine lv_aload_n hx hb dX8_fail_5 rfl (lv_at hl 0 rfl) ?_
  refine lv_iload_n hx hb dX8_fail_6 rfl (lv_at hl 3 rfl) ?_
  refine w_pi 8 38 (T := TX8) (N := 42) hx hb hts inw8 tyX8 tyX8_ok nmX8 hown hK.1 hM hS (by decide) (by decide) (by decide) (by decide) (by decide) rfl (by decide) k105 rfl rfl rfl rfl dX8_fail_7 (fun H locs hM hS => ?_)
  generalize hV7 : up2 V2 580 38 u = V7 at hM
  refine lv_bipush (v := (-10)) hx hb dX8_fail_10 (by decide) ?_
  refine lv_iload_n hx hb dX8_fail_12 rfl (lv_at hl 1 rfl) ?_
  refine lv_isub hx hb dX8_fail_13 ?_
  exact w_iret V7 hx hb hret hK hS hM (⟨rfl, by rw [← hV7, ← hV2]⟩) hlocks dX8_fail_14

set_option maxHeartbeats 4000000 in
set_option maxRecDepth 100000 in
theorem c_X8_beginWalk (l : Launch) {E : En} {V : Vt} {h dp : Nat} (hh : h < 9) {t : Int32} (et : t = nI h) {kl nm : List Int32} (hk0 : buf V 10 588 kl) (hm0 : buf V 12 589 []) (hkl : kl.length ≤ 100) (n0 : V 597 h = nI nm.length) (n1 : seg V 598 (60 * h) nm) (hn60 : nm.length ≤ 60) (hdp : V 580 31 = nI dp) (hd9 : dp < 9) (cN : mCon V) : CV l yX8_beginWalk wsX8_beginWalk 4 E V [.ref (E.1 + 580), .int t] (fun V' => bwP V V' dp h (hmac kl nm)) := by
  refine Met.ofW (cc := cX8_beginWalk) (maxL := 2) (ret := none) (by decide) rfl ?_
  intro p e s m args below meth c s₁ B hml hv
  obtain ⟨rfl, hM, hK⟩ := hv
  have hx := B.exec
  have hb := B.bytes
  have hret := B.returns
  have hts := atoms_spec (ws := wsX8_beginWalk) B.pre
  have hown : s.vm.findClass RX8 = some m.cls := findClass_of_methodNamed B.named
  have hlocks := B.notSynchronized
  have hsz : s.heap.size = E.1 + 610 := hM.1
  have hS : va_S (AE E) s.heap s.heap [] := va_S.rf
  have inw8 : ∀ w ∈ u_ws RX8 TX8 42, w ∈ wsX8_beginWalk := by decide +kernel
  have k66 := hts (.fieldLink RX8 66 "LimitTokensModel" "name" "[I") (by decide +kernel)
  have k63 := hts (.fieldLink RX8 63 "LimitTokensModel" "nameSize" "[I") (by decide +kernel)
  have k37 := hts (.fieldLink RX8 37 "LimitTokensModel" "out" "[I") (by decide +kernel)
  have k96 := hts (.fieldLink RX8 96 "LimitTokensModel" "pile" "[I") (by decide +kernel)
  have k195 := hts (.fieldLink RX8 195 "LimitTokensModel" "depth" "I") (by decide +kernel)
  have k90 := hts (.fieldLink RX8 90 "LimitTokensModel" "walker" "[I") (by decide +kernel)
  have k93 := hts (.fieldLink RX8 93 "LimitTokensModel" "step" "[I") (by decide +kernel)
  have hl := lv_entry ([.ref (E.1 + 580), .int t]) (n := 2) (Nat.le_of_ble_eq_true rfl)
  rw [lg_entry_eq]
  generalize (lg_sl ([.ref (E.1 + 580), .int t]) ++ List.replicate (2 - (lg_sl ([.ref (E.1 + 580), .int t])).length) Slot.unset).toArray = ls at hl ⊢
  have hl : lv_has ls 2 [(0, .ref (E.1 + 580)), (1, .int t)] := hl
  refine lv_aload_n hx hb dX8_beginWalk_0 rfl (lv_at hl 0 rfl) ?_
  refine lv_aload_n hx hb dX8_beginWalk_1 rfl (lv_at hl 0 rfl) ?_
  refine w_gr 8 23 598 (T := TX8) (N := 42) hx hb hts inw8 hown hK.1 hM (by decide) (by decide) (by decide) (by decide) (by decide) rfl (by decide) k66 rfl dX8_beginWalk_2 ?_
  refine lv_bipush (v := 60) hx hb dX8_beginWalk_5 (by decide) ?_
  refine lv_iload_n hx hb dX8_beginWalk_7 rfl (lv_at hl 1 rfl) ?_
  refine lv_imul hx hb dX8_beginWalk_8 ?_
  have q : (60 * t : Int32) = nI (60 * h) := (nMul rfl et)
  refine lv_eqi q ?_
  refine lv_aload_n hx hb dX8_beginWalk_9 rfl (lv_at hl 0 rfl) ?_
  refine w_gr 8 22 597 (T := TX8) (N := 42) hx hb hts inw8 hown hK.1 hM (by decide) (by decide) (by decide) (by decide) (by decide) rfl (by decide) k63 rfl dX8_beginWalk_10 ?_
  refine lv_iload_n hx hb dX8_beginWalk_13 rfl (lv_at hl 1 rfl) ?_
  have i_14 : (t : Int32) = nI (h) := et
  refine w_ild (N := 9) hx hb hK.1 hM (by decide) (by decide) (by decide) (by rw [i_14]; exact vp_in_nI (by omega) (by omega)) dX8_beginWalk_14 ?_
  have j_14 : t.toNatClampNeg = h := (congrArg Int32.toNatClampNeg i_14).trans (nI_clamp (by omega))
  have q : (V 597 t.toNatClampNeg : Int32) = V 597 h := by rw [j_14]
  refine lv_eqi q ?_
  have q : (V 597 h : Int32) = nI nm.length := n0
  refine lv_eqi q ?_
  refine w_cVv (C := RX8) (As := [.ref (E.1 + 598), .int (nI (60 * h)), .int (nI nm.length)]) (rest := []) ⟨hx, hb, hml, hown, hts⟩ (m_add l a598 (by decide) hm0 (b := 60 * h) (n := nm.length) (l0 := nm) (n1) (by omega) (by simp <;> omega) (rfl)) (cwV 3 hts gX8_beginWalk_X8_add rfl rfl rfl (by decide +kernel) ⟨Nat.le_of_ble_eq_true rfl, Nat.le_of_ble_eq_true rfl⟩) (w_recv (ci := 8) hK hM (by decide) (by decide) (by decide) rfl) hM hK hS rfl hl.1 rfl (lv_room (Nat.le_of_ble_eq_true rfl)) dX8_beginWalk_15 ⟨Nat.le_of_ble_eq_true rfl, Nat.le_of_ble_eq_true rfl⟩ (fun V15 H locs hp15 hM hS => ?_)
  have F15 : frS V V15 583 591 := (frS.rf).trans (hp15.2.toS (by omega) (by decide))
  have hk15 := hk0.keep (hp15.2.2 10 (by decide)) (hp15.2.1 588 (by decide) (by decide))
  have hm15 := hp15.1
  refine lv_aload_n hx hb dX8_beginWalk_18 rfl (lv_at hl 0 rfl) ?_
  refine w_cVv (C := RX8) (As := []) (rest := []) ⟨hx, hb, hml, hown, hts⟩ (c_X8_sealNow l (fun i hi => by rw [(F15).1 582 (by omega) (by decide)]; exact cN.1 i hi) (fun i hi => by rw [(F15).1 581 (by omega) (by decide)]; exact cN.2.1 i hi) hk15 hm15 (by omega) (by simp <;> omega)) (cwV 0 hts gX8_beginWalk_X8_sealNow rfl rfl rfl (by decide +kernel) ⟨Nat.le_of_ble_eq_true rfl, Nat.le_of_ble_eq_true rfl⟩) (w_recv (ci := 8) hK hM (by decide) (by decide) (by decide) rfl) hM hK hS rfl hl.1 rfl (lv_room (Nat.le_of_ble_eq_true rfl)) dX8_beginWalk_19 ⟨Nat.le_of_ble_eq_true rfl, Nat.le_of_ble_eq_true rfl⟩ (fun V19 H locs hp19 hM hS => ?_)
  rw [List.nil_append] at hp19
  have F19 : frS V V19 583 591 := (F15).trans (hp19.2.wide (by decide))
  refine lv_aload_n hx hb dX8_beginWalk_22 rfl (lv_at hl 0 rfl) ?_
  refine w_gr 8 13 590 (T := TX8) (N := 42) hx hb hts inw8 hown hK.1 hM (by decide) (by decide) (by decide) (by decide) (by decide) rfl (by decide) k37 rfl dX8_beginWalk_23 ?_
  refine lv_aload_n hx hb dX8_beginWalk_26 rfl (lv_at hl 0 rfl) ?_
  refine w_gr 8 34 608 (T := TX8) (N := 42) hx hb hts inw8 hown hK.1 hM (by decide) (by decide) (by decide) (by decide) (by decide) rfl (by decide) k96 rfl dX8_beginWalk_27 ?_
  refine lv_bipush (v := 32) hx hb dX8_beginWalk_30 (by decide) ?_
  refine lv_aload_n hx hb dX8_beginWalk_32 rfl (lv_at hl 0 rfl) ?_
  refine w_gi 8 31 (T := TX8) (N := 42) hx hb hts inw8 hown hK.1 hM (by decide) (by decide) (by decide) (by decide) (by decide) rfl (by decide) k195 rfl dX8_beginWalk_33 ?_
  have q : (V19 580 31 : Int32) = nI dp := ((F19.2 31 (by decide) (by decide) (by decide)).trans hdp)
  refine lv_eqi q ?_
  refine lv_imul hx hb dX8_beginWalk_36 ?_
  have q : (32 * (nI dp) : Int32) = nI (32 * dp) := (nMul rfl rfl)
  refine lv_eqi q ?_
  refine w_cSv (As := [.ref (E.1 + 590), .ref (E.1 + 608), .int (nI (32 * dp))]) (rest := []) ⟨hx, hb, hml, hown, hts⟩ (c_X8_copyTo l a590 a608 (by decide) (by omega) (b := 32 * dp) (by omega)) (va_cwS 3 hts gX8_beginWalk_X8_copyTo rfl rfl rfl (by decide +kernel) ⟨Nat.le_of_ble_eq_true rfl, Nat.le_of_ble_eq_true rfl⟩) hM hK hS rfl hl.1 rfl (lv_room (Nat.le_of_ble_eq_true rfl)) dX8_beginWalk_37 ⟨Nat.le_of_ble_eq_true rfl, Nat.le_of_ble_eq_true rfl⟩ (fun V37 H locs hp37 hM hS => ?_)
  refine lv_aload_n hx hb dX8_beginWalk_40 rfl (lv_at hl 0 rfl) ?_
  refine w_gr 8 32 606 (T := TX8) (N := 42) hx hb hts inw8 hown hK.1 hM (by decide) (by decide) (by decide) (by decide) (by decide) rfl (by decide) k90 rfl dX8_beginWalk_41 ?_
  refine lv_aload_n hx hb dX8_beginWalk_44 rfl (lv_at hl 0 rfl) ?_
  refine w_gi 8 31 (T := TX8) (N := 42) hx hb hts inw8 hown hK.1 hM (by decide) (by decide) (by decide) (by decide) (by decide) rfl (by decide) k195 rfl dX8_beginWalk_45 ?_
  have q : (V37 580 31 : Int32) = nI dp := ((congrFun (hp37.2.2 580 (by decide)) 31).trans ((F19.2 31 (by decide) (by decide) (by decide)).trans hdp))
  refine lv_eqi q ?_
  refine lv_iload_n hx hb dX8_beginWalk_48 rfl (lv_at hl 1 rfl) ?_
  have i_49 : (nI dp : Int32) = nI (dp) := rfl
  have j_49 : (nI dp).toNatClampNeg = dp := (congrArg Int32.toNatClampNeg i_49).trans (nI_clamp (by omega))
  refine w_ist (N := 9) hx hb hK.1 hM hS (by decide) (by decide) (by decide) (by rw [i_49]; exact vp_in_nI (by omega) (by omega)) dX8_beginWalk_49 (fun H locs hM hS => ?_)
  rw [j_49] at hM
  generalize hV49 : up2 V37 606 dp t = V49 at hM
  refine lv_aload_n hx hb dX8_beginWalk_50 rfl (lv_at hl 0 rfl) ?_
  refine w_gr 8 33 607 (T := TX8) (N := 42) hx hb hts inw8 hown hK.1 hM (by decide) (by decide) (by decide) (by decide) (by decide) rfl (by decide) k93 rfl dX8_beginWalk_51 ?_
  refine lv_aload_n hx hb dX8_beginWalk_54 rfl (lv_at hl 0 rfl) ?_
  refine w_gi 8 31 (T := TX8) (N := 42) hx hb hts inw8 hown hK.1 hM (by decide) (by decide) (by decide) (by decide) (by decide) rfl (by decide) k195 rfl dX8_beginWalk_55 ?_
  have q : (V49 580 31 : Int32) = nI dp := by rw [← hV49, up2_k _ _ (by omega)]; exact ((congrFun (hp37.2.2 580 (by decide)) 31).trans ((F19.2 31 (by decide) (by decide) (by decide)).trans hdp))
  refine lv_eqi q ?_
  refine lv_iconst (v := 0) hx hb dX8_beginWalk_58 (by decide) ?_
  have i_59 : (nI dp : Int32) = nI (dp) := rfl
  have j_59 : (nI dp).toNatClampNeg = dp := (congrArg Int32.toNatClampNeg i_59).trans (nI_clamp (by omega))
  refine w_ist (N := 9) hx hb hK.1 hM hS (by decide) (by decide) (by decide) (by rw [i_59]; exact vp_in_nI (by omega) (by omega)) dX8_beginWalk_59 (fun H locs hM hS => ?_)
  rw [j_59] at hM
  generalize hV59 : up2 V49 607 dp 0 = V59 at hM
  refine lv_aload_n hx hb dX8_beginWalk_60 rfl (lv_at hl 0 rfl) ?_
  refine lv_dup hx hb dX8_beginWalk_61 rfl ?_
  refine w_gi 8 31 (T := TX8) (N := 42) hx hb hts inw8 hown hK.1 hM (by decide) (by decide) (by decide) (by decide) (by decide) rfl (by decide) k195 rfl dX8_beginWalk_62 ?_
  have q : (V59 580 31 : Int32) = nI dp := by rw [← hV59, up2_k _ _ (by omega)]; exact by rw [← hV49, up2_k _ _ (by omega)]; exact ((congrFun (hp37.2.2 580 (by decide)) 31).trans ((F19.2 31 (by decide) (by decide) (by decide)).trans hdp))
  refine lv_eqi q ?_
  refine lv_iconst (v := 1) hx hb dX8_beginWalk_65 (by decide) ?_
  refine lv_iadd hx hb dX8_beginWalk_66 ?_
  have q : ((nI dp) + 1 : Int32) = nI (dp + 1) := (nAdd rfl rfl)
  refine lv_eqi q ?_
  refine w_pi 8 31 (T := TX8) (N := 42) hx hb hts inw8 tyX8 tyX8_ok nmX8 hown hK.1 hM hS (by decide) (by decide) (by decide) (by decide) (by decide) rfl (by decide) k195 rfl rfl rfl rfl dX8_beginWalk_67 (fun H locs hM hS => ?_)
  generalize hV67 : up2 V59 580 31 (nI (dp + 1)) = V67 at hM
  have hpost : (fun V' => bwP V V' dp h (hmac kl nm)) V67 := by
    have e67 : ∀ k, k ≠ 580 → V67 k = V59 k := fun k a => by rw [← hV67, up2_k _ _ a]
    have e59 : ∀ k, k ≠ 607 → V59 k = V49 k := fun k a => by rw [← hV59, up2_k _ _ a]
    have e49 : ∀ k, k ≠ 606 → V49 k = V37 k := fun k a => by rw [← hV49, up2_k _ _ a]
    exact ⟨(cpx_seg2 hp37 (hmac_len _ _) hp19.1).keep (by rw [e67 608 (by decide), e59 608 (by decide), e49 608 (by decide)]), by rw [e67 606 (by decide), e59 606 (by decide), ← hV49, up2_s]; exact et, by rw [e67 607 (by decide), ← hV59, up2_s], by rw [← hV67, up2_s], fun k a => by rw [e67 606 (by decide), e59 606 (by decide), ← hV49, up2_o _ _ a, hp37.2.2 606 (by decide), F19.1 606 (by omega) (by decide)], fun k a => by rw [e67 607 (by decide), ← hV59, up2_o _ _ a, e49 607 (by decide), hp37.2.2 607 (by decide), F19.1 607 (by omega) (by decide)], fun i a => by rw [e67 608 (by decide), e59 608 (by decide), e49 608 (by decide), hp37.2.1 i a, F19.1 608 (by omega) (by decide)], fun k a b c d f => by rw [e67 k b, e59 k d, e49 k c, hp37.2.2 k f, F19.1 k a b], fun i a b c d => by rw [← hV67, up2_o _ _ d, e59 580 (by decide), e49 580 (by decide), hp37.2.2 580 (by decide), F19.2 i a b c]⟩
  exact w_vret (free := AE E) V67 hx hb hret hK hS hM (hpost) hlocks dX8_beginWalk_70
