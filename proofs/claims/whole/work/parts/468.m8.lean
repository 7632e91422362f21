-- needs: 44 450 451 452 453 454 455 456 457 460 461 462 463 464 466 467
set_option maxHeartbeats 4000000 in
set_option maxRecDepth 100000 in
theorem c_X8_type (l : Launch) {E : En} {V : Vt} {σ : St} (hC : repM V σ) (w : Int64) (n : Int32) : CI l yX8_type wsX8_type 2 E V [.ref (E.1 + 580), .long w, .int n] (fun v V' => v = (opType σ w n).1 ∧ repM V' (opType σ w n).2 ∧ frC V V') := by
  refine Met.ofW (cc := cX8_type) (maxL := 5) (ret := (some .int)) (by decide) rfl ?_
  intro p e s m args below meth c s₁ B hml hv
  obtain ⟨rfl, hM, hK⟩ := hv
  have hx := B.exec
  have hb := B.bytes
  have hret := B.returns
  have hts := atoms_spec (ws := wsX8_type) B.pre
  have hown : s.vm.findClass RX8 = some m.cls := findClass_of_methodNamed B.named
  have hlocks := B.notSynchronized
  have hsz : s.heap.size = E.1 + 610 := hM.1
  have hS : va_S (AE E) s.heap s.heap [] := va_S.rf
  have inw8 : ∀ w ∈ u_ws RX8 TX8 42, w ∈ wsX8_type := by decide +kernel
  have k112 := hts (.fieldLink RX8 112 "LimitTokensModel" "thrown" "I") (by decide +kernel)
  have k227 := hts (.fieldLink RX8 227 "LimitTokensModel" "tapeSize" "I") (by decide +kernel)
  have hl := lv_entry ([.ref (E.1 + 580), .long w, .int n]) (n := 5) (Nat.le_of_ble_eq_true rfl)
  rw [lg_entry_eq]
  generalize (lg_sl ([.ref (E.1 + 580), .long w, .int n]) ++ List.replicate (5 - (lg_sl ([.ref (E.1 + 580), .long w, .int n])).length) Slot.unset).toArray = ls at hl ⊢
  have hl : lv_has ls 5 [(0, .ref (E.1 + 580)), (1, .long w), (3, .int n)] := hl
  refine lv_aload_n hx hb dX8_type_0 rfl (lv_at hl 0 rfl) ?_
  refine lv_iconst (v := 0) hx hb dX8_type_1 (by decide) ?_
  refine w_pi 8 0 (T := TX8) (N := 42) hx hb hts inw8 tyX8 tyX8_ok nmX8 hown hK.1 hM hS (by decide) (by decide) (by decide) (by decide) (by decide) rfl (by decide) k112 rfl rfl rfl rfl dX8_type_2 (fun H locs hM hS => ?_)
  generalize hV2 : up2 V 580 0 0 = V2 at hM
  have hC2 := hC.fr (pFr.th hV2).1
  have fC2 := (pFr.th hV2).2
  obtain ⟨⟨oR, oT, oP⟩, cN, cR, cT, cP, cQ, cF, cL⟩ := id hC2
  have olP := oP.1
  refine lv_iload_n hx hb dX8_type_5 rfl (lv_at hl 2 rfl) ?_
  refine lv_iconst (v := 1) hx hb dX8_type_6 (by decide) ?_
  refine lv_bipush (v := 8) hx hb dX8_type_7 (by decide) ?_
  refine w_cSi (As := [.int n, .int 1, .int 8]) (rest := []) ⟨hx, hb, hml, hown, hts⟩ (c_X8_within l n 1 8) (va_cwS 3 hts gX8_type_X8_within rfl rfl rfl (by decide +kernel) ⟨Nat.le_of_ble_eq_true rfl, Nat.le_of_ble_eq_true rfl⟩) hM hK hS rfl hl.1 rfl (lv_room (Nat.le_of_ble_eq_true rfl)) dX8_type_9 ⟨Nat.le_of_ble_eq_true rfl, Nat.le_of_ble_eq_true rfl⟩ (fun r9 V9 H locs hp9 hM hS => ?_)
  obtain ⟨er9, eV⟩ := hp9
  rw [eV] at hM; clear eV
  refine lv_if_ne (tgt := 18) hx hb dX8_type_12 (by decide) (fun c_12 => ?_) (fun c_12 => ?_)
  · have i2 : inR n 1 8 = true := b2i_ne0 (by rw [← er9]; exact c_12)
    obtain ⟨lon, hin, enn⟩ := inR_j i2 (m := 1) (n := 8) rfl rfl (by omega) (by omega)
    refine lv_aload_n hx hb dX8_type_18 rfl (lv_at hl 0 rfl) ?_
    refine w_gi 8 19 (T := TX8) (N := 42) hx hb hts inw8 hown hK.1 hM (by decide) (by decide) (by decide) (by decide) (by decide) rfl (by decide) k227 rfl dX8_type_19 ?_
    have q : (V2 580 19 : Int32) = nI σ.2.2.1.length := cP.1
    refine lv_eqi q ?_
    refine lv_iload_n hx hb dX8_type_22 rfl (lv_at hl 2 rfl) ?_
    refine lv_iadd hx hb dX8_type_23 ?_
    have q : ((nI σ.2.2.1.length) + n : Int32) = nI (σ.2.2.1.length + (rj n)) := (nAdd rfl enn)
    refine lv_eqi q ?_
    refine lv_sipush (v := 1200) hx hb dX8_type_24 (by decide) ?_
    refine lv_icmp_le (tgt := 33) hx hb dX8_type_27 (by decide) (fun c_27 => ?_) (fun c_27 => ?_)
    · have n_27 : (σ.2.2.1.length + (rj n)) ≤ 1200 := (nLe (a := (σ.2.2.1.length + (rj n))) (b := 1200) rfl rfl (by omega) (by omega)).mp c_27
      refine lv_iconst (v := 0) hx hb dX8_type_33 (by decide) ?_
      refine lv_istore (lv' := [(4, .int 0), (0, .ref (E.1 + 580)), (1, .long w), (3, .int n)]) hx hb dX8_type_34 hl (by decide) rfl (fun ls hl => ?_)
      have loop36 : ∀ (fu : Nat) (Vw : Vt) (H : Heap) (locs : List Loc) (ls : Array Slot) (j : Nat) (hj : j ≤ rj n) (hw : buf Vw 19 595 (σ.2.2.1 ++ lowB w j)) (hf : frF V2 Vw 19 595), rj n - j < fu → Wd E Vw H → va_S (AE E) s.heap H locs → lv_has ls 5 [(0, .ref (E.1 + 580)), (1, .long w), (3, .int n), (4, .int (nI j))] → W p l e (headSpec wsX8_type (rmD 2)).room s m ([.ref (E.1 + 580), .long w, .int n] : List Value).toArray below meth c H locs 0 0 (MQ below (QI E (fun V' => Wd E V') (fun v V' => v = (opType σ w n).1 ∧ repM V' (opType σ w n).2 ∧ frC V V')) ([.ref (E.1 + 580), .long w, .int n] : List Value).toArray s 0 0 (AE E)) (F0 m 36 ls []) := by
        intro fu
        induction fu with
        | zero => intros; omega
        | succ fu ih36 =>
          intro Vw H locs ls j hj hw hf hfu hM hS hl
          refine lv_iload hx hb dX8_type_36 (lv_at hl 3 rfl) ?_
          refine lv_iload_n hx hb dX8_type_38 rfl (lv_at hl 2 rfl) ?_
          refine lv_icmp_ge (tgt := 64) hx hb dX8_type_39 (by decide) (fun c_39 => ?_) (fun c_39 => ?_)
          · have n_39 : (rj n) ≤ j := (nLe (a := (rj n)) (b := j) enn rfl (by omega) (by omega)).mp c_39
            refine lv_aload_n hx hb dX8_type_64 rfl (lv_at hl 0 rfl) ?_
            refine w_gi 8 19 (T := TX8) (N := 42) hx hb hts inw8 hown hK.1 hM (by decide) (by decide) (by decide) (by decide) (by decide) rfl (by decide) k227 rfl dX8_type_65 ?_
            have q : (Vw 580 19 : Int32) = nI (σ.2.2.1.length + j) := (by rw [hw.1, List.length_append, lowB_len])
            refine lv_eqi q ?_
            have hpost : (fun v V' => v = (opType σ w n).1 ∧ repM V' (opType σ w n).2 ∧ frC V V') (nI (σ.2.2.1.length + j)) Vw := by
              have hjn : j = rj n := by omega
              subst hjn
              have hq : opType σ w n = (nI (σ.2.2.1.length + rj n), sTape σ (σ.2.2.1 ++ lowB w (rj n))) := by simp [opType, i2]; omega
              rw [hq]; exact ⟨rfl, hC2.tape hw (by rw [List.length_append, lowB_len]; omega) (oP.2.app (lowB_ok _ _)) hf, fC2.trans (hf.C (by decide))⟩
            exact w_iret Vw hx hb hret hK hS hM (hpost) hlocks dX8_type_68
          · have n_39 : ¬ (rj n) ≤ j := fun q9 => c_39 ((nLe (a := (rj n)) (b := j) enn rfl (by omega) (by omega)).mpr q9)
            refine lv_aload_n hx hb dX8_type_42 rfl (lv_at hl 0 rfl) ?_
            refine lv_lload_n hx hb dX8_type_43 rfl (lv_at hl 1 rfl) ?_
            refine lv_bipush (v := 8) hx hb dX8_type_44 (by decide) ?_
            refine lv_iload hx hb dX8_type_46 (lv_at hl 3 rfl) ?_
            refine lv_imul hx hb dX8_type_48 ?_
            have q : (8 * (nI j) : Int32) = nI (8 * j) := (nMul rfl rfl)
            refine lv_eqi q ?_
            refine lv_lshr hx hb dX8_type_49 rfl ?_
            refine lv_ldc2 (v := 255) hx hb hown (hts (.constantLong RX8 161 255) (by decide +kernel)) dX8_type_50 ?_
            refine lv_land hx hb dX8_type_53 ?_
            refine lv_l2i hx hb dX8_type_54 rfl ?_
            have q : (((w >>> ((nI (8 * j)).toInt64 &&& 63)) &&& 255).toInt32 : Int32) = lo8 w j := lo8_n w (by omega)
            refine lv_eqi q ?_
            refine w_cVv (C := RX8) (As := [.int (lo8 w j)]) (rest := []) ⟨hx, hb, hml, hown, hts⟩ (c_X8_put l hw (by rw [List.length_append, lowB_len]; omega) (lo8 w j)) (cwV 1 hts gX8_type_X8_put rfl rfl rfl (by decide +kernel) ⟨Nat.le_of_ble_eq_true rfl, Nat.le_of_ble_eq_true rfl⟩) (w_recv (ci := 8) hK hM (by decide) (by decide) (by decide) rfl) hM hK hS rfl hl.1 rfl (lv_room (Nat.le_of_ble_eq_true rfl)) dX8_type_55 ⟨Nat.le_of_ble_eq_true rfl, Nat.le_of_ble_eq_true rfl⟩ (fun V55 H locs hp55 hM hS => ?_)
            obtain ⟨x4_58, ex4_58⟩ : ∃ y : Int32, y = (nI j) + 1 := ⟨_, rfl⟩
            refine lv_iinc (v := x4_58) (lv' := [(4, .int x4_58), (0, .ref (E.1 + 580)), (1, .long w), (3, .int n)]) hx hb dX8_type_58 hl (k := 3) rfl (by rw [ex4_58]; rfl) (by decide) rfl (fun ls hl => ?_)
            refine lv_goto (tgt := 36) hx hb dX8_type_61 (by decide) ?_
            rw [show x4_58 = nI (j + 1) from (ex4_58.trans (nAdd rfl rfl))] at hl
            exact ih36 V55 _ _ _ (j + 1) (by omega) (by rw [lowB_s, ← List.append_assoc]; exact hp55.1) (hf.trans hp55.2) (by omega) hM hS (lv_sub hl [1, 2, 3, 0] rfl)
      exact loop36 _ V2 _ _ _ 0 (Nat.zero_le _) (by simpa [lowB] using cP) (frF.rf) (Nat.lt_succ_self _) hM hS (lv_sub hl [1, 2, 3, 0] rfl)
    · have n_27 : ¬ (σ.2.2.1.length + (rj n)) ≤ 1200 := fun q9 => c_27 ((nLe (a := (σ.2.2.1.length + (rj n))) (b := 1200) rfl rfl (by omega) (by omega)).mpr q9)
      refine lv_bipush (v := (-3)) hx hb dX8_type_30 (by decide) ?_
      have hpost : (fun v V' => v = (opType σ w n).1 ∧ repM V' (opType σ w n).2 ∧ frC V V') (-3) V2 := by
        have hq : opType σ w n = (-3, σ) := by simp [opType, i2]; omega
        rw [hq]; exact ⟨rfl, hC2, fC2⟩
      exact w_iret V2 hx hb hret hK hS hM (hpost) hlocks dX8_type_32
  · have i2 : inR n 1 8 = false := b2i_eq0 (by rw [← er9]; exact c_12)
    refine lv_bipush (v := (-2)) hx hb dX8_type_15 (by decide) ?_
    have hpost : (fun v V' => v = (opType σ w n).1 ∧ repM V' (opType σ w n).2 ∧ frC V V') (-2) V2 := by
      have hq : opType σ w n = (-2, σ) := by first | (simp [opType, i2]; done)
      rw [hq]; exact ⟨rfl, hC2, fC2⟩
    exact w_iret V2 hx hb hret hK hS hM (hpost) hlocks dX8_type_17

set_option maxHeartbeats 4000000 in
set_option maxRecDepth 100000 in
theorem c_X8_write (l : Launch) {E : En} {V : Vt} {σ : St} (hC : repM V σ) (t : Int32) : CI l yX8_write wsX8_write 3 E V [.ref (E.1 + 580), .int t] (fun v V' => v = (opWrite σ t).1 ∧ repM V' (opWrite σ t).2 ∧ frC V V') := by
  refine Met.ofW (cc := cX8_write) (maxL := 4) (ret := (some .int)) (by decide) rfl ?_
  intro p e s m args below meth c s₁ B hml hv
  obtain ⟨rfl, hM, hK⟩ := hv
  have hx := B.exec
  have hb := B.bytes
  have hret := B.returns
  have hts := atoms_spec (ws := wsX8_write) B.pre
  have hown : s.vm.findClass RX8 = some m.cls := findClass_of_methodNamed B.named
  have hlocks := B.notSynchronized
  have hsz : s.heap.size = E.1 + 610 := hM.1
  have hS : va_S (AE E) s.heap s.heap [] := va_S.rf
  have inw8 : ∀ w ∈ u_ws RX8 TX8 42, w ∈ wsX8_write := by decide +kernel
  have k112 := hts (.fieldLink RX8 112 "LimitTokensModel" "thrown" "I") (by decide +kernel)
  have k227 := hts (.fieldLink RX8 227 "LimitTokensModel" "tapeSize" "I") (by decide +kernel)
  have k66 := hts (.fieldLink RX8 66 "LimitTokensModel" "name" "[I") (by decide +kernel)
  have k63 := hts (.fieldLink RX8 63 "LimitTokensModel" "nameSize" "[I") (by decide +kernel)
  have k69 := hts (.fieldLink RX8 69 "LimitTokensModel" "limits" "[I") (by decide +kernel)
  have k84 := hts (.fieldLink RX8 84 "LimitTokensModel" "sign" "[I") (by decide +kernel)
  have k75 := hts (.fieldLink RX8 75 "LimitTokensModel" "text" "[I") (by decide +kernel)
  have k72 := hts (.fieldLink RX8 72 "LimitTokensModel" "textSize" "[I") (by decide +kernel)
  have k78 := hts (.fieldLink RX8 78 "LimitTokensModel" "isOthers" "[Z") (by decide +kernel)
  have k81 := hts (.fieldLink RX8 81 "LimitTokensModel" "lock" "[I") (by decide +kernel)
  have hl := lv_entry ([.ref (E.1 + 580), .int t]) (n := 4) (Nat.le_of_ble_eq_true rfl)
  rw [lg_entry_eq]
  generalize (lg_sl ([.ref (E.1 + 580), .int t]) ++ List.replicate (4 - (lg_sl ([.ref (E.1 + 580), .int t])).length) Slot.unset).toArray = ls at hl ⊢
  have hl : lv_has ls 4 [(0, .ref (E.1 + 580)), (1, .int t)] := hl
  refine lv_aload_n hx hb dX8_write_0 rfl (lv_at hl 0 rfl) ?_
  refine lv_iconst (v := 0) hx hb dX8_write_1 (by decide) ?_
  refine w_pi 8 0 (T := TX8) (N := 42) hx hb hts inw8 tyX8 tyX8_ok nmX8 hown hK.1 hM hS (by decide) (by decide) (by decide) (by decide) (by decide) rfl (by decide) k112 rfl rfl rfl rfl dX8_write_2 (fun H locs hM hS => ?_)
  generalize hV2 : up2 V 580 0 0 = V2 at hM
  have hC2 := hC.fr (pFr.th hV2).1
  have fC2 := (pFr.th hV2).2
  obtain ⟨⟨oR, oT, oP⟩, cN, cR, cT, cP, cQ, cF, cL⟩ := id hC2
  refine lv_aload_n hx hb dX8_write_5 rfl (lv_at hl 0 rfl) ?_
  refine lv_iload_n hx hb dX8_write_6 rfl (lv_at hl 1 rfl) ?_
  refine w_cVi (C := RX8) (As := [.int t]) (rest := []) ⟨hx, hb, hml, hown, hts⟩ (c_X8_isToken l cT t) (cwV 1 hts gX8_write_X8_isToken rfl rfl rfl (by decide +kernel) ⟨Nat.le_of_ble_eq_true rfl, Nat.le_of_ble_eq_true rfl⟩) (w_recv (ci := 8) hK hM (by decide) (by decide) (by decide) rfl) hM hK hS rfl hl.1 rfl (lv_room (Nat.le_of_ble_eq_true rfl)) dX8_write_7 ⟨Nat.le_of_ble_eq_true rfl, Nat.le_of_ble_eq_true rfl⟩ (fun r7 V7 H locs hp7 hM hS => ?_)
  obtain ⟨er7, eV⟩ := hp7
  rw [eV] at hM; clear eV
  refine lv_if_ne (tgt := 16) hx hb dX8_write_10 (by decide) (fun c_10 => ?_) (fun c_10 => ?_)
  · obtain ⟨T, hT⟩ : ∃ T, thr σ t = some T := Option.isSome_iff_exists.mp (b2i_ne0 (by rw [← er7]; exact c_10))
    obtain ⟨i1, ht, et, hTt⟩ := thr_some hT
    obtain ⟨hth, htk⟩ := (cT (rj t) ht).s hTt
    have hok := oT (rj t) ht T hTt
    have hc10 := hok.2.2.1
    have hnm := hok.1.2.1
    refine lv_aload_n hx hb dX8_write_16 rfl (lv_at hl 0 rfl) ?_
    refine lv_iconst (v := 0) hx hb dX8_write_17 (by decide) ?_
    refine w_pi 8 19 (T := TX8) (N := 42) hx hb hts inw8 tyX8 tyX8_ok nmX8 hown hK.1 hM hS (by decide) (by decide) (by decide) (by decide) (by decide) rfl (by decide) k227 rfl rfl rfl rfl dX8_write_18 (fun H locs hM hS => ?_)
    generalize hV18 : up2 V2 580 19 0 = V18 at hM
    refine lv_aload_n hx hb dX8_write_21 rfl (lv_at hl 0 rfl) ?_
    refine lv_iconst (v := 2) hx hb dX8_write_22 (by decide) ?_
    refine w_cVv (C := RX8) (As := [.int 2]) (rest := []) ⟨hx, hb, hml, hown, hts⟩ (c_X8_put l (buf.nil hV18) (by simp) 2) (cwV 1 hts gX8_write_X8_put rfl rfl rfl (by decide +kernel) ⟨Nat.le_of_ble_eq_true rfl, Nat.le_of_ble_eq_true rfl⟩) (w_recv (ci := 8) hK hM (by decide) (by decide) (by decide) rfl) hM hK hS rfl hl.1 rfl (lv_room (Nat.le_of_ble_eq_true rfl)) dX8_write_23 ⟨Nat.le_of_ble_eq_true rfl, Nat.le_of_ble_eq_true rfl⟩ (fun V23 H locs hp23 hM hS => ?_)
    refine lv_aload_n hx hb dX8_write_26 rfl (lv_at hl 0 rfl) ?_
    refine lv_iconst (v := 2) hx hb dX8_write_27 (by decide) ?_
    refine lv_aload_n hx hb dX8_write_28 rfl (lv_at hl 0 rfl) ?_
    refine w_gr 8 23 598 (T := TX8) (N := 42) hx hb hts inw8 hown hK.1 hM (by decide) (by decide) (by decide) (by decide) (by decide) rfl (by decide) k66 rfl dX8_write_29 ?_
    refine lv_bipush (v := 60) hx hb dX8_write_32 (by decide) ?_
    refine lv_iload_n hx hb dX8_write_34 rfl (lv_at hl 1 rfl) ?_
    refine lv_imul hx hb dX8_write_35 ?_
    have q : (60 * t : Int32) = nI (60 * (rj t)) := (nMul rfl et)
    refine lv_eqi q ?_
    refine lv_aload_n hx hb dX8_write_36 rfl (lv_at hl 0 rfl) ?_
    refine w_gr 8 22 597 (T := TX8) (N := 42) hx hb hts inw8 hown hK.1 hM (by decide) (by decide) (by decide) (by decide) (by decide) rfl (by decide) k63 rfl dX8_write_37 ?_
    refine lv_iload_n hx hb dX8_write_40 rfl (lv_at hl 1 rfl) ?_
    have i_41 : (t : Int32) = nI (rj t) := et
    refine w_ild (N := 9) hx hb hK.1 hM (by decide) (by decide) (by decide) (by rw [i_41]; exact vp_in_nI (by omega) (by omega)) dX8_write_41 ?_
    have j_41 : t.toNatClampNeg = rj t := (congrArg Int32.toNatClampNeg i_41).trans (nI_clamp (by omega))
    have q : (V23 597 t.toNatClampNeg : Int32) = V23 597 (rj t) := by rw [j_41]
    refine lv_eqi q ?_
    have q : (V23 597 (rj t) : Int32) = nI T.1.length := by rw [hp23.2.1 597 (by decide) (by decide), ← hV18, up2_k _ _ (by decide)]; exact htk.1
    refine lv_eqi q ?_
    refine w_cVv (C := RX8) (As := [.int 2, .ref (E.1 + 598), .int (nI (60 * (rj t))), .int (nI T.1.length)]) (rest := []) ⟨hx, hb, hml, hown, hts⟩ (m_putRow l a598 (by decide) hp23.1 (b := 60 * rj t) (n := T.1.length) (htk.2.1.keep (by rw [hp23.2.1 598 (by decide) (by decide), ← hV18, up2_k _ _ (by decide)])) (by omega) (by simp; omega) 2 rfl) (cwV 4 hts gX8_write_X8_putRow rfl rfl rfl (by decide +kernel) ⟨Nat.le_of_ble_eq_true rfl, Nat.le_of_ble_eq_true rfl⟩) (w_recv (ci := 8) hK hM (by decide) (by decide) (by decide) rfl) hM hK hS rfl hl.1 rfl (lv_room (Nat.le_of_ble_eq_true rfl)) dX8_write_42 ⟨Nat.le_of_ble_eq_true rfl, Nat.le_of_ble_eq_true rfl⟩ (fun V42 H locs hp42 hM hS => ?_)
    refine lv_aload_n hx hb dX8_write_45 rfl (lv_at hl 0 rfl) ?_
    refine lv_iconst (v := 0) hx hb dX8_write_46 (by decide) ?_
    refine w_cVv (C := RX8) (As := [.int 0]) (rest := []) ⟨hx, hb, hml, hown, hts⟩ (c_X8_put l hp42.1 (by simp; omega) 0) (cwV 1 hts gX8_write_X8_put rfl rfl rfl (by decide +kernel) ⟨Nat.le_of_ble_eq_true rfl, Nat.le_of_ble_eq_true rfl⟩) (w_recv (ci := 8) hK hM (by decide) (by decide) (by decide) rfl) hM hK hS rfl hl.1 rfl (lv_room (Nat.le_of_ble_eq_true rfl)) dX8_write_47 ⟨Nat.le_of_ble_eq_true rfl, Nat.le_of_ble_eq_true rfl⟩ (fun V47 H locs hp47 hM hS => ?_)
    have f47 : frF V2 V47 19 595 := (show frF V2 V18 19 595 from ⟨fun k _ b => by rw [← hV18, up2_k _ _ b], fun i a => by rw [← hV18, up2_o _ _ a]⟩).trans ((hp23.2.trans hp42.2).trans hp47.2)
    refine lv_iconst (v := 0) hx hb dX8_write_50 (by decide) ?_
    refine lv_istore_n (lv' := [(2, .int 0), (0, .ref (E.1 + 580)), (1, .int t)]) hx hb dX8_write_51 rfl hl (by decide) rfl (fun ls hl => ?_)
    have loop52 : ∀ (fu : Nat) (Vw : Vt) (H : Heap) (locs : List Loc) (ls : Array Slot) (k : Nat) (hk : k ≤ T.2.2.length) (hw : buf Vw 19 595 ((([2, 2, nI T.1.length] ++ T.1) ++ [0]) ++ (T.2.2.take k).flatMap limB)) (hf : frF V2 Vw 19 595), T.2.2.length - k < fu → Wd E Vw H → va_S (AE E) s.heap H locs → lv_has ls 4 [(0, .ref (E.1 + 580)), (1, .int t), (2, .int (nI k))] → W p l e (headSpec wsX8_write (rmD 3)).room s m ([.ref (E.1 + 580), .int t] : List Value).toArray below meth c H locs 0 0 (MQ below (QI E (fun V' => Wd E V') (fun v V' => v = (opWrite σ t).1 ∧ repM V' (opWrite σ t).2 ∧ frC V V')) ([.ref (E.1 + 580), .int t] : List Value).toArray s 0 0 (AE E)) (F0 m 52 ls []) := by
      intro fu
      induction fu with
      | zero => intros; omega
      | succ fu ih52 =>
        intro Vw H locs ls k hk hw hf hfu hM hS hl
        have htl := take_len hok.2.2.2 (j := k) hk
        refine lv_iload_n hx hb dX8_write_52 rfl (lv_at hl 2 rfl) ?_
        refine lv_aload_n hx hb dX8_write_53 rfl (lv_at hl 0 rfl) ?_
        refine w_gr 8 24 599 (T := TX8) (N := 42) hx hb hts inw8 hown hK.1 hM (by decide) (by decide) (by decide) (by decide) (by decide) rfl (by decide) k69 rfl dX8_write_54 ?_
        refine lv_iload_n hx hb dX8_write_57 rfl (lv_at hl 1 rfl) ?_
        have i_58 : (t : Int32) = nI (rj t) := et
        refine w_ild (N := 9) hx hb hK.1 hM (by decide) (by decide) (by decide) (by rw [i_58]; exact vp_in_nI (by omega) (by omega)) dX8_write_58 ?_
        have j_58 : t.toNatClampNeg = rj t := (congrArg Int32.toNatClampNeg i_58).trans (nI_clamp (by omega))
        have q : (Vw 599 t.toNatClampNeg : Int32) = Vw 599 (rj t) := by rw [j_58]
        refine lv_eqi q ?_
        have q : (Vw 599 (rj t) : Int32) = nI T.2.2.length := by rw [hf.1 599 (by decide) (by decide)]; exact htk.2.2.1
        refine lv_eqi q ?_
        refine lv_icmp_ge (tgt := 123) hx hb dX8_write_59 (by decide) (fun c_59 => ?_) (fun c_59 => ?_)
        · have n_59 : T.2.2.length ≤ k := (nLe (a := T.2.2.length) (b := k) rfl rfl (by omega) (by omega)).mp c_59
          refine lv_aload_n hx hb dX8_write_123 rfl (lv_at hl 0 rfl) ?_
          refine lv_iconst (v := 0) hx hb dX8_write_124 (by decide) ?_
          refine w_cVv (C := RX8) (As := [.int 0]) (rest := []) ⟨hx, hb, hml, hown, hts⟩ (c_X8_put l hw (by simp at htl ⊢; omega) 0) (cwV 1 hts gX8_write_X8_put rfl rfl rfl (by decide +kernel) ⟨Nat.le_of_ble_eq_true rfl, Nat.le_of_ble_eq_true rfl⟩) (w_recv (ci := 8) hK hM (by decide) (by decide) (by decide) rfl) hM hK hS rfl hl.1 rfl (lv_room (Nat.le_of_ble_eq_true rfl)) dX8_write_125 ⟨Nat.le_of_ble_eq_true rfl, Nat.le_of_ble_eq_true rfl⟩ (fun V125 H locs hp125 hM hS => ?_)
          have f125 := hf.trans hp125.2
          refine lv_aload_n hx hb dX8_write_128 rfl (lv_at hl 0 rfl) ?_
          refine lv_bipush (v := 6) hx hb dX8_write_129 (by decide) ?_
          refine lv_aload_n hx hb dX8_write_131 rfl (lv_at hl 0 rfl) ?_
          refine w_gr 8 29 604 (T := TX8) (N := 42) hx hb hts inw8 hown hK.1 hM (by decide) (by decide) (by decide) (by decide) (by decide) rfl (by decide) k84 rfl dX8_write_132 ?_
          refine lv_bipush (v := 32) hx hb dX8_write_135 (by decide) ?_
          refine lv_iload_n hx hb dX8_write_137 rfl (lv_at hl 1 rfl) ?_
          refine lv_imul hx hb dX8_write_138 ?_
          have q : (32 * t : Int32) = nI (32 * (rj t)) := (nMul rfl et)
          refine lv_eqi q ?_
          refine lv_bipush (v := 32) hx hb dX8_write_139 (by decide) ?_
          refine w_cVv (C := RX8) (As := [.int 6, .ref (E.1 + 604), .int (nI (32 * (rj t))), .int 32]) (rest := []) ⟨hx, hb, hml, hown, hts⟩ (m_putRow l a604 (by decide) hp125.1 (b := 32 * rj t) (n := 32) (htk.2.2.2.1.keep (f125.1 604 (by decide) (by decide))) (by omega) (by simp at htl ⊢; omega) 6 hok.2.1.1) (cwV 4 hts gX8_write_X8_putRow rfl rfl rfl (by decide +kernel) ⟨Nat.le_of_ble_eq_true rfl, Nat.le_of_ble_eq_true rfl⟩) (w_recv (ci := 8) hK hM (by decide) (by decide) (by decide) rfl) hM hK hS rfl hl.1 rfl (lv_room (Nat.le_of_ble_eq_true rfl)) dX8_write_141 ⟨Nat.le_of_ble_eq_true rfl, Nat.le_of_ble_eq_true rfl⟩ (fun V141 H locs hp141 hM hS => ?_)
          have hTB : tokB T = ((((([2, 2, nI T.1.length] ++ T.1) ++ [0]) ++ (T.2.2.take k).flatMap limB) ++ [0]) ++ ([6, nI 32] ++ T.2.1)) := by rw [List.take_of_length_le (by omega), show nI 32 = 32 from rfl]; simp [tokB]
          refine lv_aload_n hx hb dX8_write_144 rfl (lv_at hl 0 rfl) ?_
          refine w_gi 8 19 (T := TX8) (N := 42) hx hb hts inw8 hown hK.1 hM (by decide) (by decide) (by decide) (by decide) (by decide) rfl (by decide) k227 rfl dX8_write_145 ?_
          have q : (V141 580 19 : Int32) = nI (tokB T).length := (by rw [hp141.1.1, ← hTB])
          refine lv_eqi q ?_
          have hpost : (fun v V' => v = (opWrite σ t).1 ∧ repM V' (opWrite σ t).2 ∧ frC V V') (nI (tokB T).length) V141 := by
            have hq : opWrite σ t = (nI (tokB T).length, sTape σ (tokB T)) := by simp [opWrite, hT]
            have hb9 : buf V141 19 595 (tokB T) := by rw [hTB]; exact hp141.1
            have hlT : (tokB T).length ≤ 1200 := by have := tokB_len hok; omega
            rw [hq]; exact ⟨rfl, hC2.tape hb9 hlT (tokB_ok hok) (f125.trans hp141.2), fC2.trans ((f125.trans hp141.2).C (by decide))⟩
          exact w_iret V141 hx hb hret hK hS hM (hpost) hlocks dX8_write_148
        · have n_59 : ¬ T.2.2.length ≤ k := fun q9 => c_59 ((nLe (a := T.2.2.length) (b := k) rfl rfl (by omega) (by omega)).mpr q9)
          have hk9 : k < T.2.2.length := by omega
          have hm := htk.2.2.2.2 k hk9
          have hol := hok.2.2.2 k hk9
          have hlb := hol.2.1
          refine lv_bipush (v := 10) hx hb dX8_write_62 (by decide) ?_
          refine lv_iload_n hx hb dX8_write_64 rfl (lv_at hl 1 rfl) ?_
          refine lv_imul hx hb dX8_write_65 ?_
          have q : (10 * t : Int32) = nI (10 * (rj t)) := (nMul rfl et)
          refine lv_eqi q ?_
          refine lv_iload_n hx hb dX8_write_66 rfl (lv_at hl 2 rfl) ?_
          refine lv_iadd hx hb dX8_write_67 ?_
          have q : ((nI (10 * (rj t))) + (nI k) : Int32) = nI ((10 * (rj t)) + k) := (nAdd rfl rfl)
          refine lv_eqi q ?_
          refine lv_topi (fun x3_68 ex3_68 => ?_)
          refine lv_istore_n (lv' := [(3, .int x3_68), (0, .ref (E.1 + 580)), (1, .int t), (2, .int (nI k))]) hx hb dX8_write_68 rfl hl (by decide) rfl (fun ls hl => ?_)
          refine lv_aload_n hx hb dX8_write_69 rfl (lv_at hl 1 rfl) ?_
          refine lv_iconst (v := 2) hx hb dX8_write_70 (by decide) ?_
          refine lv_aload_n hx hb dX8_write_71 rfl (lv_at hl 1 rfl) ?_
          refine w_gr 8 26 601 (T := TX8) (N := 42) hx hb hts inw8 hown hK.1 hM (by decide) (by decide) (by decide) (by decide) (by decide) rfl (by decide) k75 rfl dX8_write_72 ?_
          refine lv_bipush (v := 60) hx hb dX8_write_75 (by decide) ?_
          refine lv_iload_n hx hb dX8_write_77 rfl (lv_at hl 0 rfl) ?_
          refine lv_imul hx hb dX8_write_78 ?_
          have q : (60 * x3_68 : Int32) = nI (60 * ((10 * (rj t)) + k)) := (nMul rfl (ex3_68.trans rfl))
          refine lv_eqi q ?_
          refine lv_aload_n hx hb dX8_write_79 rfl (lv_at hl 1 rfl) ?_
          refine w_gr 8 25 600 (T := TX8) (N := 42) hx hb hts inw8 hown hK.1 hM (by decide) (by decide) (by decide) (by decide) (by decide) rfl (by decide) k72 rfl dX8_write_80 ?_
          refine lv_iload_n hx hb dX8_write_83 rfl (lv_at hl 0 rfl) ?_
          have i_84 : (x3_68 : Int32) = nI ((10 * (rj t)) + k) := (ex3_68.trans rfl)
          refine w_ild (N := 90) hx hb hK.1 hM (by decide) (by decide) (by decide) (by rw [i_84]; exact vp_in_nI (by omega) (by omega)) dX8_write_84 ?_
          have j_84 : x3_68.toNatClampNeg = (10 * (rj t)) + k := (congrArg Int32.toNatClampNeg i_84).trans (nI_clamp (by omega))
          have q : (Vw 600 x3_68.toNatClampNeg : Int32) = Vw 600 ((10 * (rj t)) + k) := by rw [j_84]
          refine lv_eqi q ?_
          have q : (Vw 600 ((10 * (rj t)) + k) : Int32) = nI (T.2.2.getD k lz).1.length := by rw [hf.1 600 (by decide) (by decide)]; exact hm.1
          refine lv_eqi q ?_
          refine w_cVv (C := RX8) (As := [.int 2, .ref (E.1 + 601), .int (nI (60 * ((10 * (rj t)) + k))), .int (nI (T.2.2.getD k lz).1.length)]) (rest := []) ⟨hx, hb, hml, hown, hts⟩ (m_putRow l a601 (by decide) hw (b := 60 * (10 * rj t + k)) (n := (T.2.2.getD k lz).1.length) (hm.2.1.keep (hf.1 601 (by decide) (by decide))) (by omega) (by simp at hlb htl ⊢; omega) 2 rfl) (cwV 4 hts gX8_write_X8_putRow rfl rfl rfl (by decide +kernel) ⟨Nat.le_of_ble_eq_true rfl, Nat.le_of_ble_eq_true rfl⟩) (w_recv (ci := 8) hK hM (by decide) (by decide) (by decide) rfl) hM hK hS rfl hl.1 rfl (lv_room (Nat.le_of_ble_eq_true rfl)) dX8_write_85 ⟨Nat.le_of_ble_eq_true rfl, Nat.le_of_ble_eq_true rfl⟩ (fun V85 H locs hp85 hM hS => ?_)
          have f85 := hf.trans hp85.2
          refine lv_aload_n hx hb dX8_write_88 rfl (lv_at hl 1 rfl) ?_
          refine w_gr 8 27 602 (T := TX8) (N := 42) hx hb hts inw8 hown hK.1 hM (by decide) (by decide) (by decide) (by decide) (by decide) rfl (by decide) k78 rfl dX8_write_89 ?_
          refine lv_iload_n hx hb dX8_write_92 rfl (lv_at hl 0 rfl) ?_
          have i_93 : (x3_68 : Int32) = nI ((10 * (rj t)) + k) := (ex3_68.trans rfl)
          refine w_zld (N := 90) hx hb hK.1 hM (by decide) (by decide) (by decide) (by rw [i_93]; exact vp_in_nI (by omega) (by omega)) dX8_write_93 ?_
          have j_93 : x3_68.toNatClampNeg = (10 * (rj t)) + k := (congrArg Int32.toNatClampNeg i_93).trans (nI_clamp (by omega))
          have q : (V85 602 x3_68.toNatClampNeg : Int32) = V85 602 ((10 * (rj t)) + k) := by rw [j_93]
          refine lv_eqi q ?_
          have q : (V85 602 ((10 * (rj t)) + k) : Int32) = b2i (decide ((T.2.2.getD k lz).2 ≠ [])) := by rw [f85.1 602 (by decide) (by decide)]; exact hm.2.2.1
          refine lv_eqi q ?_
          have join112 : ∀ (Vj : Vt) (H : Heap) (locs : List Loc) (ls : Array Slot) (X9 : List Int32) (hx9 : X9.length ≤ 34) (hxe : (if (T.2.2.getD k lz).2 = [] then [] else [4, 32] ++ (T.2.2.getD k lz).2) = X9) (hjb : buf Vj 19 595 ((((([2, 2, nI T.1.length] ++ T.1) ++ [0]) ++ (T.2.2.take k).flatMap limB) ++ ([2, nI (T.2.2.getD k lz).1.length] ++ (T.2.2.getD k lz).1)) ++ X9)) (hfj : frF V2 Vj 19 595), Wd E Vj H → va_S (AE E) s.heap H locs → lv_has ls 4 [(0, .ref (E.1 + 580)), (1, .int t), (2, .int (nI k))] → W p l e (headSpec wsX8_write (rmD 3)).room s m ([.ref (E.1 + 580), .int t] : List Value).toArray below meth c H locs 0 0 (MQ below (QI E (fun V' => Wd E V') (fun v V' => v = (opWrite σ t).1 ∧ repM V' (opWrite σ t).2 ∧ frC V V')) ([.ref (E.1 + 580), .int t] : List Value).toArray s 0 0 (AE E)) (F0 m 112 ls []) := by
            intro Vj H locs ls X9 hx9 hxe hjb hfj hM hS hl
            refine lv_aload_n hx hb dX8_write_112 rfl (lv_at hl 0 rfl) ?_
            refine lv_iconst (v := 0) hx hb dX8_write_113 (by decide) ?_
            refine w_cVv (C := RX8) (As := [.int 0]) (rest := []) ⟨hx, hb, hml, hown, hts⟩ (c_X8_put l hjb (by simp at hlb htl hx9 ⊢; omega) 0) (cwV 1 hts gX8_write_X8_put rfl rfl rfl (by decide +kernel) ⟨Nat.le_of_ble_eq_true rfl, Nat.le_of_ble_eq_true rfl⟩) (w_recv (ci := 8) hK hM (by decide) (by decide) (by decide) rfl) hM hK hS rfl hl.1 rfl (lv_room (Nat.le_of_ble_eq_true rfl)) dX8_write_114 ⟨Nat.le_of_ble_eq_true rfl, Nat.le_of_ble_eq_true rfl⟩ (fun V114 H locs hp114 hM hS => ?_)
            obtain ⟨x2_117, ex2_117⟩ : ∃ y : Int32, y = (nI k) + 1 := ⟨_, rfl⟩
            refine lv_iinc (v := x2_117) (lv' := [(2, .int x2_117), (0, .ref (E.1 + 580)), (1, .int t)]) hx hb dX8_write_117 hl (k := 2) rfl (by rw [ex2_117]; rfl) (by decide) rfl (fun ls hl => ?_)
            refine lv_goto (tgt := 52) hx hb dX8_write_120 (by decide) ?_
            rw [show x2_117 = nI (k + 1) from (ex2_117.trans (nAdd rfl rfl))] at hl
            exact ih52 V114 _ _ _ (k + 1) (by omega) (by rw [take_flat hk9, ← List.append_assoc]; have h9 := hp114.1; rw [← hxe] at h9; simpa [limB] using h9) (hfj.trans hp114.2) (by omega) hM hS (lv_sub hl [1, 2, 0] rfl)
          refine lv_if_eq (tgt := 112) hx hb dX8_write_94 (by decide) (fun c_94 => ?_) (fun c_94 => ?_)
          · have hL2 := b2i_dec c_94
            exact join112 V85 _ _ _ [] (by simp) (if_pos hL2) (by simpa using hp85.1) f85 hM hS (lv_sub hl [1, 2, 3] rfl)
          · have hL2 := b2i_decn c_94
            have hl32 : (T.2.2.getD k lz).2.length = 32 := hol.2.2.1.resolve_left hL2
            refine lv_aload_n hx hb dX8_write_97 rfl (lv_at hl 1 rfl) ?_
            refine lv_iconst (v := 4) hx hb dX8_write_98 (by decide) ?_
            refine lv_aload_n hx hb dX8_write_99 rfl (lv_at hl 1 rfl) ?_
            refine w_gr 8 28 603 (T := TX8) (N := 42) hx hb hts inw8 hown hK.1 hM (by decide) (by decide) (by decide) (by decide) (by decide) rfl (by decide) k81 rfl dX8_write_100 ?_
            refine lv_bipush (v := 32) hx hb dX8_write_103 (by decide) ?_
            refine lv_iload_n hx hb dX8_write_105 rfl (lv_at hl 0 rfl) ?_
            refine lv_imul hx hb dX8_write_106 ?_
            have q : (32 * x3_68 : Int32) = nI (32 * ((10 * (rj t)) + k)) := (nMul rfl (ex3_68.trans rfl))
            refine lv_eqi q ?_
            refine lv_bipush (v := 32) hx hb dX8_write_107 (by decide) ?_
            refine w_cVv (C := RX8) (As := [.int 4, .ref (E.1 + 603), .int (nI (32 * ((10 * (rj t)) + k))), .int 32]) (rest := []) ⟨hx, hb, hml, hown, hts⟩ (m_putRow l a603 (by decide) hp85.1 (b := 32 * (10 * rj t + k)) (n := 32) (hm.2.2.2.keep (f85.1 603 (by decide) (by decide))) (by omega) (by simp at hlb htl ⊢; omega) 4 hl32) (cwV 4 hts gX8_write_X8_putRow rfl rfl rfl (by decide +kernel) ⟨Nat.le_of_ble_eq_true rfl, Nat.le_of_ble_eq_true rfl⟩) (w_recv (ci := 8) hK hM (by decide) (by decide) (by decide) rfl) hM hK hS rfl hl.1 rfl (lv_room (Nat.le_of_ble_eq_true rfl)) dX8_write_109 ⟨Nat.le_of_ble_eq_true rfl, Nat.le_of_ble_eq_true rfl⟩ (fun V109 H locs hp109 hM hS => ?_)
            exact join112 V109 _ _ _ ([4, 32] ++ (T.2.2.getD k lz).2) (by rw [List.length_append, hl32]; decide) (if_neg hL2) hp109.1 (f85.trans hp109.2) hM hS (lv_sub hl [1, 2, 3] rfl)
    exact loop52 _ V47 _ _ _ 0 (Nat.zero_le _) (by simpa using hp47.1) (f47) (Nat.lt_succ_self _) hM hS (lv_sub hl [1, 2, 0] rfl)
  · have hN : thr σ t = none := by have q9 := b2i_eq0 (er7.symm.trans c_10); cases q8 : thr σ t with | none => rfl | some x => rw [q8] at q9; cases q9
    refine lv_bipush (v := (-2)) hx hb dX8_write_13 (by decide) ?_
    have hpost : (fun v V' => v = (opWrite σ t).1 ∧ repM V' (opWrite σ t).2 ∧ frC V V') (-2) V2 := by
      have hq : opWrite σ t = (-2, σ) := by first | (simp [opWrite, hN]; done)
      rw [hq]; exact ⟨rfl, hC2, fC2⟩
    exact w_iret V2 hx hb hret hK hS hM (hpost) hlocks dX8_write_15
