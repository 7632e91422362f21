set_option maxHeartbeats 4000000 in
set_option maxRecDepth 100000 in
theorem c_X7_prove (l : Launch) {E : En} {V : Vt} {σ : St} (hC : repC V σ) (t k h : Int32) : CIN l yX7_prove wsX7_prove 23 E V [.ref (E.1 + 0), .int t, .int k, .int h] (fun v V' => v = (opProve σ t k h).1 ∧ repC V' (opProve σ t k h).2 ∧ frM V V') := by
  refine Met.ofW (cc := cX7_prove) (maxL := 4) (ret := (some .int)) (by decide) rfl ?_
  intro p e s m args below meth c s₁ B hml hv
  obtain ⟨rfl, hM, hK, hN⟩ := hv
  have hx := B.exec
  have hb := B.bytes
  have hret := B.returns
  have hts := atoms_spec (ws := wsX7_prove) B.pre
  have hown : s.vm.findClass RX7 = some m.cls := findClass_of_methodNamed B.named
  have hlocks := B.notSynchronized
  have hsz : s.heap.size = E.1 + 610 := hM.1
  have hS : va_S (AE E) s.heap s.heap [] := va_S.rf
  have in2 : ∀ w ∈ u_ws RX2 TX2 11, w ∈ wsX7_prove := by decide +kernel
  have in7 : ∀ w ∈ u_ws RX7 TX7 9, w ∈ wsX7_prove := by decide +kernel
  have k18 := hts (.fieldLink RX7 18 "LimitTokens" "prover" "LLimitTokens$Prover;") (by decide +kernel)
  have k11 := hts (.fieldLink RX7 11 "LimitTokens" "registers" "[LLimitTokens$Row;") (by decide +kernel)
  have k191 := hts (.fieldLink RX7 191 "LimitTokens$Prover" "found" "I") (by decide +kernel)
  have hl := lv_entry ([.ref (E.1 + 0), .int t, .int k, .int h]) (n := 4) (Nat.le_of_ble_eq_true rfl)
  rw [lg_entry_eq]
  generalize (lg_sl ([.ref (E.1 + 0), .int t, .int k, .int h]) ++ List.replicate (4 - (lg_sl ([.ref (E.1 + 0), .int t, .int k, .int h])).length) Slot.unset).toArray = ls at hl ⊢
  have hl : lv_has ls 4 [(0, .ref (E.1 + 0)), (1, .int t), (2, .int k), (3, .int h)] := hl
  obtain ⟨⟨oR, oT, oP⟩, cR, cT, cP, cQ, cF, cL, cZ⟩ := id hC
  refine lv_aload_n hx hb dX7_prove_0 rfl (lv_at hl 0 rfl) ?_
  refine lv_iload_n hx hb dX7_prove_1 rfl (lv_at hl 1 rfl) ?_
  refine w_cVi (C := RX7) (As := [.int t]) (rest := []) ⟨hx, hb, hml, hown, hts⟩ (c_X7_isThere l cT t) (cwV 1 hts gX7_prove_X7_isThere rfl rfl rfl (by decide +kernel) ⟨Nat.le_of_ble_eq_true rfl, Nat.le_of_ble_eq_true rfl⟩) (w_recv (ci := 7) hK hM (by decide) (by decide) (by decide) rfl) hM hK hS rfl hl.1 rfl (lv_room (Nat.le_of_ble_eq_true rfl)) dX7_prove_2 ⟨Nat.le_of_ble_eq_true rfl, Nat.le_of_ble_eq_true rfl⟩ (fun r2 V2 H locs hp2 hM hS => ?_)
  obtain ⟨er2, eV⟩ := hp2
  rw [eV] at hM; clear eV
  refine lv_if_eq (tgt := 23) hx hb dX7_prove_5 (by decide) (fun c_5 => ?_) (fun c_5 => ?_)
  · have hN : thr σ t = none := by have q9 := b2i_eq0 (er2.symm.trans c_5); cases q8 : thr σ t with | none => rfl | some x => rw [q8] at q9; cases q9
    refine lv_bipush (v := (-2)) hx hb dX7_prove_23 (by decide) ?_
    have hpost : (fun v V' => v = (opProve σ t k h).1 ∧ repC V' (opProve σ t k h).2 ∧ frM V V') (-2) V := by
      have hq : opProve σ t k h = (-2, σ) := by first | (simp [opProve, hT, i2, i3]; done) | (simp [opProve, hT, i2]; done) | (simp [opProve, hN]; done)
      rw [hq]; exact ⟨rfl, hC, fun _ _ => rfl⟩
    exact w_iret V hx hb hret hK hS hM (hpost) hlocks dX7_prove_25
  · obtain ⟨T, hT⟩ : ∃ T, thr σ t = some T := Option.isSome_iff_exists.mp (b2i_ne0 (by rw [← er2]; exact c_5))
    obtain ⟨i1, ht, et, hTt⟩ := thr_some hT
    obtain ⟨hth, htk⟩ := (cT (rj t) ht).s hTt
    have hok := oT (rj t) ht T hTt
    refine lv_iload_n hx hb dX7_prove_8 rfl (lv_at hl 2 rfl) ?_
    refine w_cSi (As := [.int k]) (rest := []) ⟨hx, hb, hml, hown, hts⟩ (c_X7_isRegister l k) (va_cwS 1 hts gX7_prove_X7_isRegister rfl rfl rfl (by decide +kernel) ⟨Nat.le_of_ble_eq_true rfl, Nat.le_of_ble_eq_true rfl⟩) hM hK hS rfl hl.1 rfl (lv_room (Nat.le_of_ble_eq_true rfl)) dX7_prove_9 ⟨Nat.le_of_ble_eq_true rfl, Nat.le_of_ble_eq_true rfl⟩ (fun r9 V9 H locs hp9 hM hS => ?_)
    obtain ⟨er9, eV⟩ := hp9
    rw [eV] at hM; clear eV
    refine lv_if_eq (tgt := 23) hx hb dX7_prove_12 (by decide) (fun c_12 => ?_) (fun c_12 => ?_)
    · have i2 : in8 k = false := b2i_eq0 (by rw [← er9]; exact c_12)
      refine lv_bipush (v := (-2)) hx hb dX7_prove_23 (by decide) ?_
      have hpost : (fun v V' => v = (opProve σ t k h).1 ∧ repC V' (opProve σ t k h).2 ∧ frM V V') (-2) V := by
        have hq : opProve σ t k h = (-2, σ) := by first | (simp [opProve, hT, i2, i3]; done) | (simp [opProve, hT, i2]; done) | (simp [opProve, hN]; done)
        rw [hq]; exact ⟨rfl, hC, fun _ _ => rfl⟩
      exact w_iret V hx hb hret hK hS hM (hpost) hlocks dX7_prove_25
    · have i2 : in8 k = true := b2i_ne0 (by rw [← er9]; exact c_12)
      refine lv_aload_n hx hb dX7_prove_15 rfl (lv_at hl 0 rfl) ?_
      refine lv_iload_n hx hb dX7_prove_16 rfl (lv_at hl 3 rfl) ?_
      refine w_cVi (C := RX7) (As := [.int h]) (rest := []) ⟨hx, hb, hml, hown, hts⟩ (c_X7_areThere l cT h) (cwV 1 hts gX7_prove_X7_areThere rfl rfl rfl (by decide +kernel) ⟨Nat.le_of_ble_eq_true rfl, Nat.le_of_ble_eq_true rfl⟩) (w_recv (ci := 7) hK hM (by decide) (by decide) (by decide) rfl) hM hK hS rfl hl.1 rfl (lv_room (Nat.le_of_ble_eq_true rfl)) dX7_prove_17 ⟨Nat.le_of_ble_eq_true rfl, Nat.le_of_ble_eq_true rfl⟩ (fun r17 V17 H locs hp17 hM hS => ?_)
      obtain ⟨er17, eV⟩ := hp17
      rw [eV] at hM; clear eV
      refine lv_if_ne (tgt := 26) hx hb dX7_prove_20 (by decide) (fun c_20 => ?_) (fun c_20 => ?_)
      · have i3 : areT σ h = true := b2i_ne0 (by rw [← er17]; exact c_20)
        obtain ⟨hh, eh, hD⟩ := areT_j i3
        have hE := hC.tkE
        have hDt : (σ.2.1 (rj t)).isSome = true := by rw [hTt]; rfl
        have eT : tkf σ (rj t) = T := by unfold tkf; rw [hTt]; rfl
        have hk8 : rj k < 8 := (in8_r i2).1
        rw [et, eh] at hl
        refine lv_aload_n hx hb dX7_prove_26 rfl (lv_at hl 0 rfl) ?_
        refine w_gr 7 1 2 (T := TX7) (N := 9) hx hb hts in7 hown hK.1 hM (by decide) (by decide) (by decide) (by decide) (by decide) rfl (by decide) k18 rfl dX7_prove_27 ?_
        refine lv_iload_n hx hb dX7_prove_30 rfl (lv_at hl 1 rfl) ?_
        refine lv_iload_n hx hb dX7_prove_31 rfl (lv_at hl 3 rfl) ?_
        refine w_cVv (C := RX2) (As := [.int (nI (rj t)), .int (nI (rj h))]) (rest := []) ⟨hx, hb, hml, hown, hts⟩ (c_X2_begin l ht hh) (cwV 2 hts gX7_prove_X2_begin rfl rfl rfl (by decide +kernel) ⟨Nat.le_of_ble_eq_true rfl, Nat.le_of_ble_eq_true rfl⟩) (w_recv (ci := 2) hK hM (by decide) (by decide) (by decide) rfl) hM hK hS rfl hl.1 rfl (lv_room (Nat.le_of_ble_eq_true rfl)) dX7_prove_32 ⟨Nat.le_of_ble_eq_true rfl, Nat.le_of_ble_eq_true rfl⟩ (fun V32 H locs hp32 hM hS => ?_)
        have f32 : frW V V32 0 := fun j a _ _ _ => hp32.2.2.2.2.2.2 j a
        have hE32 := hE.mv f32
        refine lv_aload_n hx hb dX7_prove_35 rfl (lv_at hl 0 rfl) ?_
        refine w_gr 7 1 2 (T := TX7) (N := 9) hx hb hts in7 hown hK.1 hM (by decide) (by decide) (by decide) (by decide) (by decide) rfl (by decide) k18 rfl dX7_prove_36 ?_
        refine lv_iload_n hx hb dX7_prove_39 rfl (lv_at hl 1 rfl) ?_
        refine lv_aload_n hx hb dX7_prove_40 rfl (lv_at hl 0 rfl) ?_
        refine w_gr 7 0 1 (T := TX7) (N := 9) hx hb hts in7 hown hK.1 hM (by decide) (by decide) (by decide) (by decide) (by decide) rfl (by decide) k11 rfl dX7_prove_41 ?_
        refine lv_iload_n hx hb dX7_prove_44 rfl (lv_at hl 2 rfl) ?_
        refine w_ald (N := 8) 3 hx hb hK.1 hM (by decide) (by first | rfl | (rw [(by decide)]; rfl)) (by first | decide | (rw [(by decide)]; decide)) (by decide) (vp8 i2) (564 + 2 * rj k) (sf1i i2) dX7_prove_45 ?_
        refine lv_iconst (v := 0) hx hb dX7_prove_46 (by decide) ?_
        refine w_cVNi (C := RX2) (host := "LimitTokens") (As := [.int (nI (rj t)), .ref (E.1 + (564 + 2 * rj k)), .int 0]) (rest := []) ⟨hx, hb, hml, hown, hts⟩ (walk_all l E 7 hE32 hp32.1 ht hDt (t := rj t) ht hDt (d0 := 0) rfl hp32.2.1 (clr_lt _ hh _ ht).1 (fun g hg hb => hD g hg (by rw [clr_bit _ hh _ ht g hg, Bool.and_eq_true] at hb; exact hb.1)) hp32.2.2.2.2.2.1 (by have := (cnt_le _ hh _ ht).2; omega) (rw_R _ hk8) (by omega) ((cR _ hk8).keep (hp32.2.2.2.2.2.2 _ (by omega)) (hp32.2.2.2.2.2.2 _ (by omega))) (oR _ hk8).1 (oR _ hk8).1) ⟨va_cnB 3 hts gX7_prove_X2_walk_n184 rfl rfl rfl hN.1 (hts (.initialized RX2) (by decide +kernel)) (by decide +kernel) ⟨Nat.le_of_ble_eq_true rfl, Nat.le_of_ble_eq_true rfl⟩, hts (.instanceMethod yX2_walk) (by decide +kernel), hts (.selects RX2 yX2_walk yX2_walk) (by decide +kernel)⟩ (w_recv (ci := 2) hK hM (by decide) (by decide) (by decide) rfl) hM hK hS rfl hl.1 rfl (lv_room (Nat.le_of_ble_eq_true rfl)) dX7_prove_47 ⟨Nat.le_of_ble_eq_true rfl, Nat.le_of_ble_eq_true rfl⟩ (fun r47 V47 H locs hp47 hM hS => ?_)
        have hqq : wk (V32 22) (tkf σ) (tkf σ (rj t)).2.1 8 (rj t) (σ.1 (rj k)) (clr (rj h) (rj t), 0) = wk σ.2.2.2.1 (tkf σ) T.2.1 8 (rj t) (σ.1 (rj k)) (clr (rj h) (rj t), 0) := by rw [eT, wk_q (q' := σ.2.2.2.1) (fun l => truth_congr (fun i hi => by rw [hp32.2.2.2.2.2.2 22 (by decide)]; exact cQ i hi))]
        have hw := hp47.1
        have f47 := hp47.2
        rw [hqq] at hw
        have hF := wk_F σ.2.2.2.1 (tkf σ) T.2.1 8 (rj t) (σ.1 (rj k)) (clr (rj h) (rj t), 0) (clr_lt _ hh _ ht).1 (by have := (cnt_le _ hh _ ht).2; dsimp only; omega)
        have hO := wk_ok σ.2.2.2.1 (tkf σ) T.2.1 8 (rj t) (σ.1 (rj k)) (clr (rj h) (rj t), 0) (clr_lt _ hh _ ht).1
        generalize hXe : wk σ.2.2.2.1 (tkf σ) T.2.1 8 (rj t) (σ.1 (rj k)) (clr (rj h) (rj t), 0) = XX at hw hF hO
        refine lv_if_eq (tgt := 60) hx hb dX7_prove_50 (by decide) (fun c_50 => ?_) (fun c_50 => ?_)
        · obtain ⟨F, hF9⟩ := hw.t c_50
          have hwl := hw.2.2.2.1 F hF9
          refine lv_aload_n hx hb dX7_prove_60 rfl (lv_at hl 0 rfl) ?_
          refine w_gr 7 1 2 (T := TX7) (N := 9) hx hb hts in7 hown hK.1 hM (by decide) (by decide) (by decide) (by decide) (by decide) rfl (by decide) k18 rfl dX7_prove_61 ?_
          refine w_gi 2 7 (T := TX2) (N := 11) hx hb hts in2 hown hK.1 hM (by decide) (by decide) (by decide) (by decide) (by decide) rfl (by decide) k191 rfl dX7_prove_64 ?_
          refine lv_if_ne (tgt := 74) hx hb dX7_prove_67 (by decide) (fun c_67 => ?_) (fun c_67 => ?_)
          · refine lv_bipush (v := (-10)) hx hb dX7_prove_74 (by decide) ?_
            refine lv_aload_n hx hb dX7_prove_76 rfl (lv_at hl 0 rfl) ?_
            refine w_gr 7 1 2 (T := TX7) (N := 9) hx hb hts in7 hown hK.1 hM (by decide) (by decide) (by decide) (by decide) (by decide) rfl (by decide) k18 rfl dX7_prove_77 ?_
            refine w_gi 2 7 (T := TX2) (N := 11) hx hb hts in2 hown hK.1 hM (by decide) (by decide) (by decide) (by decide) (by decide) rfl (by decide) k191 rfl dX7_prove_80 ?_
            refine lv_isub hx hb dX7_prove_83 ?_
            have hpost : (fun v V' => v = (opProve σ t k h).1 ∧ repC V' (opProve σ t k h).2 ∧ frM V V') ((-10) - (V47 2 7)) V47 := by
              obtain ⟨x1, x2⟩ := XX
              cases x1 with
              | inr q => cases hF9
              | inl q =>
                cases hF9
                have hq : opProve σ t k h = (-10 - nI F.1, sFlt σ (nI F.2.1, nI F.2.2, nI x2.2)) := by simp only [opProve, hT, i2, i3, hXe]; rfl
                have h1 := hF F rfl
                first | (exact absurd (hwl.2.1.symm.trans c_67) (cnI_ne h1.1 (by omega))) | (rw [hq, hwl.2.1]; exact ⟨rfl, hC.flt hwl.2.2.1 hwl.2.2.2 hw.2.2.1 (fun j hj => by rw [f47 j (by omega) (by omega) (by omega) (by omega)]; exact hp32.2.2.2.2.2.2 j (by omega)), fun j hj => by rw [f47 j (by omega) (by omega) (by omega) (by omega)]; exact hp32.2.2.2.2.2.2 j (by omega)⟩)
            exact w_iret V47 hx hb hret hK hS hM (hpost) hlocks dX7_prove_84
          · refine lv_iconst (v := 0) hx hb dX7_prove_70 (by decide) ?_
            refine lv_goto (tgt := 84) hx hb dX7_prove_71 (by decide) ?_
            have hpost : (fun v V' => v = (opProve σ t k h).1 ∧ repC V' (opProve σ t k h).2 ∧ frM V V') 0 V47 := by
              obtain ⟨x1, x2⟩ := XX
              cases x1 with
              | inr q => cases hF9
              | inl q =>
                cases hF9
                have hq : opProve σ t k h = (-10 - nI F.1, sFlt σ (nI F.2.1, nI F.2.2, nI x2.2)) := by simp only [opProve, hT, i2, i3, hXe]; rfl
                have h1 := hF F rfl
                first | (exact absurd (hwl.2.1.symm.trans c_67) (cnI_ne h1.1 (by omega))) | (rw [hq, hwl.2.1]; exact ⟨rfl, hC.flt hwl.2.2.1 hwl.2.2.2 hw.2.2.1 (fun j hj => by rw [f47 j (by omega) (by omega) (by omega) (by omega)]; exact hp32.2.2.2.2.2.2 j (by omega)), fun j hj => by rw [f47 j (by omega) (by omega) (by omega) (by omega)]; exact hp32.2.2.2.2.2.2 j (by omega)⟩)
            exact w_iret V47 hx hb hret hK hS hM (hpost) hlocks dX7_prove_84
        · obtain ⟨sg, hs9⟩ := hw.f c_50
          have hwr := hw.2.2.2.2 sg hs9
          refine lv_aload_n hx hb dX7_prove_53 rfl (lv_at hl 0 rfl) ?_
          refine w_gr 7 1 2 (T := TX7) (N := 9) hx hb hts in7 hown hK.1 hM (by decide) (by decide) (by decide) (by decide) (by decide) rfl (by decide) k18 rfl dX7_prove_54 ?_
          refine w_cVv (C := RX2) (As := []) (rest := []) ⟨hx, hb, hml, hown, hts⟩ (c_X2_compareSign l (hE32.mv f47) (pt := rj t) (hw.1.trans hp32.1) ht hDt (hwr.2.2.2.2) (hO.2 _ hs9)) (cwV 0 hts gX7_prove_X2_compareSign rfl rfl rfl (by decide +kernel) ⟨Nat.le_of_ble_eq_true rfl, Nat.le_of_ble_eq_true rfl⟩) (w_recv (ci := 2) hK hM (by decide) (by decide) (by decide) rfl) hM hK hS rfl hl.1 rfl (lv_room (Nat.le_of_ble_eq_true rfl)) dX7_prove_57 ⟨Nat.le_of_ble_eq_true rfl, Nat.le_of_ble_eq_true rfl⟩ (fun V57 H locs hp57 hM hS => ?_)
          refine lv_aload_n hx hb dX7_prove_60 rfl (lv_at hl 0 rfl) ?_
          refine w_gr 7 1 2 (T := TX7) (N := 9) hx hb hts in7 hown hK.1 hM (by decide) (by decide) (by decide) (by decide) (by decide) rfl (by decide) k18 rfl dX7_prove_61 ?_
          refine w_gi 2 7 (T := TX2) (N := 11) hx hb hts in2 hown hK.1 hM (by decide) (by decide) (by decide) (by decide) (by decide) rfl (by decide) k191 rfl dX7_prove_64 ?_
          refine lv_if_ne (tgt := 74) hx hb dX7_prove_67 (by decide) (fun c_67 => ?_) (fun c_67 => ?_)
          · refine lv_bipush (v := (-10)) hx hb dX7_prove_74 (by decide) ?_
            refine lv_aload_n hx hb dX7_prove_76 rfl (lv_at hl 0 rfl) ?_
            refine w_gr 7 1 2 (T := TX7) (N := 9) hx hb hts in7 hown hK.1 hM (by decide) (by decide) (by decide) (by decide) (by decide) rfl (by decide) k18 rfl dX7_prove_77 ?_
            refine w_gi 2 7 (T := TX2) (N := 11) hx hb hts in2 hown hK.1 hM (by decide) (by decide) (by decide) (by decide) (by decide) rfl (by decide) k191 rfl dX7_prove_80 ?_
            refine lv_isub hx hb dX7_prove_83 ?_
            have hpost : (fun v V' => v = (opProve σ t k h).1 ∧ repC V' (opProve σ t k h).2 ∧ frM V V') ((-10) - (V57 2 7)) V57 := by
              have f57 : ∀ j, (j = 19 ∨ j = 20 ∨ j = 22 ∨ (25 ≤ j ∧ j < 505 ∧ (j - 25) % 60 < 56) ∨ j = 505 ∨ j = 506 ∨ j = 507 ∨ 564 ≤ j) → V57 j = V j := fun j hj => by rw [hp57.2 j (by omega), f47 j (by omega) (by omega) (by omega) (by omega)]; exact hp32.2.2.2.2.2.2 j (by omega)
              have hz7 : V47 2 7 = 0 := hwr.2.1.trans hp32.2.2.1
              obtain ⟨x1, x2⟩ := XX
              cases x1 with
              | inl q => cases hs9
              | inr q =>
                cases hs9
                rcases hp57.1 with ⟨e1, e2⟩ | ⟨e1, e2, e3, e4, e5⟩
                · rw [eT] at e1
                  have hg1 : V57 2 8 = V32 2 8 := by rw [e2]; exact hwr.2.2.1
                  have hg2 : V57 2 9 = V32 2 9 := by rw [e2]; exact hwr.2.2.2.1
                  have hg3 : V57 2 10 = nI x2.2 := by rw [e2]; exact hw.2.2.1
                  have hq : opProve σ t k h = (0, sFlt σ (-1, -1, nI x2.2)) := by simp only [opProve, hT, i2, i3, hXe]; rw [if_pos (show (true && true) = true from rfl), if_pos e1]
                  have e0 : V57 2 7 = 0 := by rw [e2]; exact hz7
                  first | exact absurd e0 c_67 | (rw [hq]; exact ⟨show (0 : Int32) = 0 from rfl, hC.flt (hg1.trans hp32.2.2.2.1) (hg2.trans hp32.2.2.2.2.1) hg3 f57, fun j hj => f57 j (by omega)⟩)
                · rw [eT] at e1 e4
                  have hq : opProve σ t k h = (-15, sFlt σ (nI (rj t), nI T.2.2.length, nI x2.2)) := by simp only [opProve, hT, i2, i3, hXe]; rw [if_pos (show (true && true) = true from rfl), if_neg e1]
                  first | exact absurd (e2.symm.trans c_67) (by decide) | (rw [hq, e2]; exact ⟨show (-10 - 5 : Int32) = -15 by decide, hC.flt e3 e4 (by rw [e5]; exact hw.2.2.1) f57, fun j hj => f57 j (by omega)⟩)
            exact w_iret V57 hx hb hret hK hS hM (hpost) hlocks dX7_prove_84
          · refine lv_iconst (v := 0) hx hb dX7_prove_70 (by decide) ?_
            refine lv_goto (tgt := 84) hx hb dX7_prove_71 (by decide) ?_
            have hpost : (fun v V' => v = (opProve σ t k h).1 ∧ repC V' (opProve σ t k h).2 ∧ frM V V') 0 V57 := by
              have f57 : ∀ j, (j = 19 ∨ j = 20 ∨ j = 22 ∨ (25 ≤ j ∧ j < 505 ∧ (j - 25) % 60 < 56) ∨ j = 505 ∨ j = 506 ∨ j = 507 ∨ 564 ≤ j) → V57 j = V j := fun j hj => by rw [hp57.2 j (by omega), f47 j (by omega) (by omega) (by omega) (by omega)]; exact hp32.2.2.2.2.2.2 j (by omega)
              have hz7 : V47 2 7 = 0 := hwr.2.1.trans hp32.2.2.1
              obtain ⟨x1, x2⟩ := XX
              cases x1 with
              | inl q => cases hs9
              | inr q =>
                cases hs9
                rcases hp57.1 with ⟨e1, e2⟩ | ⟨e1, e2, e3, e4, e5⟩
                · rw [eT] at e1
                  have hg1 : V57 2 8 = V32 2 8 := by rw [e2]; exact hwr.2.2.1
                  have hg2 : V57 2 9 = V32 2 9 := by rw [e2]; exact hwr.2.2.2.1
                  have hg3 : V57 2 10 = nI x2.2 := by rw [e2]; exact hw.2.2.1
                  have hq : opProve σ t k h = (0, sFlt σ (-1, -1, nI x2.2)) := by simp only [opProve, hT, i2, i3, hXe]; rw [if_pos (show (true && true) = true from rfl), if_pos e1]
                  have e0 : V57 2 7 = 0 := by rw [e2]; exact hz7
                  first | exact absurd e0 c_67 | (rw [hq]; exact ⟨show (0 : Int32) = 0 from rfl, hC.flt (hg1.trans hp32.2.2.2.1) (hg2.trans hp32.2.2.2.2.1) hg3 f57, fun j hj => f57 j (by omega)⟩)
                · rw [eT] at e1 e4
                  have hq : opProve σ t k h = (-15, sFlt σ (nI (rj t), nI T.2.2.length, nI x2.2)) := by simp only [opProve, hT, i2, i3, hXe]; rw [if_pos (show (true && true) = true from rfl), if_neg e1]
                  first | exact absurd (e2.symm.trans c_67) (by decide) | (rw [hq, e2]; exact ⟨show (-10 - 5 : Int32) = -15 by decide, hC.flt e3 e4 (by rw [e5]; exact hw.2.2.1) f57, fun j hj => f57 j (by omega)⟩)
            exact w_iret V57 hx hb hret hK hS hM (hpost) hlocks dX7_prove_84
      · have i3 : areT σ h = false := b2i_eq0 (by rw [← er17]; exact c_20)
        refine lv_bipush (v := (-2)) hx hb dX7_prove_23 (by decide) ?_
        have hpost : (fun v V' => v = (opProve σ t k h).1 ∧ repC V' (opProve σ t k h).2 ∧ frM V V') (-2) V := by
          have hq : opProve σ t k h = (-2, σ) := by first | (simp [opProve, hT, i2, i3]; done) | (simp [opProve, hT, i2]; done) | (simp [opProve, hN]; done)
          rw [hq]; exact ⟨rfl, hC, fun _ _ => rfl⟩
        exact w_iret V hx hb hret hK hS hM (hpost) hlocks dX7_prove_25
