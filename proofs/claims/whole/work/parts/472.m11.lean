-- needs: 44 450 451 452 453 454 455 456 457 460 461 462 463 464 466 469 470
theorem xorL_gd {a b : List Int32} {j : Nat} (h1 : j < a.length) (h2 : j < b.length) : (xorL a b).getD j 0 = a.getD j 0 ^^^ b.getD j 0 := by
  simp [xorL, List.getD_eq_getElem?_getD, List.getElem?_zipWith, List.getElem?_eq_getElem h1, List.getElem?_eq_getElem h2]
set_option maxHeartbeats 4000000 in
set_option maxRecDepth 100000 in
theorem c_X8_limit (l : Launch) {E : En} {V : Vt} {σ : St} (hC : repM V σ) (t x : Int32) : CI l yX8_limit wsX8_limit 6 E V [.ref (E.1 + 580), .int t, .int x] (fun v V' => v = (opLimit σ t x).1 ∧ repM V' (opLimit σ t x).2 ∧ frC V V') := by
  refine Met.ofW (cc := cX8_limit) (maxL := 4) (ret := (some .int)) (by decide) rfl ?_
  intro p e s m args below meth c s₁ B hml hv
  obtain ⟨rfl, hM, hK⟩ := hv
  have hx := B.exec
  have hb := B.bytes
  have hret := B.returns
  have hts := atoms_spec (ws := wsX8_limit) B.pre
  have hown : s.vm.findClass RX8 = some m.cls := findClass_of_methodNamed B.named
  have hlocks := B.notSynchronized
  have hsz : s.heap.size = E.1 + 610 := hM.1
  have hS : va_S (AE E) s.heap s.heap [] := va_S.rf
  have inw8 : ∀ w ∈ u_ws RX8 TX8 42, w ∈ wsX8_limit := by decide +kernel
  have k112 := hts (.fieldLink RX8 112 "LimitTokensModel" "thrown" "I") (by decide +kernel)
  have k69 := hts (.fieldLink RX8 69 "LimitTokensModel" "limits" "[I") (by decide +kernel)
  have k78 := hts (.fieldLink RX8 78 "LimitTokensModel" "isOthers" "[Z") (by decide +kernel)
  have k84 := hts (.fieldLink RX8 84 "LimitTokensModel" "sign" "[I") (by decide +kernel)
  have hl := lv_entry ([.ref (E.1 + 580), .int t, .int x]) (n := 4) (Nat.le_of_ble_eq_true rfl)
  rw [lg_entry_eq]
  generalize (lg_sl ([.ref (E.1 + 580), .int t, .int x]) ++ List.replicate (4 - (lg_sl ([.ref (E.1 + 580), .int t, .int x])).length) Slot.unset).toArray = ls at hl ⊢
  have hl : lv_has ls 4 [(0, .ref (E.1 + 580)), (1, .int t), (2, .int x)] := hl
  refine lv_aload_n hx hb dX8_limit_0 rfl (lv_at hl 0 rfl) ?_
  refine lv_iconst (v := 0) hx hb dX8_limit_1 (by decide) ?_
  refine w_pi 8 0 (T := TX8) (N := 42) hx hb hts inw8 tyX8 tyX8_ok nmX8 hown hK.1 hM hS (by decide) (by decide) (by decide) (by decide) (by decide) rfl (by decide) k112 rfl rfl rfl rfl dX8_limit_2 (fun H locs hM hS => ?_)
  generalize hV2 : up2 V 580 0 0 = V2 at hM
  have hC2 := hC.fr (pFr.th hV2).1
  have fC2 := (pFr.th hV2).2
  obtain ⟨⟨oR, oT, oP⟩, cN, cR, cT, cP, cQ, cF, cL⟩ := id hC2
  refine lv_aload_n hx hb dX8_limit_5 rfl (lv_at hl 0 rfl) ?_
  refine lv_iload_n hx hb dX8_limit_6 rfl (lv_at hl 1 rfl) ?_
  refine w_cVi (C := RX8) (As := [.int t]) (rest := []) ⟨hx, hb, hml, hown, hts⟩ (c_X8_isToken l cT t) (cwV 1 hts gX8_limit_X8_isToken rfl rfl rfl (by decide +kernel) ⟨Nat.le_of_ble_eq_true rfl, Nat.le_of_ble_eq_true rfl⟩) (w_recv (ci := 8) hK hM (by decide) (by decide) (by decide) rfl) hM hK hS rfl hl.1 rfl (lv_room (Nat.le_of_ble_eq_true rfl)) dX8_limit_7 ⟨Nat.le_of_ble_eq_true rfl, Nat.le_of_ble_eq_true rfl⟩ (fun r7 V7 H locs hp7 hM hS => ?_)
  obtain ⟨er7, eV⟩ := hp7
  rw [eV] at hM; clear eV
  refine lv_if_eq (tgt := 20) hx hb dX8_limit_10 (by decide) (fun c_10 => ?_) (fun c_10 => ?_)
  · have hN : thr σ t = none := by have q9 := b2i_eq0 (er7.symm.trans c_10); cases q8 : thr σ t with | none => rfl | some x => rw [q8] at q9; cases q9
    refine lv_bipush (v := (-2)) hx hb dX8_limit_20 (by decide) ?_
    have hpost : (fun v V' => v = (opLimit σ t x).1 ∧ repM V' (opLimit σ t x).2 ∧ frC V V') (-2) V2 := by
      have hq : opLimit σ t x = (-2, σ) := by first | (simp [opLimit, hT, i2]; done) | (simp [opLimit, hN]; done)
      rw [hq]; exact ⟨rfl, hC2, fC2⟩
    exact w_iret V2 hx hb hret hK hS hM (hpost) hlocks dX8_limit_22
  · obtain ⟨T, hT⟩ : ∃ T, thr σ t = some T := Option.isSome_iff_exists.mp (b2i_ne0 (by rw [← er7]; exact c_10))
    obtain ⟨i1, ht, et, hTt⟩ := thr_some hT
    obtain ⟨hth, htk⟩ := (cT (rj t) ht).s hTt
    have hok := oT (rj t) ht T hTt
    have hc10 := hok.2.2.1
    refine lv_iload_n hx hb dX8_limit_13 rfl (lv_at hl 2 rfl) ?_
    refine w_cSi (As := [.int x]) (rest := []) ⟨hx, hb, hml, hown, hts⟩ (c_X8_is l x) (va_cwS 1 hts gX8_limit_X8_is rfl rfl rfl (by decide +kernel) ⟨Nat.le_of_ble_eq_true rfl, Nat.le_of_ble_eq_true rfl⟩) hM hK hS rfl hl.1 rfl (lv_room (Nat.le_of_ble_eq_true rfl)) dX8_limit_14 ⟨Nat.le_of_ble_eq_true rfl, Nat.le_of_ble_eq_true rfl⟩ (fun r14 V14 H locs hp14 hM hS => ?_)
    obtain ⟨er14, eV⟩ := hp14
    rw [eV] at hM; clear eV
    refine lv_if_ne (tgt := 23) hx hb dX8_limit_17 (by decide) (fun c_17 => ?_) (fun c_17 => ?_)
    · have i2 : in8 x = true := b2i_ne0 (by rw [← er14]; exact c_17)
      obtain ⟨h8x, enx⟩ := in8_r i2
      refine lv_aload_n hx hb dX8_limit_23 rfl (lv_at hl 0 rfl) ?_
      refine lv_iload_n hx hb dX8_limit_24 rfl (lv_at hl 2 rfl) ?_
      refine w_cVi (C := RX8) (As := [.int x]) (rest := []) ⟨hx, hb, hml, hown, hts⟩ (c_X8_isText l cR oR x i2) (cwV 1 hts gX8_limit_X8_isText rfl rfl rfl (by decide +kernel) ⟨Nat.le_of_ble_eq_true rfl, Nat.le_of_ble_eq_true rfl⟩) (w_recv (ci := 8) hK hM (by decide) (by decide) (by decide) rfl) hM hK hS rfl hl.1 rfl (lv_room (Nat.le_of_ble_eq_true rfl)) dX8_limit_25 ⟨Nat.le_of_ble_eq_true rfl, Nat.le_of_ble_eq_true rfl⟩ (fun r25 V25 H locs hp25 hM hS => ?_)
      obtain ⟨er25, eV⟩ := hp25
      rw [eV] at hM; clear eV
      refine lv_if_eq (tgt := 42) hx hb dX8_limit_28 (by decide) (fun c_28 => ?_) (fun c_28 => ?_)
      · have i3 : okW1 (σ.1 (rj x)) = false := b2i_eq0 (by rw [← er25]; exact c_28)
        refine lv_bipush (v := (-3)) hx hb dX8_limit_42 (by decide) ?_
        have hpost : (fun v V' => v = (opLimit σ t x).1 ∧ repM V' (opLimit σ t x).2 ∧ frC V V') (-3) V2 := by
          have hq : opLimit σ t x = (-3, σ) := by first | (simp [opLimit, hT, i2, i3]; done) | (simp [opLimit, hT, i2, i3]; omega)
          rw [hq]; exact ⟨rfl, hC2, fC2⟩
        exact w_iret V2 hx hb hret hK hS hM (hpost) hlocks dX8_limit_44
      · have i3 : okW1 (σ.1 (rj x)) = true := b2i_ne0 (by rw [← er25]; exact c_28)
        have ow := okW1_j i3
        have olx := oR _ h8x
        have hoL : okLm ((σ.1 (rj x)), []) := ⟨ow.1, ow.2, Or.inl rfl, olx.2, fun y hy => by cases hy⟩
        refine lv_aload_n hx hb dX8_limit_31 rfl (lv_at hl 0 rfl) ?_
        refine w_gr 8 24 599 (T := TX8) (N := 42) hx hb hts inw8 hown hK.1 hM (by decide) (by decide) (by decide) (by decide) (by decide) rfl (by decide) k69 rfl dX8_limit_32 ?_
        refine lv_iload_n hx hb dX8_limit_35 rfl (lv_at hl 1 rfl) ?_
        have i_36 : (t : Int32) = nI (rj t) := et
        refine w_ild (N := 9) hx hb hK.1 hM (by decide) (by decide) (by decide) (by rw [i_36]; exact vp_in_nI (by omega) (by omega)) dX8_limit_36 ?_
        have j_36 : t.toNatClampNeg = rj t := (congrArg Int32.toNatClampNeg i_36).trans (nI_clamp (by omega))
        have q : (V2 599 t.toNatClampNeg : Int32) = V2 599 (rj t) := by rw [j_36]
        refine lv_eqi q ?_
        have q : (V2 599 (rj t) : Int32) = nI T.2.2.length := htk.2.2.1
        refine lv_eqi q ?_
        refine lv_bipush (v := 10) hx hb dX8_limit_37 (by decide) ?_
        refine lv_icmp_ne (tgt := 45) hx hb dX8_limit_39 (by decide) (fun c_39 => ?_) (fun c_39 => ?_)
        · have n_39 : ¬ T.2.2.length = 10 := fun q9 => c_39 ((nEq (a := T.2.2.length) (b := 10) rfl rfl (by omega) (by omega)).mpr q9)
          refine lv_aload_n hx hb dX8_limit_45 rfl (lv_at hl 0 rfl) ?_
          refine lv_iload_n hx hb dX8_limit_46 rfl (lv_at hl 1 rfl) ?_
          refine lv_iload_n hx hb dX8_limit_47 rfl (lv_at hl 2 rfl) ?_
          refine w_cVi (C := RX8) (As := [.int t, .int x]) (rest := []) ⟨hx, hb, hml, hown, hts⟩ (c_X8_place l t x i1 i2 (cnt0 := T.2.2.length) (by omega) htk.2.2.1 (cR _ h8x).1 (cR _ h8x).2 ow.2) (cwV 2 hts gX8_limit_X8_place rfl rfl rfl (by decide +kernel) ⟨Nat.le_of_ble_eq_true rfl, Nat.le_of_ble_eq_true rfl⟩) (w_recv (ci := 8) hK hM (by decide) (by decide) (by decide) rfl) hM hK hS rfl hl.1 rfl (lv_room (Nat.le_of_ble_eq_true rfl)) dX8_limit_48 ⟨Nat.le_of_ble_eq_true rfl, Nat.le_of_ble_eq_true rfl⟩ (fun r48 V48 H locs hp48 hM hS => ?_)
          obtain ⟨-, p0, p1, p2, p3, p4, p5, p6⟩ := id hp48
          have q : (r48 : Int32) = nI (10 * rj t + T.2.2.length) := hp48.1
          refine lv_eqi q ?_
          refine lv_topi (fun x3_51 ex3_51 => ?_)
          refine lv_istore_n (lv' := [(3, .int x3_51), (0, .ref (E.1 + 580)), (1, .int t), (2, .int x)]) hx hb dX8_limit_51 rfl hl (by decide) rfl (fun ls hl => ?_)
          refine lv_aload_n hx hb dX8_limit_52 rfl (lv_at hl 1 rfl) ?_
          refine w_gr 8 27 602 (T := TX8) (N := 42) hx hb hts inw8 hown hK.1 hM (by decide) (by decide) (by decide) (by decide) (by decide) rfl (by decide) k78 rfl dX8_limit_53 ?_
          refine lv_iload_n hx hb dX8_limit_56 rfl (lv_at hl 0 rfl) ?_
          refine lv_iconst (v := 0) hx hb dX8_limit_57 (by decide) ?_
          have i_58 : (x3_51 : Int32) = nI (10 * rj t + T.2.2.length) := (ex3_51.trans rfl)
          have j_58 : x3_51.toNatClampNeg = 10 * rj t + T.2.2.length := (congrArg Int32.toNatClampNeg i_58).trans (nI_clamp (by omega))
          refine w_zst (N := 90) hx hb hK.1 hM hS (by decide) (by decide) (by decide) (by rw [i_58]; exact vp_in_nI (by omega) (by omega)) (by decide) dX8_limit_58 (fun H locs hM hS => ?_)
          rw [j_58] at hM
          generalize hV58 : up2 V48 602 (10 * rj t + T.2.2.length) 0 = V58 at hM
          have e58 : ∀ k, k ≠ 602 → V58 k = V48 k := fun k a => by rw [← hV58, up2_k _ _ a]
          refine lv_aload_n hx hb dX8_limit_59 rfl (lv_at hl 1 rfl) ?_
          refine lv_aload_n hx hb dX8_limit_60 rfl (lv_at hl 1 rfl) ?_
          refine w_gr 8 29 604 (T := TX8) (N := 42) hx hb hts inw8 hown hK.1 hM (by decide) (by decide) (by decide) (by decide) (by decide) rfl (by decide) k84 rfl dX8_limit_61 ?_
          refine lv_bipush (v := 32) hx hb dX8_limit_64 (by decide) ?_
          refine lv_iload_n hx hb dX8_limit_66 rfl (lv_at hl 2 rfl) ?_
          refine lv_imul hx hb dX8_limit_67 ?_
          have q : (32 * t : Int32) = nI (32 * (rj t)) := (nMul rfl et)
          refine lv_eqi q ?_
          refine lv_iload_n hx hb dX8_limit_68 rfl (lv_at hl 0 rfl) ?_
          refine w_cVv (C := RX8) (As := [.ref (E.1 + 604), .int (nI (32 * (rj t))), .int x3_51]) (rest := []) ⟨hx, hb, hml, hown, hts⟩ (c_X8_goOn l a604 (by decide) (b := 32 * rj t) (by omega) (s0 := T.2.1) (htk.2.2.2.1.keep (by rw [e58 604 (by decide), p6 604 (by decide) (by decide) (by decide)])) hok.2.1.1 (l1 := 10 * rj t + T.2.2.length) (by omega) (L := ((σ.1 (rj x)), [])) ⟨by rw [e58 600 (by decide)]; exact p0, p1.keep (e58 601 (by decide)), by rw [← hV58, up2_s]; rfl, seg.nil _ _ _⟩ hoL (cN.fr (by rw [e58 581 (by decide), p6 581 (by decide) (by decide) (by decide)]) (by rw [e58 582 (by decide), p6 582 (by decide) (by decide) (by decide)]) (by rw [e58 592 (by decide), p6 592 (by decide) (by decide) (by decide)])) ex3_51) (cwV 3 hts gX8_limit_X8_goOn rfl rfl rfl (by decide +kernel) ⟨Nat.le_of_ble_eq_true rfl, Nat.le_of_ble_eq_true rfl⟩) (w_recv (ci := 8) hK hM (by decide) (by decide) (by decide) rfl) hM hK hS rfl hl.1 rfl (lv_room (Nat.le_of_ble_eq_true rfl)) dX8_limit_69 ⟨Nat.le_of_ble_eq_true rfl, Nat.le_of_ble_eq_true rfl⟩ (fun V69 H locs hp69 hM hS => ?_)
          obtain ⟨g1, g2, g3, g4⟩ := hp69
          refine lv_aload_n hx hb dX8_limit_72 rfl (lv_at hl 1 rfl) ?_
          refine w_gr 8 24 599 (T := TX8) (N := 42) hx hb hts inw8 hown hK.1 hM (by decide) (by decide) (by decide) (by decide) (by decide) rfl (by decide) k69 rfl dX8_limit_73 ?_
          refine lv_iload_n hx hb dX8_limit_76 rfl (lv_at hl 2 rfl) ?_
          have i_77 : (t : Int32) = nI (rj t) := et
          refine w_ild (N := 9) hx hb hK.1 hM (by decide) (by decide) (by decide) (by rw [i_77]; exact vp_in_nI (by omega) (by omega)) dX8_limit_77 ?_
          have j_77 : t.toNatClampNeg = rj t := (congrArg Int32.toNatClampNeg i_77).trans (nI_clamp (by omega))
          have q : (V69 599 t.toNatClampNeg : Int32) = V69 599 (rj t) := by rw [j_77]
          refine lv_eqi q ?_
          have q : (V69 599 (rj t) : Int32) = nI (T.2.2.length + 1) := by rw [g3 599 (by omega) (by decide) (by decide), e58 599 (by decide)]; exact p2
          refine lv_eqi q ?_
          have hpost : (fun v V' => v = (opLimit σ t x).1 ∧ repM V' (opLimit σ t x).2 ∧ frC V V') (nI (T.2.2.length + 1)) V69 := by
            have hq : opLimit σ t x = (nI (T.2.2.length + 1), sTok σ (rj t) (some (T.1, hmac T.2.1 (σ.1 (rj x)), T.2.2 ++ [((σ.1 (rj x)), [])]))) := by have hlt : T.2.2.length < 10 := (by omega); simp [opLimit, hT, i2, i3, hlt]
            have k69 : ∀ k, (k < 583 ∨ 591 < k) → k ≠ 580 → k ≠ 599 → k ≠ 600 → k ≠ 601 → k ≠ 602 → k ≠ 604 → V69 k = V2 k := fun k a b c d f g h => by rw [g3 k a b h, e58 k g, p6 k c d f]
            have h9 := hC2.newLim (V' := V69) (L := ((σ.1 (rj x)), [])) (s' := goOnL T.2.1 ((σ.1 (rj x)), [])) ht hTt (by omega) hoL (goOnL_len _ _) (goOnL_ok _ _) (by rw [g3 599 (by omega) (by decide) (by decide), e58 599 (by decide)]; exact p2) ⟨by rw [g3 600 (by omega) (by decide) (by decide), e58 600 (by decide)]; exact p0, p1.keep (by rw [g3 601 (by omega) (by decide) (by decide), e58 601 (by decide)]), by rw [g3 602 (by omega) (by decide) (by decide), ← hV58, up2_s]; rfl, seg.nil _ _ _⟩ g1 (fun i a => by rw [g3 599 (by omega) (by decide) (by decide), e58 599 (by decide)]; exact p5 i a) (fun i a => by rw [g3 600 (by omega) (by decide) (by decide), e58 600 (by decide)]; exact p3 i a) (fun i a => by rw [g3 601 (by omega) (by decide) (by decide), e58 601 (by decide)]; exact p4 i a) (fun i a => by rw [g3 602 (by omega) (by decide) (by decide), ← hV58, up2_o _ _ a, p6 602 (by decide) (by decide) (by decide)]) (fun i a => by rw [k69 603 (by omega) (by decide) (by decide) (by decide) (by decide) (by decide) (by decide)]) (fun i a => by rw [g2 i a, e58 604 (by decide), p6 604 (by decide) (by decide) (by decide)]) (fun k a => k69 k (by omega) (by omega) (by omega) (by omega) (by omega) (by omega) (by omega)) (fun i a => by rw [g4 i (by omega) (by omega) (by omega), e58 580 (by decide), p6 580 (by decide) (by decide) (by decide)])
            rw [hq]; exact ⟨rfl, h9, fC2.trans (fun k a => k69 k (by omega) (by omega) (by omega) (by omega) (by omega) (by omega) (by omega))⟩
          exact w_iret V69 hx hb hret hK hS hM (hpost) hlocks dX8_limit_78
        · have n_39 : T.2.2.length = 10 := (nEq (a := T.2.2.length) (b := 10) rfl rfl (by omega) (by omega)).mp c_39
          refine lv_bipush (v := (-3)) hx hb dX8_limit_42 (by decide) ?_
          have hpost : (fun v V' => v = (opLimit σ t x).1 ∧ repM V' (opLimit σ t x).2 ∧ frC V V') (-3) V2 := by
            have hq : opLimit σ t x = (-3, σ) := by first | (simp [opLimit, hT, i2, i3]; done) | (simp [opLimit, hT, i2, i3]; omega)
            rw [hq]; exact ⟨rfl, hC2, fC2⟩
          exact w_iret V2 hx hb hret hK hS hM (hpost) hlocks dX8_limit_44
    · have i2 : in8 x = false := b2i_eq0 (by rw [← er14]; exact c_17)
      refine lv_bipush (v := (-2)) hx hb dX8_limit_20 (by decide) ?_
      have hpost : (fun v V' => v = (opLimit σ t x).1 ∧ repM V' (opLimit σ t x).2 ∧ frC V V') (-2) V2 := by
        have hq : opLimit σ t x = (-2, σ) := by first | (simp [opLimit, hT, i2]; done) | (simp [opLimit, hN]; done)
        rw [hq]; exact ⟨rfl, hC2, fC2⟩
      exact w_iret V2 hx hb hret hK hS hM (hpost) hlocks dX8_limit_22

set_option maxHeartbeats 4000000 in
set_option maxRecDepth 100000 in
theorem c_X8_others (l : Launch) {E : En} {V : Vt} {σ : St} (hC : repM V σ) (t k x : Int32) : CI l yX8_others wsX8_others 6 E V [.ref (E.1 + 580), .int t, .int k, .int x] (fun v V' => v = (opOthers σ t k x).1 ∧ repM V' (opOthers σ t k x).2 ∧ frC V V') := by
  refine Met.ofW (cc := cX8_others) (maxL := 6) (ret := (some .int)) (by decide) rfl ?_
  intro p e s m args below meth c s₁ B hml hv
  obtain ⟨rfl, hM, hK⟩ := hv
  have hx := B.exec
  have hb := B.bytes
  have hret := B.returns
  have hts := atoms_spec (ws := wsX8_others) B.pre
  have hown : s.vm.findClass RX8 = some m.cls := findClass_of_methodNamed B.named
  have hlocks := B.notSynchronized
  have hsz : s.heap.size = E.1 + 610 := hM.1
  have hS : va_S (AE E) s.heap s.heap [] := va_S.rf
  have inw8 : ∀ w ∈ u_ws RX8 TX8 42, w ∈ wsX8_others := by decide +kernel
  have k112 := hts (.fieldLink RX8 112 "LimitTokensModel" "thrown" "I") (by decide +kernel)
  have k69 := hts (.fieldLink RX8 69 "LimitTokensModel" "limits" "[I") (by decide +kernel)
  have k49 := hts (.fieldLink RX8 49 "LimitTokensModel" "registerSize" "[I") (by decide +kernel)
  have k78 := hts (.fieldLink RX8 78 "LimitTokensModel" "isOthers" "[Z") (by decide +kernel)
  have k84 := hts (.fieldLink RX8 84 "LimitTokensModel" "sign" "[I") (by decide +kernel)
  have k75 := hts (.fieldLink RX8 75 "LimitTokensModel" "text" "[I") (by decide +kernel)
  have k72 := hts (.fieldLink RX8 72 "LimitTokensModel" "textSize" "[I") (by decide +kernel)
  have k81 := hts (.fieldLink RX8 81 "LimitTokensModel" "lock" "[I") (by decide +kernel)
  have k46 := hts (.fieldLink RX8 46 "LimitTokensModel" "register" "[I") (by decide +kernel)
  have k37 := hts (.fieldLink RX8 37 "LimitTokensModel" "out" "[I") (by decide +kernel)
  have hl := lv_entry ([.ref (E.1 + 580), .int t, .int k, .int x]) (n := 6) (Nat.le_of_ble_eq_true rfl)
  rw [lg_entry_eq]
  generalize (lg_sl ([.ref (E.1 + 580), .int t, .int k, .int x]) ++ List.replicate (6 - (lg_sl ([.ref (E.1 + 580), .int t, .int k, .int x])).length) Slot.unset).toArray = ls at hl ⊢
  have hl : lv_has ls 6 [(0, .ref (E.1 + 580)), (1, .int t), (2, .int k), (3, .int x)] := hl
  refine lv_aload_n hx hb dX8_others_0 rfl (lv_at hl 0 rfl) ?_
  refine lv_iconst (v := 0) hx hb dX8_others_1 (by decide) ?_
  refine w_pi 8 0 (T := TX8) (N := 42) hx hb hts inw8 tyX8 tyX8_ok nmX8 hown hK.1 hM hS (by decide) (by decide) (by decide) (by decide) (by decide) rfl (by decide) k112 rfl rfl rfl rfl dX8_others_2 (fun H locs hM hS => ?_)
  generalize hV2 : up2 V 580 0 0 = V2 at hM
  have hC2 := hC.fr (pFr.th hV2).1
  have fC2 := (pFr.th hV2).2
  obtain ⟨⟨oR, oT, oP⟩, cN, cR, cT, cP, cQ, cF, cL⟩ := id hC2
  refine lv_aload_n hx hb dX8_others_5 rfl (lv_at hl 0 rfl) ?_
  refine lv_iload_n hx hb dX8_others_6 rfl (lv_at hl 1 rfl) ?_
  refine w_cVi (C := RX8) (As := [.int t]) (rest := []) ⟨hx, hb, hml, hown, hts⟩ (c_X8_isToken l cT t) (cwV 1 hts gX8_others_X8_isToken rfl rfl rfl (by decide +kernel) ⟨Nat.le_of_ble_eq_true rfl, Nat.le_of_ble_eq_true rfl⟩) (w_recv (ci := 8) hK hM (by decide) (by decide) (by decide) rfl) hM hK hS rfl hl.1 rfl (lv_room (Nat.le_of_ble_eq_true rfl)) dX8_others_7 ⟨Nat.le_of_ble_eq_true rfl, Nat.le_of_ble_eq_true rfl⟩ (fun r7 V7 H locs hp7 hM hS => ?_)
  obtain ⟨er7, eV⟩ := hp7
  rw [eV] at hM; clear eV
  refine lv_if_eq (tgt := 27) hx hb dX8_others_10 (by decide) (fun c_10 => ?_) (fun c_10 => ?_)
  · have hN : thr σ t = none := by have q9 := b2i_eq0 (er7.symm.trans c_10); cases q8 : thr σ t with | none => rfl | some x => rw [q8] at q9; cases q9
    refine lv_bipush (v := (-2)) hx hb dX8_others_27 (by decide) ?_
    have hpost : (fun v V' => v = (opOthers σ t k x).1 ∧ repM V' (opOthers σ t k x).2 ∧ frC V V') (-2) V2 := by
      have hq : opOthers σ t k x = (-2, σ) := by first | (simp [opOthers, hT, i2, i3]; done) | (simp [opOthers, hT, i2]; done) | (simp [opOthers, hN]; done)
      rw [hq]; exact ⟨rfl, hC2, fC2⟩
    exact w_iret V2 hx hb hret hK hS hM (hpost) hlocks dX8_others_29
  · obtain ⟨T, hT⟩ : ∃ T, thr σ t = some T := Option.isSome_iff_exists.mp (b2i_ne0 (by rw [← er7]; exact c_10))
    obtain ⟨i1, ht, et, hTt⟩ := thr_some hT
    obtain ⟨hth, htk⟩ := (cT (rj t) ht).s hTt
    have hok := oT (rj t) ht T hTt
    have hc10 := hok.2.2.1
    refine lv_iload_n hx hb dX8_others_13 rfl (lv_at hl 2 rfl) ?_
    refine w_cSi (As := [.int k]) (rest := []) ⟨hx, hb, hml, hown, hts⟩ (c_X8_is l k) (va_cwS 1 hts gX8_others_X8_is rfl rfl rfl (by decide +kernel) ⟨Nat.le_of_ble_eq_true rfl, Nat.le_of_ble_eq_true rfl⟩) hM hK hS rfl hl.1 rfl (lv_room (Nat.le_of_ble_eq_true rfl)) dX8_others_14 ⟨Nat.le_of_ble_eq_true rfl, Nat.le_of_ble_eq_true rfl⟩ (fun r14 V14 H locs hp14 hM hS => ?_)
    obtain ⟨er14, eV⟩ := hp14
    rw [eV] at hM; clear eV
    refine lv_if_eq (tgt := 27) hx hb dX8_others_17 (by decide) (fun c_17 => ?_) (fun c_17 => ?_)
    · have i2 : in8 k = false := b2i_eq0 (by rw [← er14]; exact c_17)
      refine lv_bipush (v := (-2)) hx hb dX8_others_27 (by decide) ?_
      have hpost : (fun v V' => v = (opOthers σ t k x).1 ∧ repM V' (opOthers σ t k x).2 ∧ frC V V') (-2) V2 := by
        have hq : opOthers σ t k x = (-2, σ) := by first | (simp [opOthers, hT, i2, i3]; done) | (simp [opOthers, hT, i2]; done) | (simp [opOthers, hN]; done)
        rw [hq]; exact ⟨rfl, hC2, fC2⟩
      exact w_iret V2 hx hb hret hK hS hM (hpost) hlocks dX8_others_29
    · have i2 : in8 k = true := b2i_ne0 (by rw [← er14]; exact c_17)
      obtain ⟨h8k, enk⟩ := in8_r i2
      refine lv_iload_n hx hb dX8_others_20 rfl (lv_at hl 3 rfl) ?_
      refine w_cSi (As := [.int x]) (rest := []) ⟨hx, hb, hml, hown, hts⟩ (c_X8_is l x) (va_cwS 1 hts gX8_others_X8_is rfl rfl rfl (by decide +kernel) ⟨Nat.le_of_ble_eq_true rfl, Nat.le_of_ble_eq_true rfl⟩) hM hK hS rfl hl.1 rfl (lv_room (Nat.le_of_ble_eq_true rfl)) dX8_others_21 ⟨Nat.le_of_ble_eq_true rfl, Nat.le_of_ble_eq_true rfl⟩ (fun r21 V21 H locs hp21 hM hS => ?_)
      obtain ⟨er21, eV⟩ := hp21
      rw [eV] at hM; clear eV
      refine lv_if_ne (tgt := 30) hx hb dX8_others_24 (by decide) (fun c_24 => ?_) (fun c_24 => ?_)
      · have i3 : in8 x = true := b2i_ne0 (by rw [← er21]; exact c_24)
        obtain ⟨h8x, enx⟩ := in8_r i3
        refine lv_aload_n hx hb dX8_others_30 rfl (lv_at hl 0 rfl) ?_
        refine lv_iload_n hx hb dX8_others_31 rfl (lv_at hl 3 rfl) ?_
        refine w_cVi (C := RX8) (As := [.int x]) (rest := []) ⟨hx, hb, hml, hown, hts⟩ (c_X8_isText l cR oR x i3) (cwV 1 hts gX8_others_X8_isText rfl rfl rfl (by decide +kernel) ⟨Nat.le_of_ble_eq_true rfl, Nat.le_of_ble_eq_true rfl⟩) (w_recv (ci := 8) hK hM (by decide) (by decide) (by decide) rfl) hM hK hS rfl hl.1 rfl (lv_room (Nat.le_of_ble_eq_true rfl)) dX8_others_32 ⟨Nat.le_of_ble_eq_true rfl, Nat.le_of_ble_eq_true rfl⟩ (fun r32 V32 H locs hp32 hM hS => ?_)
        obtain ⟨er32, eV⟩ := hp32
        rw [eV] at hM; clear eV
        refine lv_if_eq (tgt := 60) hx hb dX8_others_35 (by decide) (fun c_35 => ?_) (fun c_35 => ?_)
        · have i4 : okW1 (σ.1 (rj x)) = false := b2i_eq0 (by rw [← er32]; exact c_35)
          refine lv_bipush (v := (-3)) hx hb dX8_others_60 (by decide) ?_
          have hpost : (fun v V' => v = (opOthers σ t k x).1 ∧ repM V' (opOthers σ t k x).2 ∧ frC V V') (-3) V2 := by
            have hq : opOthers σ t k x = (-3, σ) := by first | (simp [opOthers, hT, i2, i3, i4]; done) | (simp [opOthers, hT, i2, i3, i4]; omega)
            rw [hq]; exact ⟨rfl, hC2, fC2⟩
          exact w_iret V2 hx hb hret hK hS hM (hpost) hlocks dX8_others_62
        · have i4 : okW1 (σ.1 (rj x)) = true := b2i_ne0 (by rw [← er32]; exact c_35)
          have ow := okW1_j i4
          have olx := oR _ h8x
          have olk := oR _ h8k
          refine lv_aload_n hx hb dX8_others_38 rfl (lv_at hl 0 rfl) ?_
          refine w_gr 8 24 599 (T := TX8) (N := 42) hx hb hts inw8 hown hK.1 hM (by decide) (by decide) (by decide) (by decide) (by decide) rfl (by decide) k69 rfl dX8_others_39 ?_
          refine lv_iload_n hx hb dX8_others_42 rfl (lv_at hl 1 rfl) ?_
          have i_43 : (t : Int32) = nI (rj t) := et
          refine w_ild (N := 9) hx hb hK.1 hM (by decide) (by decide) (by decide) (by rw [i_43]; exact vp_in_nI (by omega) (by omega)) dX8_others_43 ?_
          have j_43 : t.toNatClampNeg = rj t := (congrArg Int32.toNatClampNeg i_43).trans (nI_clamp (by omega))
          have q : (V2 599 t.toNatClampNeg : Int32) = V2 599 (rj t) := by rw [j_43]
          refine lv_eqi q ?_
          have q : (V2 599 (rj t) : Int32) = nI T.2.2.length := htk.2.2.1
          refine lv_eqi q ?_
          refine lv_bipush (v := 10) hx hb dX8_others_44 (by decide) ?_
          refine lv_icmp_eq (tgt := 60) hx hb dX8_others_46 (by decide) (fun c_46 => ?_) (fun c_46 => ?_)
          · have n_46 : T.2.2.length = 10 := (nEq (a := T.2.2.length) (b := 10) rfl rfl (by omega) (by omega)).mp c_46
            refine lv_bipush (v := (-3)) hx hb dX8_others_60 (by decide) ?_
            have hpost : (fun v V' => v = (opOthers σ t k x).1 ∧ repM V' (opOthers σ t k x).2 ∧ frC V V') (-3) V2 := by
              have hq : opOthers σ t k x = (-3, σ) := by first | (simp [opOthers, hT, i2, i3, i4]; done) | (simp [opOthers, hT, i2, i3, i4]; omega)
              rw [hq]; exact ⟨rfl, hC2, fC2⟩
            exact w_iret V2 hx hb hret hK hS hM (hpost) hlocks dX8_others_62
          · have n_46 : ¬ T.2.2.length = 10 := fun q9 => c_46 ((nEq (a := T.2.2.length) (b := 10) rfl rfl (by omega) (by omega)).mpr q9)
            refine lv_aload_n hx hb dX8_others_49 rfl (lv_at hl 0 rfl) ?_
            refine w_gr 8 17 594 (T := TX8) (N := 42) hx hb hts inw8 hown hK.1 hM (by decide) (by decide) (by decide) (by decide) (by decide) rfl (by decide) k49 rfl dX8_others_50 ?_
            refine lv_iload_n hx hb dX8_others_53 rfl (lv_at hl 2 rfl) ?_
            have i_54 : (k : Int32) = nI (rj k) := enk
            refine w_ild (N := 8) hx hb hK.1 hM (by decide) (by decide) (by decide) (by rw [i_54]; exact vp_in_nI (by omega) (by omega)) dX8_others_54 ?_
            have j_54 : k.toNatClampNeg = rj k := (congrArg Int32.toNatClampNeg i_54).trans (nI_clamp (by omega))
            have q : (V2 594 k.toNatClampNeg : Int32) = V2 594 (rj k) := by rw [j_54]
            refine lv_eqi q ?_
            have q : (V2 594 (rj k) : Int32) = nI (σ.1 (rj k)).length := (cR _ h8k).1
            refine lv_eqi q ?_
            refine lv_bipush (v := 32) hx hb dX8_others_55 (by decide) ?_
            refine lv_icmp_eq (tgt := 63) hx hb dX8_others_57 (by decide) (fun c_57 => ?_) (fun c_57 => ?_)
            · have n_57 : ((σ.1 (rj k)).length) = 32 := (nEq (a := ((σ.1 (rj k)).length)) (b := 32) rfl rfl (by omega) (by omega)).mp c_57
              have hkl : (σ.1 (rj k)).length = 32 := n_57
              have hLl : (xorL (σ.1 (rj k)) (hmac T.2.1 (σ.1 (rj x)))).length = 32 := by rw [xorL_len (by rw [hkl, hmac_len])]; exact hkl
              have hLne : ¬ (xorL (σ.1 (rj k)) (hmac T.2.1 (σ.1 (rj x)))) = [] := fun q => by rw [q] at hLl; simp at hLl
              have hoL : okLm ((σ.1 (rj x)), (xorL (σ.1 (rj k)) (hmac T.2.1 (σ.1 (rj x))))) := ⟨ow.1, ow.2, Or.inr hLl, olx.2, xorL_ok olk.2 (hmac_ok _ _)⟩
              refine lv_aload_n hx hb dX8_others_63 rfl (lv_at hl 0 rfl) ?_
              refine lv_iload_n hx hb dX8_others_64 rfl (lv_at hl 1 rfl) ?_
              refine lv_iload_n hx hb dX8_others_65 rfl (lv_at hl 3 rfl) ?_
              refine w_cVi (C := RX8) (As := [.int t, .int x]) (rest := []) ⟨hx, hb, hml, hown, hts⟩ (c_X8_place l t x i1 i3 (cnt0 := T.2.2.length) (by omega) htk.2.2.1 (cR _ h8x).1 (cR _ h8x).2 ow.2) (cwV 2 hts gX8_others_X8_place rfl rfl rfl (by decide +kernel) ⟨Nat.le_of_ble_eq_true rfl, Nat.le_of_ble_eq_true rfl⟩) (w_recv (ci := 8) hK hM (by decide) (by decide) (by decide) rfl) hM hK hS rfl hl.1 rfl (lv_room (Nat.le_of_ble_eq_true rfl)) dX8_others_66 ⟨Nat.le_of_ble_eq_true rfl, Nat.le_of_ble_eq_true rfl⟩ (fun r66 V66 H locs hp66 hM hS => ?_)
              obtain ⟨-, p0, p1, p2, p3, p4, p5, p6⟩ := id hp66
              have q : (r66 : Int32) = nI (10 * rj t + T.2.2.length) := hp66.1
              refine lv_eqi q ?_
              refine lv_topi (fun x4_69 ex4_69 => ?_)
              refine lv_istore (lv' := [(4, .int x4_69), (0, .ref (E.1 + 580)), (1, .int t), (2, .int k), (3, .int x)]) hx hb dX8_others_69 hl (by decide) rfl (fun ls hl => ?_)
              refine lv_aload_n hx hb dX8_others_71 rfl (lv_at hl 1 rfl) ?_
              refine w_gr 8 27 602 (T := TX8) (N := 42) hx hb hts inw8 hown hK.1 hM (by decide) (by decide) (by decide) (by decide) (by decide) rfl (by decide) k78 rfl dX8_others_72 ?_
              refine lv_iload hx hb dX8_others_75 (lv_at hl 0 rfl) ?_
              refine lv_iconst (v := 1) hx hb dX8_others_77 (by decide) ?_
              have i_78 : (x4_69 : Int32) = nI (10 * rj t + T.2.2.length) := (ex4_69.trans rfl)
              have j_78 : x4_69.toNatClampNeg = 10 * rj t + T.2.2.length := (congrArg Int32.toNatClampNeg i_78).trans (nI_clamp (by omega))
              refine w_zst (N := 90) hx hb hK.1 hM hS (by decide) (by decide) (by decide) (by rw [i_78]; exact vp_in_nI (by omega) (by omega)) (by decide) dX8_others_78 (fun H locs hM hS => ?_)
              rw [j_78] at hM
              generalize hV78 : up2 V66 602 (10 * rj t + T.2.2.length) 1 = V78 at hM
              have e78 : ∀ k, k ≠ 602 → V78 k = V66 k := fun k a => by rw [← hV78, up2_k _ _ a]
              have s78 : seg V78 604 (32 * rj t) T.2.1 := htk.2.2.2.1.keep (by rw [e78 604 (by decide), p6 604 (by decide) (by decide) (by decide)])
              have t78 : seg V78 601 (60 * (10 * rj t + T.2.2.length)) (σ.1 (rj x)) := p1.keep (e78 601 (by decide))
              have cN78 : mCon V78 := cN.fr (by rw [e78 581 (by decide), p6 581 (by decide) (by decide) (by decide)]) (by rw [e78 582 (by decide), p6 582 (by decide) (by decide) (by decide)]) (by rw [e78 592 (by decide), p6 592 (by decide) (by decide) (by decide)])
              refine lv_aload_n hx hb dX8_others_79 rfl (lv_at hl 1 rfl) ?_
              refine lv_aload_n hx hb dX8_others_80 rfl (lv_at hl 1 rfl) ?_
              refine w_gr 8 29 604 (T := TX8) (N := 42) hx hb hts inw8 hown hK.1 hM (by decide) (by decide) (by decide) (by decide) (by decide) rfl (by decide) k84 rfl dX8_others_81 ?_
              refine lv_bipush (v := 32) hx hb dX8_others_84 (by decide) ?_
              refine lv_iload_n hx hb dX8_others_86 rfl (lv_at hl 2 rfl) ?_
              refine lv_imul hx hb dX8_others_87 ?_
              have q : (32 * t : Int32) = nI (32 * (rj t)) := (nMul rfl et)
              refine lv_eqi q ?_
              refine lv_bipush (v := 32) hx hb dX8_others_88 (by decide) ?_
              refine w_cVv (C := RX8) (As := [.ref (E.1 + 604), .int (nI (32 * (rj t))), .int 32]) (rest := []) ⟨hx, hb, hml, hown, hts⟩ (m_keyIs l a604 (by decide) (b := 32 * rj t) (n := 32) (l0 := T.2.1) (s78) (by omega) (by omega) (hok.2.1.1)) (cwV 3 hts gX8_others_X8_keyIs rfl rfl rfl (by decide +kernel) ⟨Nat.le_of_ble_eq_true rfl, Nat.le_of_ble_eq_true rfl⟩) (w_recv (ci := 8) hK hM (by decide) (by decide) (by decide) rfl) hM hK hS rfl hl.1 rfl (lv_room (Nat.le_of_ble_eq_true rfl)) dX8_others_90 ⟨Nat.le_of_ble_eq_true rfl, Nat.le_of_ble_eq_true rfl⟩ (fun V90 H locs hp90 hM hS => ?_)
              have F90 : frS V78 V90 583 591 := (frS.rf).trans (⟨fun k a b => hp90.2.2.1 k (by omega) b, fun i _ a b => hp90.2.2.2 i a b⟩)
              have hk90 := hp90.1
              have hm90 := hp90.2.1
              refine lv_aload_n hx hb dX8_others_93 rfl (lv_at hl 1 rfl) ?_
              refine lv_aload_n hx hb dX8_others_94 rfl (lv_at hl 1 rfl) ?_
              refine w_gr 8 26 601 (T := TX8) (N := 42) hx hb hts inw8 hown hK.1 hM (by decide) (by decide) (by decide) (by decide) (by decide) rfl (by decide) k75 rfl dX8_others_95 ?_
              refine lv_bipush (v := 60) hx hb dX8_others_98 (by decide) ?_
              refine lv_iload hx hb dX8_others_100 (lv_at hl 0 rfl) ?_
              refine lv_imul hx hb dX8_others_102 ?_
              have q : (60 * x4_69 : Int32) = nI (60 * (10 * rj t + T.2.2.length)) := (nMul rfl (ex4_69.trans rfl))
              refine lv_eqi q ?_
              refine lv_aload_n hx hb dX8_others_103 rfl (lv_at hl 1 rfl) ?_
              refine w_gr 8 25 600 (T := TX8) (N := 42) hx hb hts inw8 hown hK.1 hM (by decide) (by decide) (by decide) (by decide) (by decide) rfl (by decide) k72 rfl dX8_others_104 ?_
              refine lv_iload hx hb dX8_others_107 (lv_at hl 0 rfl) ?_
              have i_109 : (x4_69 : Int32) = nI (10 * rj t + T.2.2.length) := (ex4_69.trans rfl)
              refine w_ild (N := 90) hx hb hK.1 hM (by decide) (by decide) (by decide) (by rw [i_109]; exact vp_in_nI (by omega) (by omega)) dX8_others_109 ?_
              have j_109 : x4_69.toNatClampNeg = 10 * rj t + T.2.2.length := (congrArg Int32.toNatClampNeg i_109).trans (nI_clamp (by omega))
              have q : (V90 600 x4_69.toNatClampNeg : Int32) = V90 600 (10 * rj t + T.2.2.length) := by rw [j_109]
              refine lv_eqi q ?_
              have q : (V90 600 (10 * rj t + T.2.2.length) : Int32) = nI (σ.1 (rj x)).length := by rw [F90.1 600 (by omega) (by decide), e78 600 (by decide)]; exact p0
              refine lv_eqi q ?_
              refine w_cVv (C := RX8) (As := [.ref (E.1 + 601), .int (nI (60 * (10 * rj t + T.2.2.length))), .int (nI (σ.1 (rj x)).length)]) (rest := []) ⟨hx, hb, hml, hown, hts⟩ (m_add l a601 (by decide) hm90 (b := 60 * (10 * rj t + T.2.2.length)) (n := (σ.1 (rj x)).length) (l0 := (σ.1 (rj x))) (F90.seg t78 (by omega) (by omega)) (by omega) (by simp <;> omega) (rfl)) (cwV 3 hts gX8_others_X8_add rfl rfl rfl (by decide +kernel) ⟨Nat.le_of_ble_eq_true rfl, Nat.le_of_ble_eq_true rfl⟩) (w_recv (ci := 8) hK hM (by decide) (by decide) (by decide) rfl) hM hK hS rfl hl.1 rfl (lv_room (Nat.le_of_ble_eq_true rfl)) dX8_others_110 ⟨Nat.le_of_ble_eq_true rfl, Nat.le_of_ble_eq_true rfl⟩ (fun V110 H locs hp110 hM hS => ?_)
              have F110 : frS V78 V110 583 591 := (F90).trans (hp110.2.toS (by omega) (by decide))
              have hk110 := hk90.keep (hp110.2.2 10 (by decide)) (hp110.2.1 588 (by decide) (by decide))
              have hm110 := hp110.1
              refine lv_aload_n hx hb dX8_others_113 rfl (lv_at hl 1 rfl) ?_
              refine w_cVv (C := RX8) (As := []) (rest := []) ⟨hx, hb, hml, hown, hts⟩ (c_X8_sealNow l (fun i hi => by rw [(F110).1 582 (by omega) (by decide)]; exact cN78.1 i hi) (fun i hi => by rw [(F110).1 581 (by omega) (by decide)]; exact cN78.2.1 i hi) hk110 hm110 (by have := hok.2.1.1; omega) (by simp <;> omega)) (cwV 0 hts gX8_others_X8_sealNow rfl rfl rfl (by decide +kernel) ⟨Nat.le_of_ble_eq_true rfl, Nat.le_of_ble_eq_true rfl⟩) (w_recv (ci := 8) hK hM (by decide) (by decide) (by decide) rfl) hM hK hS rfl hl.1 rfl (lv_room (Nat.le_of_ble_eq_true rfl)) dX8_others_114 ⟨Nat.le_of_ble_eq_true rfl, Nat.le_of_ble_eq_true rfl⟩ (fun V114 H locs hp114 hM hS => ?_)
              rw [List.nil_append] at hp114
              have F114 : frS V78 V114 583 591 := (F110).trans (hp114.2.wide (by decide))
              refine lv_iconst (v := 0) hx hb dX8_others_117 (by decide) ?_
              refine lv_istore (lv' := [(5, .int 0), (4, .int x4_69), (0, .ref (E.1 + 580)), (1, .int t), (2, .int k), (3, .int x)]) hx hb dX8_others_118 hl (by decide) rfl (fun ls hl => ?_)
              have loop120 : ∀ (fu : Nat) (Vw : Vt) (H : Heap) (locs : List Loc) (ls : Array Slot) (j : Nat) (hj : j ≤ 32) (hw : cpx Vw V114 603 (32 * (10 * rj t + T.2.2.length)) j (fun i => (xorL (σ.1 (rj k)) (hmac T.2.1 (σ.1 (rj x)))).getD i 0)), 32 - j < fu → Wd E Vw H → va_S (AE E) s.heap H locs → lv_has ls 6 [(0, .ref (E.1 + 580)), (1, .int t), (2, .int k), (4, .int x4_69), (5, .int (nI j))] → W p l e (headSpec wsX8_others (rmD 6)).room s m ([.ref (E.1 + 580), .int t, .int k, .int x] : List Value).toArray below meth c H locs 0 0 (MQ below (QI E (fun V' => Wd E V') (fun v V' => v = (opOthers σ t k x).1 ∧ repM V' (opOthers σ t k x).2 ∧ frC V V')) ([.ref (E.1 + 580), .int t, .int k, .int x] : List Value).toArray s 0 0 (AE E)) (F0 m 120 ls []) := by
                intro fu
                induction fu with
                | zero => intros; omega
                | succ fu ih120 =>
                  intro Vw H locs ls j hj hw hfu hM hS hl
                  refine lv_iload hx hb dX8_others_120 (lv_at hl 4 rfl) ?_
                  refine lv_bipush (v := 32) hx hb dX8_others_122 (by decide) ?_
                  refine lv_icmp_ge (tgt := 166) hx hb dX8_others_124 (by decide) (fun c_124 => ?_) (fun c_124 => ?_)
                  · have n_124 : 32 ≤ j := (nLe (a := 32) (b := j) rfl rfl (by omega) (by omega)).mp c_124
                    have hj32 : j = 32 := by omega
                    have q9 : ∀ k, (k < 583 ∨ 591 < k) → k ≠ 580 → k ≠ 603 → Vw k = V78 k := fun k a b c => by rw [hw.2.2 k c, F114.1 k a b]
                    have m9 : mLim Vw (10 * rj t + T.2.2.length) ((σ.1 (rj x)), (xorL (σ.1 (rj k)) (hmac T.2.1 (σ.1 (rj x))))) := ⟨by rw [q9 600 (by omega) (by decide) (by decide), e78 600 (by decide)]; exact p0, t78.keep (q9 601 (by omega) (by decide) (by decide)), by rw [q9 602 (by omega) (by decide) (by decide), ← hV78, up2_s]; show (1 : Int32) = b2i (decide ((xorL (σ.1 (rj k)) (hmac T.2.1 (σ.1 (rj x)))) ≠ [])); rw [decide_eq_true hLne]; rfl, hw.seg (by rw [hLl]; omega) (fun _ _ => rfl)⟩
                    refine lv_aload_n hx hb dX8_others_166 rfl (lv_at hl 0 rfl) ?_
                    refine lv_aload_n hx hb dX8_others_167 rfl (lv_at hl 0 rfl) ?_
                    refine w_gr 8 29 604 (T := TX8) (N := 42) hx hb hts inw8 hown hK.1 hM (by decide) (by decide) (by decide) (by decide) (by decide) rfl (by decide) k84 rfl dX8_others_168 ?_
                    refine lv_bipush (v := 32) hx hb dX8_others_171 (by decide) ?_
                    refine lv_iload_n hx hb dX8_others_173 rfl (lv_at hl 1 rfl) ?_
                    refine lv_imul hx hb dX8_others_174 ?_
                    have q : (32 * t : Int32) = nI (32 * (rj t)) := (nMul rfl et)
                    refine lv_eqi q ?_
                    refine lv_iload hx hb dX8_others_175 (lv_at hl 3 rfl) ?_
                    refine w_cVv (C := RX8) (As := [.ref (E.1 + 604), .int (nI (32 * (rj t))), .int x4_69]) (rest := []) ⟨hx, hb, hml, hown, hts⟩ (c_X8_goOn l a604 (by decide) (b := 32 * rj t) (by omega) (s0 := T.2.1) ((F114.seg s78 (by omega) (by omega)).keep (hw.2.2 604 (by decide))) hok.2.1.1 (l1 := 10 * rj t + T.2.2.length) (by omega) (L := ((σ.1 (rj x)), (xorL (σ.1 (rj k)) (hmac T.2.1 (σ.1 (rj x)))))) m9 hoL (cN78.fr (by rw [hw.2.2 581 (by decide), F114.1 581 (by omega) (by decide)]) (by rw [hw.2.2 582 (by decide), F114.1 582 (by omega) (by decide)]) (by rw [hw.2.2 592 (by decide), F114.1 592 (by omega) (by decide)])) ex4_69) (cwV 3 hts gX8_others_X8_goOn rfl rfl rfl (by decide +kernel) ⟨Nat.le_of_ble_eq_true rfl, Nat.le_of_ble_eq_true rfl⟩) (w_recv (ci := 8) hK hM (by decide) (by decide) (by decide) rfl) hM hK hS rfl hl.1 rfl (lv_room (Nat.le_of_ble_eq_true rfl)) dX8_others_177 ⟨Nat.le_of_ble_eq_true rfl, Nat.le_of_ble_eq_true rfl⟩ (fun V177 H locs hp177 hM hS => ?_)
                    obtain ⟨g1, g2, g3, g4⟩ := hp177
                    refine lv_aload_n hx hb dX8_others_180 rfl (lv_at hl 0 rfl) ?_
                    refine w_gr 8 24 599 (T := TX8) (N := 42) hx hb hts inw8 hown hK.1 hM (by decide) (by decide) (by decide) (by decide) (by decide) rfl (by decide) k69 rfl dX8_others_181 ?_
                    refine lv_iload_n hx hb dX8_others_184 rfl (lv_at hl 1 rfl) ?_
                    have i_185 : (t : Int32) = nI (rj t) := et
                    refine w_ild (N := 9) hx hb hK.1 hM (by decide) (by decide) (by decide) (by rw [i_185]; exact vp_in_nI (by omega) (by omega)) dX8_others_185 ?_
                    have j_185 : t.toNatClampNeg = rj t := (congrArg Int32.toNatClampNeg i_185).trans (nI_clamp (by omega))
                    have q : (V177 599 t.toNatClampNeg : Int32) = V177 599 (rj t) := by rw [j_185]
                    refine lv_eqi q ?_
                    have q : (V177 599 (rj t) : Int32) = nI (T.2.2.length + 1) := by rw [g3 599 (by omega) (by decide) (by decide), q9 599 (by omega) (by decide) (by decide), e78 599 (by decide)]; exact p2
                    refine lv_eqi q ?_
                    have hpost : (fun v V' => v = (opOthers σ t k x).1 ∧ repM V' (opOthers σ t k x).2 ∧ frC V V') (nI (T.2.2.length + 1)) V177 := by
                      have hq : opOthers σ t k x = (nI (T.2.2.length + 1), sTok σ (rj t) (some (T.1, hmac T.2.1 (hmac T.2.1 (xorL (σ.1 (rj k)) (hmac T.2.1 (σ.1 (rj x)))) ++ (hmac T.2.1 (σ.1 (rj x)))), T.2.2 ++ [((σ.1 (rj x)), (xorL (σ.1 (rj k)) (hmac T.2.1 (σ.1 (rj x)))))]))) := by have hlt : T.2.2.length < 10 := (by omega); simp [opOthers, hT, i2, i3, i4, hlt, hkl]
                      have hgo : goOnL T.2.1 ((σ.1 (rj x)), (xorL (σ.1 (rj k)) (hmac T.2.1 (σ.1 (rj x))))) = hmac T.2.1 (hmac T.2.1 (xorL (σ.1 (rj k)) (hmac T.2.1 (σ.1 (rj x)))) ++ (hmac T.2.1 (σ.1 (rj x)))) := by rw [goOnL, if_neg hLne]
                      have k177 : ∀ k, (k < 583 ∨ 591 < k) → k ≠ 580 → k ≠ 599 → k ≠ 600 → k ≠ 601 → k ≠ 602 → k ≠ 603 → k ≠ 604 → V177 k = V2 k := fun k a b c d f g x h => by rw [g3 k a b h, q9 k a b x, e78 k g, p6 k c d f]
                      have h9 := hC2.newLim (V' := V177) (L := ((σ.1 (rj x)), (xorL (σ.1 (rj k)) (hmac T.2.1 (σ.1 (rj x)))))) (s' := goOnL T.2.1 ((σ.1 (rj x)), (xorL (σ.1 (rj k)) (hmac T.2.1 (σ.1 (rj x)))))) ht hTt (by omega) hoL (goOnL_len _ _) (goOnL_ok _ _) (by rw [g3 599 (by omega) (by decide) (by decide), q9 599 (by omega) (by decide) (by decide), e78 599 (by decide)]; exact p2) (m9.fn ow.2 (by rw [hLl]; omega) (by rw [g3 600 (by omega) (by decide) (by decide)]) (fun i _ _ => by rw [g3 601 (by omega) (by decide) (by decide)]) (by rw [g3 602 (by omega) (by decide) (by decide)]) (fun i _ _ => by rw [g3 603 (by omega) (by decide) (by decide)])) g1 (fun i a => by rw [g3 599 (by omega) (by decide) (by decide), q9 599 (by omega) (by decide) (by decide), e78 599 (by decide)]; exact p5 i a) (fun i a => by rw [g3 600 (by omega) (by decide) (by decide), q9 600 (by omega) (by decide) (by decide), e78 600 (by decide)]; exact p3 i a) (fun i a => by rw [g3 601 (by omega) (by decide) (by decide), q9 601 (by omega) (by decide) (by decide), e78 601 (by decide)]; exact p4 i a) (fun i a => by rw [g3 602 (by omega) (by decide) (by decide), q9 602 (by omega) (by decide) (by decide), ← hV78, up2_o _ _ a, p6 602 (by decide) (by decide) (by decide)]) (fun i a => by rw [g3 603 (by omega) (by decide) (by decide), hw.2.1 i (by omega), F114.1 603 (by omega) (by decide), e78 603 (by decide), p6 603 (by decide) (by decide) (by decide)]) (fun i a => by rw [g2 i a, q9 604 (by omega) (by decide) (by decide), e78 604 (by decide), p6 604 (by decide) (by decide) (by decide)]) (fun k a => k177 k (by omega) (by omega) (by omega) (by omega) (by omega) (by omega) (by omega) (by omega)) (fun i a => by rw [g4 i (by omega) (by omega) (by omega), hw.2.2 580 (by decide), F114.2 i (by omega) (by omega) (by omega), e78 580 (by decide), p6 580 (by decide) (by decide) (by decide)])
                      rw [hgo] at h9
                      rw [hq]; exact ⟨rfl, h9, fC2.trans (fun k a => k177 k (by omega) (by omega) (by omega) (by omega) (by omega) (by omega) (by omega) (by omega))⟩
                    exact w_iret V177 hx hb hret hK hS hM (hpost) hlocks dX8_others_186
                  · have n_124 : ¬ 32 ≤ j := fun q9 => c_124 ((nLe (a := 32) (b := j) rfl rfl (by omega) (by omega)).mpr q9)
                    refine lv_aload_n hx hb dX8_others_127 rfl (lv_at hl 0 rfl) ?_
                    refine w_gr 8 28 603 (T := TX8) (N := 42) hx hb hts inw8 hown hK.1 hM (by decide) (by decide) (by decide) (by decide) (by decide) rfl (by decide) k81 rfl dX8_others_128 ?_
                    refine lv_bipush (v := 32) hx hb dX8_others_131 (by decide) ?_
                    refine lv_iload hx hb dX8_others_133 (lv_at hl 3 rfl) ?_
                    refine lv_imul hx hb dX8_others_135 ?_
                    have q : (32 * x4_69 : Int32) = nI (32 * (10 * rj t + T.2.2.length)) := (nMul rfl ex4_69)
                    refine lv_eqi q ?_
                    refine lv_iload hx hb dX8_others_136 (lv_at hl 4 rfl) ?_
                    refine lv_iadd hx hb dX8_others_138 ?_
                    have q : ((nI (32 * (10 * rj t + T.2.2.length))) + (nI j) : Int32) = nI ((32 * (10 * rj t + T.2.2.length)) + j) := (nAdd rfl rfl)
                    refine lv_eqi q ?_
                    refine lv_aload_n hx hb dX8_others_139 rfl (lv_at hl 0 rfl) ?_
                    refine w_gr 8 16 593 (T := TX8) (N := 42) hx hb hts inw8 hown hK.1 hM (by decide) (by decide) (by decide) (by decide) (by decide) rfl (by decide) k46 rfl dX8_others_140 ?_
                    refine lv_bipush (v := 100) hx hb dX8_others_143 (by decide) ?_
                    refine lv_iload_n hx hb dX8_others_145 rfl (lv_at hl 2 rfl) ?_
                    refine lv_imul hx hb dX8_others_146 ?_
                    have q : (100 * k : Int32) = nI (100 * (rj k)) := (nMul rfl enk)
                    refine lv_eqi q ?_
                    refine lv_iload hx hb dX8_others_147 (lv_at hl 4 rfl) ?_
                    refine lv_iadd hx hb dX8_others_149 ?_
                    have q : ((nI (100 * (rj k))) + (nI j) : Int32) = nI ((100 * (rj k)) + j) := (nAdd rfl rfl)
                    refine lv_eqi q ?_
                    have i_150 : (nI ((100 * (rj k)) + j) : Int32) = nI ((100 * (rj k)) + j) := rfl
                    refine w_ild (N := 800) hx hb hK.1 hM (by decide) (by decide) (by decide) (by rw [i_150]; exact vp_in_nI (by omega) (by omega)) dX8_others_150 ?_
                    have j_150 : (nI ((100 * (rj k)) + j)).toNatClampNeg = (100 * (rj k)) + j := (congrArg Int32.toNatClampNeg i_150).trans (nI_clamp (by omega))
                    have q : (Vw 593 (nI ((100 * (rj k)) + j)).toNatClampNeg : Int32) = Vw 593 ((100 * (rj k)) + j) := by rw [j_150]
                    refine lv_eqi q ?_
                    have q : (Vw 593 ((100 * (rj k)) + j) : Int32) = (σ.1 (rj k)).getD j 0 := by rw [hw.2.2 593 (by decide), F114.1 593 (by omega) (by decide), e78 593 (by decide), p6 593 (by decide) (by decide) (by decide)]; exact (cR _ h8k).2 j (by omega)
                    refine lv_eqi q ?_
                    refine lv_aload_n hx hb dX8_others_151 rfl (lv_at hl 0 rfl) ?_
                    refine w_gr 8 13 590 (T := TX8) (N := 42) hx hb hts inw8 hown hK.1 hM (by decide) (by decide) (by decide) (by decide) (by decide) rfl (by decide) k37 rfl dX8_others_152 ?_
                    refine lv_iload hx hb dX8_others_155 (lv_at hl 4 rfl) ?_
                    have i_157 : (nI j : Int32) = nI (j) := rfl
                    refine w_ild (N := 32) hx hb hK.1 hM (by decide) (by decide) (by decide) (by rw [i_157]; exact vp_in_nI (by omega) (by omega)) dX8_others_157 ?_
                    have j_157 : (nI j).toNatClampNeg = j := (congrArg Int32.toNatClampNeg i_157).trans (nI_clamp (by omega))
                    have q : (Vw 590 (nI j).toNatClampNeg : Int32) = Vw 590 j := by rw [j_157]
                    refine lv_eqi q ?_
                    have q : (Vw 590 j : Int32) = (hmac T.2.1 (σ.1 (rj x))).getD j 0 := by rw [hw.2.2 590 (by decide)]; exact hp114.1.z (by rw [hmac_len]; omega)
                    refine lv_eqi q ?_
                    refine lv_ixor hx hb dX8_others_158 ?_
                    have i_159 : (nI ((32 * (10 * rj t + T.2.2.length)) + j) : Int32) = nI ((32 * (10 * rj t + T.2.2.length)) + j) := rfl
                    have j_159 : (nI ((32 * (10 * rj t + T.2.2.length)) + j)).toNatClampNeg = (32 * (10 * rj t + T.2.2.length)) + j := (congrArg Int32.toNatClampNeg i_159).trans (nI_clamp (by omega))
                    refine w_ist (N := 2880) hx hb hK.1 hM hS (by decide) (by decide) (by decide) (by rw [i_159]; exact vp_in_nI (by omega) (by omega)) dX8_others_159 (fun H locs hM hS => ?_)
                    rw [j_159] at hM
                    generalize hV159 : up2 Vw 603 ((32 * (10 * rj t + T.2.2.length)) + j) (((σ.1 (rj k)).getD j 0) ^^^ ((hmac T.2.1 (σ.1 (rj x))).getD j 0)) = V159 at hM
                    obtain ⟨x5_160, ex5_160⟩ : ∃ y : Int32, y = (nI j) + 1 := ⟨_, rfl⟩
                    refine lv_iinc (v := x5_160) (lv' := [(5, .int x5_160), (0, .ref (E.1 + 580)), (1, .int t), (2, .int k), (4, .int x4_69)]) hx hb dX8_others_160 hl (k := 4) rfl (by rw [ex5_160]; rfl) (by decide) rfl (fun ls hl => ?_)
                    refine lv_goto (tgt := 120) hx hb dX8_others_163 (by decide) ?_
                    rw [show x5_160 = nI (j + 1) from (ex5_160.trans (nAdd rfl rfl))] at hl
                    exact ih120 V159 _ _ _ (j + 1) (by omega) (hw.s hV159 rfl (xorL_gd (by omega) (by rw [hmac_len]; omega)).symm) (by omega) hM hS (lv_sub hl [1, 2, 3, 4, 0] rfl)
              exact loop120 _ V114 _ _ _ 0 (Nat.zero_le _) (cpx.z _ _ _ _) (Nat.lt_succ_self _) hM hS (lv_sub hl [2, 3, 4, 1, 0] rfl)
            · have n_57 : ¬ ((σ.1 (rj k)).length) = 32 := fun q9 => c_57 ((nEq (a := ((σ.1 (rj k)).length)) (b := 32) rfl rfl (by omega) (by omega)).mpr q9)
              refine lv_bipush (v := (-3)) hx hb dX8_others_60 (by decide) ?_
              have hpost : (fun v V' => v = (opOthers σ t k x).1 ∧ repM V' (opOthers σ t k x).2 ∧ frC V V') (-3) V2 := by
                have hq : opOthers σ t k x = (-3, σ) := by first | (simp [opOthers, hT, i2, i3, i4]; done) | (simp [opOthers, hT, i2, i3, i4]; omega)
                rw [hq]; exact ⟨rfl, hC2, fC2⟩
              exact w_iret V2 hx hb hret hK hS hM (hpost) hlocks dX8_others_62
      · have i3 : in8 x = false := b2i_eq0 (by rw [← er21]; exact c_24)
        refine lv_bipush (v := (-2)) hx hb dX8_others_27 (by decide) ?_
        have hpost : (fun v V' => v = (opOthers σ t k x).1 ∧ repM V' (opOthers σ t k x).2 ∧ frC V V') (-2) V2 := by
          have hq : opOthers σ t k x = (-2, σ) := by first | (simp [opOthers, hT, i2, i3]; done) | (simp [opOthers, hT, i2]; done) | (simp [opOthers, hN]; done)
          rw [hq]; exact ⟨rfl, hC2, fC2⟩
        exact w_iret V2 hx hb hret hK hS hM (hpost) hlocks dX8_others_29
