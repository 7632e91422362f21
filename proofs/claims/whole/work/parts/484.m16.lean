-- needs: 44 430 450 451 452 453 454 455 456 457 460 462 463 464 466 470 471 472 475 476 480 481 482 483
set_option maxHeartbeats 4000000 in
set_option maxRecDepth 100000 in
theorem c_X8_prove (l : Launch) {E : En} {V : Vt} {σ : St} (hC : repM V σ) (t k h : Int32) : CI l yX8_prove wsX8_prove 8 E V [.ref (E.1 + 580), .int t, .int k, .int h] (fun v V' => v = (opProve σ t k h).1 ∧ repM V' (opProve σ t k h).2 ∧ frC V V') := by
  refine Met.ofW (cc := cX8_prove) (maxL := 5) (ret := (some .int)) (by decide) rfl ?_
  intro p e s m args below meth c s₁ B hml hv
  obtain ⟨rfl, hM, hK⟩ := hv
  have hx := B.exec
  have hb := B.bytes
  have hret := B.returns
  have hts := atoms_spec (ws := wsX8_prove) B.pre
  have hown : s.vm.findClass RX8 = some m.cls := findClass_of_methodNamed B.named
  have hlocks := B.notSynchronized
  have hsz : s.heap.size = E.1 + 610 := hM.1
  have hS : va_S (AE E) s.heap s.heap [] := va_S.rf
  have inw8 : ∀ w ∈ u_ws RX8 TX8 42, w ∈ wsX8_prove := by decide +kernel
  have k112 := hts (.fieldLink RX8 112 "LimitTokensModel" "thrown" "I") (by decide +kernel)
  have k198 := hts (.fieldLink RX8 198 "LimitTokensModel" "proved" "Z") (by decide +kernel)
  have k202 := hts (.fieldLink RX8 202 "LimitTokensModel" "begun" "I") (by decide +kernel)
  have k102 := hts (.fieldLink RX8 102 "LimitTokensModel" "faultToken" "I") (by decide +kernel)
  have k105 := hts (.fieldLink RX8 105 "LimitTokensModel" "faultLimit" "I") (by decide +kernel)
  have k195 := hts (.fieldLink RX8 195 "LimitTokensModel" "depth" "I") (by decide +kernel)
  have k46 := hts (.fieldLink RX8 46 "LimitTokensModel" "register" "[I") (by decide +kernel)
  have k49 := hts (.fieldLink RX8 49 "LimitTokensModel" "registerSize" "[I") (by decide +kernel)
  have k99 := hts (.fieldLink RX8 99 "LimitTokensModel" "walked" "[Z") (by decide +kernel)
  have k59 := hts (.fieldLink RX8 59 "LimitTokensModel" "there" "[Z") (by decide +kernel)
  have hl := lv_entry ([.ref (E.1 + 580), .int t, .int k, .int h]) (n := 5) (Nat.le_of_ble_eq_true rfl)
  rw [lg_entry_eq]
  generalize (lg_sl ([.ref (E.1 + 580), .int t, .int k, .int h]) ++ List.replicate (5 - (lg_sl ([.ref (E.1 + 580), .int t, .int k, .int h])).length) Slot.unset).toArray = ls at hl ⊢
  have hl : lv_has ls 5 [(0, .ref (E.1 + 580)), (1, .int t), (2, .int k), (3, .int h)] := hl
  refine lv_aload_n hx hb dX8_prove_0 rfl (lv_at hl 0 rfl) ?_
  refine lv_iconst (v := 0) hx hb dX8_prove_1 (by decide) ?_
  refine w_pi 8 0 (T := TX8) (N := 42) hx hb hts inw8 tyX8 tyX8_ok nmX8 hown hK.1 hM hS (by decide) (by decide) (by decide) (by decide) (by decide) rfl (by decide) k112 rfl rfl rfl rfl dX8_prove_2 (fun H locs hM hS => ?_)
  generalize hV2 : up2 V 580 0 0 = V2 at hM
  have hC2 := hC.fr (pFr.th hV2).1
  have fC2 := (pFr.th hV2).2
  obtain ⟨⟨oR, oT, oP⟩, cN, cR, cT, cP, cQ, cF, cL⟩ := id hC2
  refine lv_aload_n hx hb dX8_prove_5 rfl (lv_at hl 0 rfl) ?_
  refine lv_iload_n hx hb dX8_prove_6 rfl (lv_at hl 1 rfl) ?_
  refine w_cVi (C := RX8) (As := [.int t]) (rest := []) ⟨hx, hb, hml, hown, hts⟩ (c_X8_isToken l cT t) (cwV 1 hts gX8_prove_X8_isToken rfl rfl rfl (by decide +kernel) ⟨Nat.le_of_ble_eq_true rfl, Nat.le_of_ble_eq_true rfl⟩) (w_recv (ci := 8) hK hM (by decide) (by decide) (by decide) rfl) hM hK hS rfl hl.1 rfl (lv_room (Nat.le_of_ble_eq_true rfl)) dX8_prove_7 ⟨Nat.le_of_ble_eq_true rfl, Nat.le_of_ble_eq_true rfl⟩ (fun r7 V7 H locs hp7 hM hS => ?_)
  obtain ⟨er7, eV⟩ := hp7
  rw [eV] at hM; clear eV
  refine lv_if_eq (tgt := 31) hx hb dX8_prove_10 (by decide) (fun c_10 => ?_) (fun c_10 => ?_)
  · have hN : thr σ t = none := by have q9 := b2i_eq0 (er7.symm.trans c_10); cases q8 : thr σ t with | none => rfl | some x => rw [q8] at q9; cases q9
    refine lv_bipush (v := (-2)) hx hb dX8_prove_31 (by decide) ?_
    have hpost : (fun v V' => v = (opProve σ t k h).1 ∧ repM V' (opProve σ t k h).2 ∧ frC V V') (-2) V2 := by
      have hq : opProve σ t k h = (-2, σ) := by first | (simp [opProve, hT, i2, areT, i3]; done) | (simp [opProve, hT, i2]; done) | (simp [opProve, hN]; done)
      rw [hq]; exact ⟨rfl, hC2, fC2⟩
    exact w_iret V2 hx hb hret hK hS hM (hpost) hlocks dX8_prove_33
  · obtain ⟨T, hT⟩ : ∃ T, thr σ t = some T := Option.isSome_iff_exists.mp (b2i_ne0 (by rw [← er7]; exact c_10))
    obtain ⟨i1, ht, et, hTt⟩ := thr_some hT
    obtain ⟨hth, htk⟩ := (cT (rj t) ht).s hTt
    have hok := oT (rj t) ht T hTt
    refine lv_iload_n hx hb dX8_prove_13 rfl (lv_at hl 2 rfl) ?_
    refine w_cSi (As := [.int k]) (rest := []) ⟨hx, hb, hml, hown, hts⟩ (c_X8_is l k) (va_cwS 1 hts gX8_prove_X8_is rfl rfl rfl (by decide +kernel) ⟨Nat.le_of_ble_eq_true rfl, Nat.le_of_ble_eq_true rfl⟩) hM hK hS rfl hl.1 rfl (lv_room (Nat.le_of_ble_eq_true rfl)) dX8_prove_14 ⟨Nat.le_of_ble_eq_true rfl, Nat.le_of_ble_eq_true rfl⟩ (fun r14 V14 H locs hp14 hM hS => ?_)
    obtain ⟨er14, eV⟩ := hp14
    rw [eV] at hM; clear eV
    refine lv_if_eq (tgt := 31) hx hb dX8_prove_17 (by decide) (fun c_17 => ?_) (fun c_17 => ?_)
    · have i2 : in8 k = false := b2i_eq0 (by rw [← er14]; exact c_17)
      refine lv_bipush (v := (-2)) hx hb dX8_prove_31 (by decide) ?_
      have hpost : (fun v V' => v = (opProve σ t k h).1 ∧ repM V' (opProve σ t k h).2 ∧ frC V V') (-2) V2 := by
        have hq : opProve σ t k h = (-2, σ) := by first | (simp [opProve, hT, i2, areT, i3]; done) | (simp [opProve, hT, i2]; done) | (simp [opProve, hN]; done)
        rw [hq]; exact ⟨rfl, hC2, fC2⟩
      exact w_iret V2 hx hb hret hK hS hM (hpost) hlocks dX8_prove_33
    · have i2 : in8 k = true := b2i_ne0 (by rw [← er14]; exact c_17)
      obtain ⟨h8k, enk⟩ := in8_r i2
      refine lv_iload_n hx hb dX8_prove_20 rfl (lv_at hl 3 rfl) ?_
      refine lv_iconst (v := 0) hx hb dX8_prove_21 (by decide) ?_
      refine lv_sipush (v := 255) hx hb dX8_prove_22 (by decide) ?_
      refine w_cSi (As := [.int h, .int 0, .int 255]) (rest := []) ⟨hx, hb, hml, hown, hts⟩ (c_X8_within l h 0 255) (va_cwS 3 hts gX8_prove_X8_within rfl rfl rfl (by decide +kernel) ⟨Nat.le_of_ble_eq_true rfl, Nat.le_of_ble_eq_true rfl⟩) hM hK hS rfl hl.1 rfl (lv_room (Nat.le_of_ble_eq_true rfl)) dX8_prove_25 ⟨Nat.le_of_ble_eq_true rfl, Nat.le_of_ble_eq_true rfl⟩ (fun r25 V25 H locs hp25 hM hS => ?_)
      obtain ⟨er25, eV⟩ := hp25
      rw [eV] at hM; clear eV
      refine lv_if_ne (tgt := 34) hx hb dX8_prove_28 (by decide) (fun c_28 => ?_) (fun c_28 => ?_)
      · have i3 : inR h 0 255 = true := b2i_ne0 (by rw [← er25]; exact c_28)
        obtain ⟨loh, hih, enh⟩ := inR_j i3 (m := 0) (n := 255) rfl rfl (by omega) (by omega)
        refine lv_iconst (v := 0) hx hb dX8_prove_34 (by decide) ?_
        refine lv_istore (lv' := [(4, .int 0), (0, .ref (E.1 + 580)), (1, .int t), (2, .int k), (3, .int h)]) hx hb dX8_prove_35 hl (by decide) rfl (fun ls hl => ?_)
        have loop37 : ∀ (fu : Nat) (Vw : Vt) (H : Heap) (locs : List Loc) (ls : Array Slot) (j : Nat) (hj : j ≤ 8) (hal : ∀ i, i < j → (rj h).testBit i = true → (σ.2.1 i).isSome = true) (hcp : cpx Vw V2 609 0 j (fun z => b2i (decide (z = rj t) || !(rj h).testBit z))), 8 - j < fu → Wd E Vw H → va_S (AE E) s.heap H locs → lv_has ls 5 [(0, .ref (E.1 + 580)), (1, .int t), (2, .int k), (3, .int h), (4, .int (nI j))] → W p l e (headSpec wsX8_prove (rmD 8)).room s m ([.ref (E.1 + 580), .int t, .int k, .int h] : List Value).toArray below meth c H locs 0 0 (MQ below (QI E (fun V' => Wd E V') (fun v V' => v = (opProve σ t k h).1 ∧ repM V' (opProve σ t k h).2 ∧ frC V V')) ([.ref (E.1 + 580), .int t, .int k, .int h] : List Value).toArray s 0 0 (AE E)) (F0 m 37 ls []) := by
          intro fu
          induction fu with
          | zero => intros; omega
          | succ fu ih37 =>
            intro Vw H locs ls j hj hal hcp hfu hM hS hl
            refine lv_iload hx hb dX8_prove_37 (lv_at hl 4 rfl) ?_
            refine lv_bipush (v := 8) hx hb dX8_prove_39 (by decide) ?_
            refine lv_icmp_ge (tgt := 100) hx hb dX8_prove_41 (by decide) (fun c_41 => ?_) (fun c_41 => ?_)
            · have n_41 : 8 ≤ j := (nLe (a := 8) (b := j) rfl rfl (by omega) (by omega)).mp c_41
              have hj8 : j = 8 := by omega
              subst hj8
              have hA : areT σ h = true := areT_of i3 hal
              have hq : opProve σ t k h = (fin σ (rj t) T (wk σ.2.2.2.1 (tkf σ) T.2.1 8 (rj t) (σ.1 (rj k)) (clr (rj h) (rj t), 0))) := by simp only [opProve, hT, i2, hA, Bool.and_self, if_true]; rfl
              refine lv_aload_n hx hb dX8_prove_100 rfl (lv_at hl 0 rfl) ?_
              refine lv_iconst (v := 1) hx hb dX8_prove_101 (by decide) ?_
              refine w_pi 8 36 (T := TX8) (N := 42) hx hb hts inw8 tyX8 tyX8_ok nmX8 hown hK.1 hM hS (by decide) (by decide) (by decide) (by decide) (by decide) rfl (by decide) k198 rfl rfl rfl rfl dX8_prove_102 (fun H locs hM hS => ?_)
              generalize hV102 : up2 Vw 580 36 1 = V102 at hM
              refine lv_aload_n hx hb dX8_prove_105 rfl (lv_at hl 0 rfl) ?_
              refine lv_iconst (v := 0) hx hb dX8_prove_106 (by decide) ?_
              refine w_pi 8 39 (T := TX8) (N := 42) hx hb hts inw8 tyX8 tyX8_ok nmX8 hown hK.1 hM hS (by decide) (by decide) (by decide) (by decide) (by decide) rfl (by decide) k202 rfl rfl rfl rfl dX8_prove_107 (fun H locs hM hS => ?_)
              generalize hV107 : up2 V102 580 39 0 = V107 at hM
              refine lv_aload_n hx hb dX8_prove_110 rfl (lv_at hl 0 rfl) ?_
              refine lv_iconst (v := (-1)) hx hb dX8_prove_111 (by decide) ?_
              refine w_pi 8 37 (T := TX8) (N := 42) hx hb hts inw8 tyX8 tyX8_ok nmX8 hown hK.1 hM hS (by decide) (by decide) (by decide) (by decide) (by decide) rfl (by decide) k102 rfl rfl rfl rfl dX8_prove_112 (fun H locs hM hS => ?_)
              generalize hV112 : up2 V107 580 37 (-1) = V112 at hM
              refine lv_aload_n hx hb dX8_prove_115 rfl (lv_at hl 0 rfl) ?_
              refine lv_iconst (v := (-1)) hx hb dX8_prove_116 (by decide) ?_
              refine w_pi 8 38 (T := TX8) (N := 42) hx hb hts inw8 tyX8 tyX8_ok nmX8 hown hK.1 hM hS (by decide) (by decide) (by decide) (by decide) (by decide) rfl (by decide) k105 rfl rfl rfl rfl dX8_prove_117 (fun H locs hM hS => ?_)
              generalize hV117 : up2 V112 580 38 (-1) = V117 at hM
              refine lv_aload_n hx hb dX8_prove_120 rfl (lv_at hl 0 rfl) ?_
              refine lv_iconst (v := 0) hx hb dX8_prove_121 (by decide) ?_
              refine w_pi 8 31 (T := TX8) (N := 42) hx hb hts inw8 tyX8 tyX8_ok nmX8 hown hK.1 hM hS (by decide) (by decide) (by decide) (by decide) (by decide) rfl (by decide) k195 rfl rfl rfl rfl dX8_prove_122 (fun H locs hM hS => ?_)
              generalize hV122 : up2 V117 580 31 0 = V122 at hM
              have g122 : ∀ q, q ≠ 580 → V122 q = Vw q := fun q a => by rw [← hV122, up2_k _ _ a, ← hV117, up2_k _ _ a, ← hV112, up2_k _ _ a, ← hV107, up2_k _ _ a, ← hV102, up2_k _ _ a]
              have e122 : ∀ q, q ≠ 580 → q ≠ 609 → V122 q = V2 q := fun q a b => by rw [g122 q a]; exact hcp.2.2 q b
              have f122 : ∀ z, z ≠ 31 → z ≠ 100 → V122 580 z = V117 580 z := fun z a _ => by rw [← hV122, up2_o _ _ a]
              have hC122 : repM V122 (sFlt σ (-1, -1, nI 0)) := repM.flt (V := V2) (σ := σ) (g := σ.2.2.2.2.1) hC2 (fun q a => e122 q (by omega) (by omega)) (fun z a => by rw [f122 z (by omega) (by omega), ← hV117, up2_o _ _ (by omega), ← hV112, up2_o _ _ (by omega), ← hV107, up2_o _ _ (by omega), ← hV102, up2_o _ _ (by omega), hcp.2.2 580 (by decide)]) (by rw [f122 36 (by decide) (by decide), ← hV117, up2_o _ _ (by decide), ← hV112, up2_o _ _ (by decide), ← hV107, up2_o _ _ (by decide), ← hV102, up2_s]) (by rw [f122 37 (by decide) (by decide), ← hV117, up2_o _ _ (by decide), ← hV112, up2_s]) (by rw [f122 38 (by decide) (by decide), ← hV117, up2_s]) (by rw [f122 39 (by decide) (by decide), ← hV117, up2_o _ _ (by decide), ← hV112, up2_o _ _ (by decide), ← hV107, up2_s]; rfl)
              refine lv_aload_n hx hb dX8_prove_125 rfl (lv_at hl 0 rfl) ?_
              refine lv_aload_n hx hb dX8_prove_126 rfl (lv_at hl 0 rfl) ?_
              refine w_gr 8 16 593 (T := TX8) (N := 42) hx hb hts inw8 hown hK.1 hM (by decide) (by decide) (by decide) (by decide) (by decide) rfl (by decide) k46 rfl dX8_prove_127 ?_
              refine lv_bipush (v := 100) hx hb dX8_prove_130 (by decide) ?_
              refine lv_iload_n hx hb dX8_prove_132 rfl (lv_at hl 2 rfl) ?_
              refine lv_imul hx hb dX8_prove_133 ?_
              have q : (100 * k : Int32) = nI (100 * (rj k)) := (nMul rfl enk)
              refine lv_eqi q ?_
              refine lv_aload_n hx hb dX8_prove_134 rfl (lv_at hl 0 rfl) ?_
              refine w_gr 8 17 594 (T := TX8) (N := 42) hx hb hts inw8 hown hK.1 hM (by decide) (by decide) (by decide) (by decide) (by decide) rfl (by decide) k49 rfl dX8_prove_135 ?_
              refine lv_iload_n hx hb dX8_prove_138 rfl (lv_at hl 2 rfl) ?_
              have i_139 : (k : Int32) = nI (rj k) := enk
              refine w_ild (N := 8) hx hb hK.1 hM (by decide) (by decide) (by decide) (by rw [i_139]; exact vp_in_nI (by omega) (by omega)) dX8_prove_139 ?_
              have j_139 : k.toNatClampNeg = rj k := (congrArg Int32.toNatClampNeg i_139).trans (nI_clamp (by omega))
              have q : (V122 594 k.toNatClampNeg : Int32) = V122 594 (rj k) := by rw [j_139]
              refine lv_eqi q ?_
              have q : (V122 594 (rj k) : Int32) = nI (σ.1 (rj k)).length := by rw [e122 594 (by decide) (by decide)]; exact (cR _ h8k).1
              refine lv_eqi q ?_
              refine w_cVv (C := RX8) (As := [.ref (E.1 + 593), .int (nI (100 * (rj k))), .int (nI (σ.1 (rj k)).length)]) (rest := []) ⟨hx, hb, hml, hown, hts⟩ (m_keyIs l a593 (by decide) (b := 100 * rj k) (n := (σ.1 (rj k)).length) (l0 := σ.1 (rj k)) ((cR _ h8k).2.keep (e122 593 (by decide) (by decide))) (by have := (oR _ h8k).1; omega) (oR _ h8k).1 rfl) (cwV 3 hts gX8_prove_X8_keyIs rfl rfl rfl (by decide +kernel) ⟨Nat.le_of_ble_eq_true rfl, Nat.le_of_ble_eq_true rfl⟩) (w_recv (ci := 8) hK hM (by decide) (by decide) (by decide) rfl) hM hK hS rfl hl.1 rfl (lv_room (Nat.le_of_ble_eq_true rfl)) dX8_prove_140 ⟨Nat.le_of_ble_eq_true rfl, Nat.le_of_ble_eq_true rfl⟩ (fun V140 H locs hp140 hM hS => ?_)
              obtain ⟨k1, k2, k3, k4⟩ := hp140
              refine lv_aload_n hx hb dX8_prove_143 rfl (lv_at hl 0 rfl) ?_
              refine lv_iload_n hx hb dX8_prove_144 rfl (lv_at hl 1 rfl) ?_
              refine w_cVv (C := RX8) (As := [.int t]) (rest := []) ⟨hx, hb, hml, hown, hts⟩ (c_X8_beginWalk l (h := rj t) (dp := 0) (by omega) et (kl := σ.1 (rj k)) (nm := T.1) k1 k2 (oR _ h8k).1 (by rw [k3 597 (by decide) (by decide), e122 597 (by decide) (by decide)]; exact htk.1) (htk.2.1.keep (by rw [k3 598 (by decide) (by decide), e122 598 (by decide) (by decide)])) hok.1.2.1 (by rw [k4 31 (by decide) (by decide), ← hV122, up2_s]; rfl) (by omega) (cN.fr (by rw [k3 581 (by decide) (by decide), e122 581 (by decide) (by decide)]) (by rw [k3 582 (by decide) (by decide), e122 582 (by decide) (by decide)]) (by rw [k3 592 (by decide) (by decide), e122 592 (by decide) (by decide)]))) (cwV 1 hts gX8_prove_X8_beginWalk rfl rfl rfl (by decide +kernel) ⟨Nat.le_of_ble_eq_true rfl, Nat.le_of_ble_eq_true rfl⟩) (w_recv (ci := 8) hK hM (by decide) (by decide) (by decide) rfl) hM hK hS rfl hl.1 rfl (lv_room (Nat.le_of_ble_eq_true rfl)) dX8_prove_145 ⟨Nat.le_of_ble_eq_true rfl, Nat.le_of_ble_eq_true rfl⟩ (fun V145 H locs hp145 hM hS => ?_)
              obtain ⟨w1, w2, w3, w4, w5, w6, w7, w8, w9⟩ := hp145
              have hE : tkf σ (rj t) = T := tkf_s hTt
              have eX : totS σ T [(rj t, 0, hmac (σ.1 (rj k)) T.1)] (clr (rj h) (rj t)) 0 = (wk σ.2.2.2.1 (tkf σ) T.2.1 8 (rj t) (σ.1 (rj k)) (clr (rj h) (rj t), 0)) := by rw [tot_start, hE]
              have hW0 : wM V145 σ [(rj t, 0, hmac (σ.1 (rj k)) T.1)] (clr (rj h) (rj t)) 0 := by
                refine wM.push (V := V122) (bg := 0) (m := 0) (st := []) hC122 (by rw [f122 36 (by decide) (by decide), ← hV117, up2_o _ _ (by decide), ← hV112, up2_o _ _ (by decide), ← hV107, up2_o _ _ (by decide), ← hV102, up2_s]) trivial ht hTt ⟨(clr_lt _ (by omega) _ ht).1, by have := (cnt_le (rj h) (by omega) (rj t) ht).2; simp only [List.length_nil]; omega⟩ (fun z hz => ?_) (fun z hz hb => ?_) w4 w1 (hmac_len _ _) w2 w3 (fun q a => by rw [w5 q a, k3 606 (by decide) (by decide)]) (fun q a => by rw [w6 q a, k3 607 (by decide) (by decide)]) (fun x hx => absurd hx (by simp)) (fun q a => by rw [w8 q (by omega) (by omega) (by omega) (by omega) (by omega), k3 q (by omega) (by omega)]) (fun z a => by rw [w9 z (by omega) (by omega) (by omega) (by omega), k4 z (by omega) (by omega)]) (by rw [w9 39 (by decide) (by decide) (by decide) (by decide), k4 39 (by decide) (by decide), f122 39 (by decide) (by decide), ← hV117, up2_o _ _ (by decide), ← hV112, up2_o _ _ (by decide), ← hV107, up2_s]; rfl)
                · rw [w8 609 (by omega) (by decide) (by decide) (by decide) (by decide), k3 609 (by decide) (by decide), g122 609 (by decide), clr_bit (rj h) (by omega) (rj t) ht z hz]; have := hcp.1 z (by omega); rw [Nat.zero_add] at this; rw [this]; show b2i (decide (z = rj t) || !(rj h).testBit z) = b2i (!((rj h).testBit z && decide (z ≠ rj t))); by_cases hq : z = rj t <;> simp [hq]
                · rw [clr_bit (rj h) (by omega) (rj t) ht z hz, Bool.and_eq_true] at hb; exact Option.isSome_iff_exists.mp (hal z hz hb.1)
              refine lv_iconst (v := 0) hx hb dX8_prove_148 (by decide) ?_
              refine lv_istore (lv' := [(4, .int 0), (0, .ref (E.1 + 580)), (1, .int t), (2, .int k), (3, .int h)]) hx hb dX8_prove_149 hl (by decide) rfl (fun ls hl => ?_)
              have loop151 : ∀ (fu : Nat) (Vx : Vt) (H : Heap) (locs : List Loc) (ls : Array Slot) (sw : List WF) (mw : Nat) (bw : Nat) (fo : Int32) (hI : (fo = (fin σ (rj t) T (wk σ.2.2.2.1 (tkf σ) T.2.1 8 (rj t) (σ.1 (rj k)) (clr (rj h) (rj t), 0))).1 ∧ repM Vx (fin σ (rj t) T (wk σ.2.2.2.1 (tkf σ) T.2.1 8 (rj t) (σ.1 (rj k)) (clr (rj h) (rj t), 0))).2 ∧ frC V2 Vx ∧ (fo = 0 → Vx 580 31 = 0)) ∨ (fo = 0 ∧ wM Vx σ sw mw bw ∧ 0 < sw.length ∧ totS σ T sw mw bw = (wk σ.2.2.2.1 (tkf σ) T.2.1 8 (rj t) (σ.1 (rj k)) (clr (rj h) (rj t), 0)) ∧ frC V2 Vx)), 12 * cnt mw + muS σ sw < fu → Wd E Vx H → va_S (AE E) s.heap H locs → lv_has ls 5 [(0, .ref (E.1 + 580)), (1, .int t), (4, .int fo)] → W p l e (headSpec wsX8_prove (rmD 8)).room s m ([.ref (E.1 + 580), .int t, .int k, .int h] : List Value).toArray below meth c H locs 0 0 (MQ below (QI E (fun V' => Wd E V') (fun v V' => v = (opProve σ t k h).1 ∧ repM V' (opProve σ t k h).2 ∧ frC V V')) ([.ref (E.1 + 580), .int t, .int k, .int h] : List Value).toArray s 0 0 (AE E)) (F0 m 151 ls []) := by
                intro fu
                induction fu with
                | zero => intros; omega
                | succ fu ih151 =>
                  intro Vx H locs ls sw mw bw fo hI hfu hM hS hl
                  refine lv_aload_n hx hb dX8_prove_151 rfl (lv_at hl 0 rfl) ?_
                  refine w_gi 8 31 (T := TX8) (N := 42) hx hb hts inw8 hown hK.1 hM (by decide) (by decide) (by decide) (by decide) (by decide) rfl (by decide) k195 rfl dX8_prove_152 ?_
                  refine lv_if_le (tgt := 173) hx hb dX8_prove_155 (by decide) (fun c_155 => ?_) (fun c_155 => ?_)
                  · have hdn : (fo = (fin σ (rj t) T (wk σ.2.2.2.1 (tkf σ) T.2.1 8 (rj t) (σ.1 (rj k)) (clr (rj h) (rj t), 0))).1 ∧ repM Vx (fin σ (rj t) T (wk σ.2.2.2.1 (tkf σ) T.2.1 8 (rj t) (σ.1 (rj k)) (clr (rj h) (rj t), 0))).2 ∧ frC V2 Vx ∧ (fo = 0 → Vx 580 31 = 0)) := by rcases hI with q | q; (exact q); (exfalso; have h9 := q.2.1.2.2.1; rw [h9] at c_155; have := (nLe (a := sw.length) (b := 0) rfl rfl (by have := q.2.1.2.2.2.2.1.2; omega) (by omega)).mp c_155; have := q.2.2.1; omega)
                    refine lv_iload hx hb dX8_prove_173 (lv_at hl 2 rfl) ?_
                    have hpost : (fun v V' => v = (opProve σ t k h).1 ∧ repM V' (opProve σ t k h).2 ∧ frC V V') fo Vx := by
                      rw [hq]; exact ⟨hdn.1, hdn.2.1, fC2.trans hdn.2.2.1⟩
                    exact w_iret Vx hx hb hret hK hS hM (hpost) hlocks dX8_prove_175
                  · refine lv_iload hx hb dX8_prove_158 (lv_at hl 2 rfl) ?_
                    refine lv_if_ne (tgt := 173) hx hb dX8_prove_160 (by decide) (fun c_160 => ?_) (fun c_160 => ?_)
                    · have hdn : (fo = (fin σ (rj t) T (wk σ.2.2.2.1 (tkf σ) T.2.1 8 (rj t) (σ.1 (rj k)) (clr (rj h) (rj t), 0))).1 ∧ repM Vx (fin σ (rj t) T (wk σ.2.2.2.1 (tkf σ) T.2.1 8 (rj t) (σ.1 (rj k)) (clr (rj h) (rj t), 0))).2 ∧ frC V2 Vx ∧ (fo = 0 → Vx 580 31 = 0)) := by rcases hI with q | q; (exact q); (exact absurd q.1 c_160)
                      refine lv_iload hx hb dX8_prove_173 (lv_at hl 2 rfl) ?_
                      have hpost : (fun v V' => v = (opProve σ t k h).1 ∧ repM V' (opProve σ t k h).2 ∧ frC V V') fo Vx := by
                        rw [hq]; exact ⟨hdn.1, hdn.2.1, fC2.trans hdn.2.2.1⟩
                      exact w_iret Vx hx hb hret hK hS hM (hpost) hlocks dX8_prove_175
                    · have hgo : (fo = 0 ∧ wM Vx σ sw mw bw ∧ 0 < sw.length ∧ totS σ T sw mw bw = (wk σ.2.2.2.1 (tkf σ) T.2.1 8 (rj t) (σ.1 (rj k)) (clr (rj h) (rj t), 0)) ∧ frC V2 Vx) := by rcases hI with q | q; (exfalso; rw [q.2.2.2 c_160] at c_155; exact c_155 (by decide)); (exact q)
                      obtain ⟨⟨o1, i1w, s1⟩, sr, hse⟩ := cons_of (show ¬ sw.length = 0 by have := hgo.2.2.1; omega)
                      refine lv_aload_n hx hb dX8_prove_163 rfl (lv_at hl 0 rfl) ?_
                      refine lv_iload_n hx hb dX8_prove_164 rfl (lv_at hl 1 rfl) ?_
                      refine w_cVi (C := RX8) (As := [.int t]) (rest := []) ⟨hx, hb, hml, hown, hts⟩ (c_X8_walkOn l ht hTt (hse ▸ hgo.2.1) et) (cwV 1 hts gX8_prove_X8_walkOn rfl rfl rfl (by decide +kernel) ⟨Nat.le_of_ble_eq_true rfl, Nat.le_of_ble_eq_true rfl⟩) (w_recv (ci := 8) hK hM (by decide) (by decide) (by decide) rfl) hM hK hS rfl hl.1 rfl (lv_room (Nat.le_of_ble_eq_true rfl)) dX8_prove_165 ⟨Nat.le_of_ble_eq_true rfl, Nat.le_of_ble_eq_true rfl⟩ (fun r165 V165 H locs hp165 hM hS => ?_)
                      refine lv_istore (lv' := [(4, .int r165), (0, .ref (E.1 + 580)), (1, .int t)]) hx hb dX8_prove_168 hl (by decide) rfl (fun ls hl => ?_)
                      refine lv_goto (tgt := 151) hx hb dX8_prove_170 (by decide) ?_
                      have hag : ∃ st2 m2 b2, ((r165 = (fin σ (rj t) T (wk σ.2.2.2.1 (tkf σ) T.2.1 8 (rj t) (σ.1 (rj k)) (clr (rj h) (rj t), 0))).1 ∧ repM V165 (fin σ (rj t) T (wk σ.2.2.2.1 (tkf σ) T.2.1 8 (rj t) (σ.1 (rj k)) (clr (rj h) (rj t), 0))).2 ∧ frC V2 V165 ∧ (r165 = 0 → V165 580 31 = 0)) ∨ (r165 = 0 ∧ wM V165 σ st2 m2 b2 ∧ 0 < st2.length ∧ totS σ T st2 m2 b2 = (wk σ.2.2.2.1 (tkf σ) T.2.1 8 (rj t) (σ.1 (rj k)) (clr (rj h) (rj t), 0)) ∧ frC V2 V165)) ∧ 12 * cnt m2 + muS σ st2 < 12 * cnt mw + muS σ sw := by
                        have hgt : totS σ T ((o1, i1w, s1) :: sr) mw bw = (wk σ.2.2.2.1 (tkf σ) T.2.1 8 (rj t) (σ.1 (rj k)) (clr (rj h) (rj t), 0)) := by rw [← hse]; exact hgo.2.2.2.1
                        rcases hp165 with ⟨a1, a2, a3, a4⟩ | ⟨a0, st2, m2, b2, a1, a2, a3, a4, a5⟩
                        · rw [hgt] at a1 a2
                          exact ⟨[], 0, 0, Or.inl ⟨a1, a2, hgo.2.2.2.2.trans a3, a4⟩, by rw [hse]; simp only [muS]; have : cnt 0 = 0 := rfl; omega⟩
                        · exact ⟨st2, m2, b2, Or.inr ⟨a0, a1, a2, a3.trans hgt, hgo.2.2.2.2.trans a5⟩, by rw [hse]; exact a4⟩
                      obtain ⟨st2, m2, b2, hI2, hlt2⟩ := hag
                      exact ih151 V165 _ _ _ st2 m2 b2 _ hI2 (by omega) hM hS (lv_sub hl [1, 2, 0] rfl)
              exact loop151 _ V145 _ _ _ _ _ _ _ (Or.inr ⟨rfl, hW0, Nat.succ_pos _, eX, fun q a => by rw [w8 q (by omega) (by omega) (by omega) (by omega) (by omega), k3 q (by omega) (by omega), e122 q (by omega) (by omega)]⟩) (Nat.lt_succ_self _) hM hS (lv_sub hl [1, 2, 0] rfl)
            · have n_41 : ¬ 8 ≤ j := fun q9 => c_41 ((nLe (a := 8) (b := j) rfl rfl (by omega) (by omega)).mpr q9)
              refine lv_iload_n hx hb dX8_prove_44 rfl (lv_at hl 3 rfl) ?_
              refine lv_iload hx hb dX8_prove_45 (lv_at hl 4 rfl) ?_
              refine lv_ishr hx hb dX8_prove_47 ?_
              refine lv_iconst (v := 1) hx hb dX8_prove_48 (by decide) ?_
              refine lv_iand hx hb dX8_prove_49 ?_
              refine lv_iconst (v := 1) hx hb dX8_prove_50 (by decide) ?_
              refine lv_icmp_ne (tgt := 67) hx hb dX8_prove_51 (by decide) (fun c_51 => ?_) (fun c_51 => ?_)
              · have b51 : (rj h).testBit j = false := by have q := bit_m enh (by omega) (show j < 8 by omega); cases hb : (rj h).testBit j with | false => rfl | true => rw [hb] at q; exact absurd q c_51
                refine lv_aload_n hx hb dX8_prove_67 rfl (lv_at hl 0 rfl) ?_
                refine w_gr 8 35 609 (T := TX8) (N := 42) hx hb hts inw8 hown hK.1 hM (by decide) (by decide) (by decide) (by decide) (by decide) rfl (by decide) k99 rfl dX8_prove_68 ?_
                refine lv_iload hx hb dX8_prove_71 (lv_at hl 4 rfl) ?_
                refine lv_iload hx hb dX8_prove_73 (lv_at hl 4 rfl) ?_
                refine lv_iload_n hx hb dX8_prove_75 rfl (lv_at hl 1 rfl) ?_
                refine lv_icmp_eq (tgt := 88) hx hb dX8_prove_76 (by decide) (fun c_76 => ?_) (fun c_76 => ?_)
                · have n_76 : j = (rj t) := (nEq (a := j) (b := (rj t)) rfl et (by omega) (by omega)).mp c_76
                  refine lv_iconst (v := 1) hx hb dX8_prove_88 (by decide) ?_
                  refine lv_goto (tgt := 93) hx hb dX8_prove_89 (by decide) ?_
                  have i_93 : (nI j : Int32) = nI (j) := rfl
                  have j_93 : (nI j).toNatClampNeg = j := (congrArg Int32.toNatClampNeg i_93).trans (nI_clamp (by omega))
                  refine w_zst (N := 8) hx hb hK.1 hM hS (by decide) (by decide) (by decide) (by rw [i_93]; exact vp_in_nI (by omega) (by omega)) (by decide) dX8_prove_93 (fun H locs hM hS => ?_)
                  rw [j_93] at hM
                  generalize hV93 : up2 Vw 609 j 1 = V93 at hM
                  obtain ⟨x4_94, ex4_94⟩ : ∃ y : Int32, y = (nI j) + 1 := ⟨_, rfl⟩
                  refine lv_iinc (v := x4_94) (lv' := [(4, .int x4_94), (0, .ref (E.1 + 580)), (1, .int t), (2, .int k), (3, .int h)]) hx hb dX8_prove_94 hl (k := 4) rfl (by rw [ex4_94]; rfl) (by decide) rfl (fun ls hl => ?_)
                  refine lv_goto (tgt := 37) hx hb dX8_prove_97 (by decide) ?_
                  rw [show x4_94 = nI (j + 1) from (ex4_94.trans (nAdd rfl rfl))] at hl
                  exact ih37 V93 _ _ _ (j + 1) (by omega) (fun i hi hb => by by_cases q : i = j; (subst q; rw [b51] at hb; cases hb); (exact hal i (by omega) hb)) (hcp.s hV93 (by omega) (by show _ = b2i _; rw [n_76, decide_eq_true rfl]; rfl)) (by omega) hM hS (lv_sub hl [1, 2, 3, 4, 0] rfl)
                · have n_76 : ¬ j = (rj t) := fun q9 => c_76 ((nEq (a := j) (b := (rj t)) rfl et (by omega) (by omega)).mpr q9)
                  refine lv_iload_n hx hb dX8_prove_79 rfl (lv_at hl 3 rfl) ?_
                  refine lv_iload hx hb dX8_prove_80 (lv_at hl 4 rfl) ?_
                  refine lv_ishr hx hb dX8_prove_82 ?_
                  refine lv_iconst (v := 1) hx hb dX8_prove_83 (by decide) ?_
                  refine lv_iand hx hb dX8_prove_84 ?_
                  refine lv_if_ne (tgt := 92) hx hb dX8_prove_85 (by decide) (fun c_85 => ?_) (fun c_85 => ?_)
                  · have b85 : (rj h).testBit j = true := by have q := bit_m enh (by omega) (show j < 8 by omega); cases hb : (rj h).testBit j with | true => rfl | false => rw [hb] at q; exact absurd q c_85
                    refine lv_iconst (v := 0) hx hb dX8_prove_92 (by decide) ?_
                    have i_93 : (nI j : Int32) = nI (j) := rfl
                    have j_93 : (nI j).toNatClampNeg = j := (congrArg Int32.toNatClampNeg i_93).trans (nI_clamp (by omega))
                    refine w_zst (N := 8) hx hb hK.1 hM hS (by decide) (by decide) (by decide) (by rw [i_93]; exact vp_in_nI (by omega) (by omega)) (by decide) dX8_prove_93 (fun H locs hM hS => ?_)
                    rw [j_93] at hM
                    generalize hV93 : up2 Vw 609 j 0 = V93 at hM
                    obtain ⟨x4_94, ex4_94⟩ : ∃ y : Int32, y = (nI j) + 1 := ⟨_, rfl⟩
                    refine lv_iinc (v := x4_94) (lv' := [(4, .int x4_94), (0, .ref (E.1 + 580)), (1, .int t), (2, .int k), (3, .int h)]) hx hb dX8_prove_94 hl (k := 4) rfl (by rw [ex4_94]; rfl) (by decide) rfl (fun ls hl => ?_)
                    refine lv_goto (tgt := 37) hx hb dX8_prove_97 (by decide) ?_
                    rw [show x4_94 = nI (j + 1) from (ex4_94.trans (nAdd rfl rfl))] at hl
                    exact ih37 V93 _ _ _ (j + 1) (by omega) (fun i hi hb => by by_cases q : i = j; (subst q; rw [b51] at hb; cases hb); (exact hal i (by omega) hb)) (hcp.s hV93 (by omega) (by show _ = b2i _; rw [decide_eq_false n_76, b85]; rfl)) (by omega) hM hS (lv_sub hl [1, 2, 3, 4, 0] rfl)
                  · have b85 : (rj h).testBit j = false := by have q := bit_m enh (by omega) (show j < 8 by omega); cases hb : (rj h).testBit j with | false => rfl | true => rw [hb] at q; exact absurd (q.symm.trans c_85) (by decide)
                    refine lv_iconst (v := 1) hx hb dX8_prove_88 (by decide) ?_
                    refine lv_goto (tgt := 93) hx hb dX8_prove_89 (by decide) ?_
                    have i_93 : (nI j : Int32) = nI (j) := rfl
                    have j_93 : (nI j).toNatClampNeg = j := (congrArg Int32.toNatClampNeg i_93).trans (nI_clamp (by omega))
                    refine w_zst (N := 8) hx hb hK.1 hM hS (by decide) (by decide) (by decide) (by rw [i_93]; exact vp_in_nI (by omega) (by omega)) (by decide) dX8_prove_93 (fun H locs hM hS => ?_)
                    rw [j_93] at hM
                    generalize hV93 : up2 Vw 609 j 1 = V93 at hM
                    obtain ⟨x4_94, ex4_94⟩ : ∃ y : Int32, y = (nI j) + 1 := ⟨_, rfl⟩
                    refine lv_iinc (v := x4_94) (lv' := [(4, .int x4_94), (0, .ref (E.1 + 580)), (1, .int t), (2, .int k), (3, .int h)]) hx hb dX8_prove_94 hl (k := 4) rfl (by rw [ex4_94]; rfl) (by decide) rfl (fun ls hl => ?_)
                    refine lv_goto (tgt := 37) hx hb dX8_prove_97 (by decide) ?_
                    rw [show x4_94 = nI (j + 1) from (ex4_94.trans (nAdd rfl rfl))] at hl
                    exact ih37 V93 _ _ _ (j + 1) (by omega) (fun i hi hb => by by_cases q : i = j; (subst q; rw [b51] at hb; cases hb); (exact hal i (by omega) hb)) (hcp.s hV93 (by omega) (by show _ = b2i _; rw [decide_eq_false n_76, b85]; rfl)) (by omega) hM hS (lv_sub hl [1, 2, 3, 4, 0] rfl)
              · have b51 : (rj h).testBit j = true := by have q := bit_m enh (by omega) (show j < 8 by omega); cases hb : (rj h).testBit j with | true => rfl | false => rw [hb] at q; exact absurd (q.symm.trans c_51) (by decide)
                refine lv_aload_n hx hb dX8_prove_54 rfl (lv_at hl 0 rfl) ?_
                refine w_gr 8 21 596 (T := TX8) (N := 42) hx hb hts inw8 hown hK.1 hM (by decide) (by decide) (by decide) (by decide) (by decide) rfl (by decide) k59 rfl dX8_prove_55 ?_
                refine lv_iload hx hb dX8_prove_58 (lv_at hl 4 rfl) ?_
                have i_60 : (nI j : Int32) = nI (j) := rfl
                refine w_zld (N := 9) hx hb hK.1 hM (by decide) (by decide) (by decide) (by rw [i_60]; exact vp_in_nI (by omega) (by omega)) dX8_prove_60 ?_
                have j_60 : (nI j).toNatClampNeg = j := (congrArg Int32.toNatClampNeg i_60).trans (nI_clamp (by omega))
                have q : (Vw 596 (nI j).toNatClampNeg : Int32) = Vw 596 j := by rw [j_60]
                refine lv_eqi q ?_
                have q : (Vw 596 j : Int32) = b2i (σ.2.1 j).isSome := by rw [hcp.2.2 596 (by decide)]; exact (cT j (by omega)).b
                refine lv_eqi q ?_
                refine lv_if_ne (tgt := 67) hx hb dX8_prove_61 (by decide) (fun c_61 => ?_) (fun c_61 => ?_)
                · have b61 : (σ.2.1 j).isSome = true := b2i_ne0 c_61
                  refine lv_aload_n hx hb dX8_prove_67 rfl (lv_at hl 0 rfl) ?_
                  refine w_gr 8 35 609 (T := TX8) (N := 42) hx hb hts inw8 hown hK.1 hM (by decide) (by decide) (by decide) (by decide) (by decide) rfl (by decide) k99 rfl dX8_prove_68 ?_
                  refine lv_iload hx hb dX8_prove_71 (lv_at hl 4 rfl) ?_
                  refine lv_iload hx hb dX8_prove_73 (lv_at hl 4 rfl) ?_
                  refine lv_iload_n hx hb dX8_prove_75 rfl (lv_at hl 1 rfl) ?_
                  refine lv_icmp_eq (tgt := 88) hx hb dX8_prove_76 (by decide) (fun c_76 => ?_) (fun c_76 => ?_)
                  · have n_76 : j = (rj t) := (nEq (a := j) (b := (rj t)) rfl et (by omega) (by omega)).mp c_76
                    refine lv_iconst (v := 1) hx hb dX8_prove_88 (by decide) ?_
                    refine lv_goto (tgt := 93) hx hb dX8_prove_89 (by decide) ?_
                    have i_93 : (nI j : Int32) = nI (j) := rfl
                    have j_93 : (nI j).toNatClampNeg = j := (congrArg Int32.toNatClampNeg i_93).trans (nI_clamp (by omega))
                    refine w_zst (N := 8) hx hb hK.1 hM hS (by decide) (by decide) (by decide) (by rw [i_93]; exact vp_in_nI (by omega) (by omega)) (by decide) dX8_prove_93 (fun H locs hM hS => ?_)
                    rw [j_93] at hM
                    generalize hV93 : up2 Vw 609 j 1 = V93 at hM
                    obtain ⟨x4_94, ex4_94⟩ : ∃ y : Int32, y = (nI j) + 1 := ⟨_, rfl⟩
                    refine lv_iinc (v := x4_94) (lv' := [(4, .int x4_94), (0, .ref (E.1 + 580)), (1, .int t), (2, .int k), (3, .int h)]) hx hb dX8_prove_94 hl (k := 4) rfl (by rw [ex4_94]; rfl) (by decide) rfl (fun ls hl => ?_)
                    refine lv_goto (tgt := 37) hx hb dX8_prove_97 (by decide) ?_
                    rw [show x4_94 = nI (j + 1) from (ex4_94.trans (nAdd rfl rfl))] at hl
                    exact ih37 V93 _ _ _ (j + 1) (by omega) (fun i hi hb => by by_cases q : i = j; (subst q; exact b61); (exact hal i (by omega) hb)) (hcp.s hV93 (by omega) (by show _ = b2i _; rw [n_76, decide_eq_true rfl]; rfl)) (by omega) hM hS (lv_sub hl [1, 2, 3, 4, 0] rfl)
                  · have n_76 : ¬ j = (rj t) := fun q9 => c_76 ((nEq (a := j) (b := (rj t)) rfl et (by omega) (by omega)).mpr q9)
                    refine lv_iload_n hx hb dX8_prove_79 rfl (lv_at hl 3 rfl) ?_
                    refine lv_iload hx hb dX8_prove_80 (lv_at hl 4 rfl) ?_
                    refine lv_ishr hx hb dX8_prove_82 ?_
                    refine lv_iconst (v := 1) hx hb dX8_prove_83 (by decide) ?_
                    refine lv_iand hx hb dX8_prove_84 ?_
                    refine lv_if_ne (tgt := 92) hx hb dX8_prove_85 (by decide) (fun c_85 => ?_) (fun c_85 => ?_)
                    · have b85 : (rj h).testBit j = true := by have q := bit_m enh (by omega) (show j < 8 by omega); cases hb : (rj h).testBit j with | true => rfl | false => rw [hb] at q; exact absurd q c_85
                      refine lv_iconst (v := 0) hx hb dX8_prove_92 (by decide) ?_
                      have i_93 : (nI j : Int32) = nI (j) := rfl
                      have j_93 : (nI j).toNatClampNeg = j := (congrArg Int32.toNatClampNeg i_93).trans (nI_clamp (by omega))
                      refine w_zst (N := 8) hx hb hK.1 hM hS (by decide) (by decide) (by decide) (by rw [i_93]; exact vp_in_nI (by omega) (by omega)) (by decide) dX8_prove_93 (fun H locs hM hS => ?_)
                      rw [j_93] at hM
                      generalize hV93 : up2 Vw 609 j 0 = V93 at hM
                      obtain ⟨x4_94, ex4_94⟩ : ∃ y : Int32, y = (nI j) + 1 := ⟨_, rfl⟩
                      refine lv_iinc (v := x4_94) (lv' := [(4, .int x4_94), (0, .ref (E.1 + 580)), (1, .int t), (2, .int k), (3, .int h)]) hx hb dX8_prove_94 hl (k := 4) rfl (by rw [ex4_94]; rfl) (by decide) rfl (fun ls hl => ?_)
                      refine lv_goto (tgt := 37) hx hb dX8_prove_97 (by decide) ?_
                      rw [show x4_94 = nI (j + 1) from (ex4_94.trans (nAdd rfl rfl))] at hl
                      exact ih37 V93 _ _ _ (j + 1) (by omega) (fun i hi hb => by by_cases q : i = j; (subst q; exact b61); (exact hal i (by omega) hb)) (hcp.s hV93 (by omega) (by show _ = b2i _; rw [decide_eq_false n_76, b85]; rfl)) (by omega) hM hS (lv_sub hl [1, 2, 3, 4, 0] rfl)
                    · have b85 : (rj h).testBit j = false := by have q := bit_m enh (by omega) (show j < 8 by omega); cases hb : (rj h).testBit j with | false => rfl | true => rw [hb] at q; exact absurd (q.symm.trans c_85) (by decide)
                      refine lv_iconst (v := 1) hx hb dX8_prove_88 (by decide) ?_
                      refine lv_goto (tgt := 93) hx hb dX8_prove_89 (by decide) ?_
                      have i_93 : (nI j : Int32) = nI (j) := rfl
                      have j_93 : (nI j).toNatClampNeg = j := (congrArg Int32.toNatClampNeg i_93).trans (nI_clamp (by omega))
                      refine w_zst (N := 8) hx hb hK.1 hM hS (by decide) (by decide) (by decide) (by rw [i_93]; exact vp_in_nI (by omega) (by omega)) (by decide) dX8_prove_93 (fun H locs hM hS => ?_)
                      rw [j_93] at hM
                      generalize hV93 : up2 Vw 609 j 1 = V93 at hM
                      obtain ⟨x4_94, ex4_94⟩ : ∃ y : Int32, y = (nI j) + 1 := ⟨_, rfl⟩
                      refine lv_iinc (v := x4_94) (lv' := [(4, .int x4_94), (0, .ref (E.1 + 580)), (1, .int t), (2, .int k), (3, .int h)]) hx hb dX8_prove_94 hl (k := 4) rfl (by rw [ex4_94]; rfl) (by decide) rfl (fun ls hl => ?_)
                      refine lv_goto (tgt := 37) hx hb dX8_prove_97 (by decide) ?_
                      rw [show x4_94 = nI (j + 1) from (ex4_94.trans (nAdd rfl rfl))] at hl
                      exact ih37 V93 _ _ _ (j + 1) (by omega) (fun i hi hb => by by_cases q : i = j; (subst q; exact b61); (exact hal i (by omega) hb)) (hcp.s hV93 (by omega) (by show _ = b2i _; rw [decide_eq_false n_76, b85]; rfl)) (by omega) hM hS (lv_sub hl [1, 2, 3, 4, 0] rfl)
                · have b61 : (σ.2.1 j).isSome = false := b2i_eq0 c_61
                  refine lv_bipush (v := (-2)) hx hb dX8_prove_64 (by decide) ?_
                  have hpost : (fun v V' => v = (opProve σ t k h).1 ∧ repM V' (opProve σ t k h).2 ∧ frC V V') (-2) Vw := by
                    have hA : areT σ h = false := areT_no (show j < 8 by omega) b51 b61
                    have hq : opProve σ t k h = (-2, σ) := by simp [opProve, hT, i2, hA]
                    rw [hq]; exact ⟨rfl, hC2.fr ⟨fun q a => hcp.2.2 q (by omega), fun z a => by rw [hcp.2.2 580 (by decide)]⟩, fC2.trans (fun q a => hcp.2.2 q (by omega))⟩
                  exact w_iret Vw hx hb hret hK hS hM (hpost) hlocks dX8_prove_66
        exact loop37 _ V2 _ _ _ 0 (Nat.zero_le _) (fun i hi => absurd hi (by omega)) (cpx.z _ _ _ _) (Nat.lt_succ_self _) hM hS (lv_sub hl [1, 2, 3, 4, 0] rfl)
      · have i3 : inR h 0 255 = false := b2i_eq0 (by rw [← er25]; exact c_28)
        refine lv_bipush (v := (-2)) hx hb dX8_prove_31 (by decide) ?_
        have hpost : (fun v V' => v = (opProve σ t k h).1 ∧ repM V' (opProve σ t k h).2 ∧ frC V V') (-2) V2 := by
          have hq : opProve σ t k h = (-2, σ) := by first | (simp [opProve, hT, i2, areT, i3]; done) | (simp [opProve, hT, i2]; done) | (simp [opProve, hN]; done)
          rw [hq]; exact ⟨rfl, hC2, fC2⟩
        exact w_iret V2 hx hb hret hK hS hM (hpost) hlocks dX8_prove_33
