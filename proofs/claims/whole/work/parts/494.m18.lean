-- needs: 44 450 451 456 460 462 464 466 469 475 490 491 492 493
set_option maxHeartbeats 4000000 in
set_option maxRecDepth 100000 in
theorem c_X8_readLimit (l : Launch) {E : En} {V : Vt} {lt : List Int32} (hu : buf V 19 595 lt) (hlt : lt.length ≤ 1200) (okl : okL lt) {p0 : Nat} (hr : rdS V lt (.inr p0)) {n8 : Nat} (h8 : V 599 8 = nI n8) (hn8 : n8 < 10) : CV l yX8_readLimit wsX8_readLimit 3 E V [.ref (E.1 + 580)] (fun V' => rlP V V' lt n8 p0) := by
  refine Met.ofW (cc := cX8_readLimit) (maxL := 4) (ret := none) (by decide) rfl ?_
  intro p e s m args below meth c s₁ B hml hv
  obtain ⟨rfl, hM, hK⟩ := hv
  have hx := B.exec
  have hb := B.bytes
  have hret := B.returns
  have hts := atoms_spec (ws := wsX8_readLimit) B.pre
  have hown : s.vm.findClass RX8 = some m.cls := findClass_of_methodNamed B.named
  have hlocks := B.notSynchronized
  have hsz : s.heap.size = E.1 + 610 := hM.1
  have hS : va_S (AE E) s.heap s.heap [] := va_S.rf
  have inw8 : ∀ w ∈ u_ws RX8 TX8 42, w ∈ wsX8_readLimit := by decide +kernel
  have k69 := hts (.fieldLink RX8 69 "LimitTokensModel" "limits" "[I") (by decide +kernel)
  have k72 := hts (.fieldLink RX8 72 "LimitTokensModel" "textSize" "[I") (by decide +kernel)
  have k75 := hts (.fieldLink RX8 75 "LimitTokensModel" "text" "[I") (by decide +kernel)
  have k78 := hts (.fieldLink RX8 78 "LimitTokensModel" "isOthers" "[Z") (by decide +kernel)
  have k81 := hts (.fieldLink RX8 81 "LimitTokensModel" "lock" "[I") (by decide +kernel)
  have k237 := hts (.fieldLink RX8 237 "LimitTokensModel" "readFault" "I") (by decide +kernel)
  have k240 := hts (.fieldLink RX8 240 "LimitTokensModel" "readAt" "I") (by decide +kernel)
  have hl := lv_entry ([.ref (E.1 + 580)]) (n := 4) (Nat.le_of_ble_eq_true rfl)
  rw [lg_entry_eq]
  generalize (lg_sl ([.ref (E.1 + 580)]) ++ List.replicate (4 - (lg_sl ([.ref (E.1 + 580)])).length) Slot.unset).toArray = ls at hl ⊢
  have hl : lv_has ls 4 [(0, .ref (E.1 + 580))] := hl
  refine lv_bipush (v := 80) hx hb dX8_readLimit_0 (by decide) ?_
  refine lv_aload_n hx hb dX8_readLimit_2 rfl (lv_at hl 0 rfl) ?_
  refine w_gr 8 24 599 (T := TX8) (N := 42) hx hb hts inw8 hown hK.1 hM (by decide) (by decide) (by decide) (by decide) (by decide) rfl (by decide) k69 rfl dX8_readLimit_3 ?_
  refine lv_bipush (v := 8) hx hb dX8_readLimit_6 (by decide) ?_
  have i_8 : (8 : Int32) = nI (8) := rfl
  refine w_ild (N := 9) hx hb hK.1 hM (by decide) (by decide) (by decide) (by rw [i_8]; exact vp_in_nI (by omega) (by omega)) dX8_readLimit_8 ?_
  have j_8 : (8 : Int32).toNatClampNeg = 8 := (congrArg Int32.toNatClampNeg i_8).trans (nI_clamp (by omega))
  have q : (V 599 (8 : Int32).toNatClampNeg : Int32) = V 599 8 := by rw [j_8]
  refine lv_eqi q ?_
  have q : (V 599 8 : Int32) = nI n8 := h8
  refine lv_eqi q ?_
  refine lv_iadd hx hb dX8_readLimit_9 ?_
  have q : (80 + (nI n8) : Int32) = nI (80 + n8) := (nAdd rfl rfl)
  refine lv_eqi q ?_
  refine lv_topi (fun x1_10 ex1_10 => ?_)
  refine lv_istore_n (lv' := [(1, .int x1_10), (0, .ref (E.1 + 580))]) hx hb dX8_readLimit_10 rfl hl (by decide) rfl (fun ls hl => ?_)
  refine lv_aload_n hx hb dX8_readLimit_11 rfl (lv_at hl 1 rfl) ?_
  refine w_gr 8 25 600 (T := TX8) (N := 42) hx hb hts inw8 hown hK.1 hM (by decide) (by decide) (by decide) (by decide) (by decide) rfl (by decide) k72 rfl dX8_readLimit_12 ?_
  refine lv_iload_n hx hb dX8_readLimit_15 rfl (lv_at hl 0 rfl) ?_
  refine lv_aload_n hx hb dX8_readLimit_16 rfl (lv_at hl 1 rfl) ?_
  refine lv_aload_n hx hb dX8_readLimit_17 rfl (lv_at hl 1 rfl) ?_
  refine w_gr 8 26 601 (T := TX8) (N := 42) hx hb hts inw8 hown hK.1 hM (by decide) (by decide) (by decide) (by decide) (by decide) rfl (by decide) k75 rfl dX8_readLimit_18 ?_
  refine lv_bipush (v := 60) hx hb dX8_readLimit_21 (by decide) ?_
  refine lv_iload_n hx hb dX8_readLimit_23 rfl (lv_at hl 0 rfl) ?_
  refine lv_imul hx hb dX8_readLimit_24 ?_
  have q : (60 * x1_10 : Int32) = nI (60 * (80 + n8)) := (nMul rfl (ex1_10.trans rfl))
  refine lv_eqi q ?_
  refine lv_iconst (v := 1) hx hb dX8_readLimit_25 (by decide) ?_
  refine lv_bipush (v := 60) hx hb dX8_readLimit_26 (by decide) ?_
  refine w_cVi (C := RX8) (As := [.ref (E.1 + 601), .int (nI (60 * (80 + n8))), .int 1, .int 60]) (rest := [.int x1_10, .ref (E.1 + 600)]) ⟨hx, hb, hml, hown, hts⟩ (c_X8_readRow l a601 (by decide) hu hlt hr okl (b := 60 * (80 + n8)) (lo := 1) (hi := 60) (by omega) (by omega) (by omega)) (cwV 4 hts gX8_readLimit_X8_readRow rfl rfl rfl (by decide +kernel) ⟨Nat.le_of_ble_eq_true rfl, Nat.le_of_ble_eq_true rfl⟩) (w_recv (ci := 8) hK hM (by decide) (by decide) (by decide) rfl) hM hK hS rfl hl.1 rfl (lv_room (Nat.le_of_ble_eq_true rfl)) dX8_readLimit_28 ⟨Nat.le_of_ble_eq_true rfl, Nat.le_of_ble_eq_true rfl⟩ (fun r28 V28 H locs hp28 hM hS => ?_)
  obtain ⟨rd28, hb28, f28⟩ := hp28
  have i_31 : (x1_10 : Int32) = nI (80 + n8) := (ex1_10.trans rfl)
  have j_31 : x1_10.toNatClampNeg = 80 + n8 := (congrArg Int32.toNatClampNeg i_31).trans (nI_clamp (by omega))
  refine w_ist (N := 90) hx hb hK.1 hM hS (by decide) (by decide) (by decide) (by rw [i_31]; exact vp_in_nI (by omega) (by omega)) dX8_readLimit_31 (fun H locs hM hS => ?_)
  rw [j_31] at hM
  generalize hV31 : up2 V28 600 (80 + n8) r28 = V31 at hM
  refine lv_aload_n hx hb dX8_readLimit_32 rfl (lv_at hl 1 rfl) ?_
  refine w_cVi (C := RX8) (As := []) (rest := []) ⟨hx, hb, hml, hown, hts⟩ (c_X8_next l (hu.keep (by rw [← hV31, up2_k _ _ (by decide)]; exact f28.2.2 19 (by decide) (by decide) (by decide)) (by rw [← hV31, up2_k _ _ (by decide)]; exact f28.2.1 595 (by decide) (by decide))) hlt (rd28.fr (fun z _ => by rw [← hV31, up2_k _ _ (by decide)]))) (cwV 0 hts gX8_readLimit_X8_next rfl rfl rfl (by decide +kernel) ⟨Nat.le_of_ble_eq_true rfl, Nat.le_of_ble_eq_true rfl⟩) (w_recv (ci := 8) hK hM (by decide) (by decide) (by decide) rfl) hM hK hS rfl hl.1 rfl (lv_room (Nat.le_of_ble_eq_true rfl)) dX8_readLimit_33 ⟨Nat.le_of_ble_eq_true rfl, Nat.le_of_ble_eq_true rfl⟩ (fun r33 V33 H locs hp33 hM hS => ?_)
  obtain ⟨ev33, rd33, fn33⟩ := hp33
  refine lv_istore_n (lv' := [(2, .int r33), (1, .int x1_10), (0, .ref (E.1 + 580))]) hx hb dX8_readLimit_36 rfl hl (by decide) rfl (fun ls hl => ?_)
  have join64 : ∀ (Vj : Vt) (H : Heap) (locs : List Loc) (ls : Array Slot)  (hj : (¬ r33 = 4 → rdS Vj lt (kS (sS (rb lt 1 60 (.inr p0))) (rMark lt 0))) ∧ (r33 = 4 → rdS Vj lt (nxs lt (sS (rb lt 1 60 (.inr p0)))))) (hfj : frN V33 Vj), Wd E Vj H → va_S (AE E) s.heap H locs → lv_has ls 4 [(0, .ref (E.1 + 580)), (1, .int x1_10), (2, .int r33)] → W p l e (headSpec wsX8_readLimit (rmD 3)).room s m ([.ref (E.1 + 580)] : List Value).toArray below meth c H locs 0 0 (MQ below (QV E (fun V' => Wd E V') (fun V' => rlP V V' lt n8 p0)) ([.ref (E.1 + 580)] : List Value).toArray s 0 0 (AE E)) (F0 m 64 ls []) := by
    intro Vj H locs ls  hj hfj hM hS hl
    refine lv_aload_n hx hb dX8_readLimit_64 rfl (lv_at hl 0 rfl) ?_
    refine w_gr 8 27 602 (T := TX8) (N := 42) hx hb hts inw8 hown hK.1 hM (by decide) (by decide) (by decide) (by decide) (by decide) rfl (by decide) k78 rfl dX8_readLimit_65 ?_
    refine lv_iload_n hx hb dX8_readLimit_68 rfl (lv_at hl 1 rfl) ?_
    refine lv_iload_n hx hb dX8_readLimit_69 rfl (lv_at hl 2 rfl) ?_
    refine lv_iconst (v := 4) hx hb dX8_readLimit_70 (by decide) ?_
    refine lv_icmp_ne (tgt := 78) hx hb dX8_readLimit_71 (by decide) (fun c_71 => ?_) (fun c_71 => ?_)
    · refine lv_iconst (v := 0) hx hb dX8_readLimit_78 (by decide) ?_
      have i_79 : (x1_10 : Int32) = nI (80 + n8) := ex1_10
      have j_79 : x1_10.toNatClampNeg = 80 + n8 := (congrArg Int32.toNatClampNeg i_79).trans (nI_clamp (by omega))
      refine w_zst (N := 90) hx hb hK.1 hM hS (by decide) (by decide) (by decide) (by rw [i_79]; exact vp_in_nI (by omega) (by omega)) (by decide) dX8_readLimit_79 (fun H locs hM hS => ?_)
      rw [j_79] at hM
      generalize hV79 : up2 Vj 602 (80 + n8) 0 = V79 at hM
      have g9 : ∀ z, z ≠ 20 → z ≠ 40 → z ≠ 41 → Vj 580 z = V 580 z := fun z a b c => by rw [hfj.2 z a b c, fn33.2 z a b c, ← hV31, up2_k _ _ (by decide)]; exact f28.2.2 z a b c
      have k9 : ∀ k, k ≠ 600 → k ≠ 601 → k ≠ 580 → Vj k = V k := fun k a b c => by rw [hfj.1 k c, fn33.1 k c, ← hV31, up2_k _ _ a]; exact f28.2.1 k b c
      have e600 : Vj 600 = V31 600 := by rw [hfj.1 600 (by decide), fn33.1 600 (by decide)]
      have e601 : Vj 601 = V28 601 := by rw [hfj.1 601 (by decide), fn33.1 601 (by decide), ← hV31, up2_k _ _ (by decide)]
      have e79 : ∀ k, k ≠ 602 → V79 k = Vj k := fun k a => by rw [← hV79, up2_k _ _ a]
      refine lv_iload_n hx hb dX8_readLimit_80 rfl (lv_at hl 2 rfl) ?_
      refine lv_iconst (v := 4) hx hb dX8_readLimit_81 (by decide) ?_
      refine lv_icmp_ne (tgt := 107) hx hb dX8_readLimit_82 (by decide) (fun c_82 => ?_) (fun c_82 => ?_)
      · refine lv_aload_n hx hb dX8_readLimit_107 rfl (lv_at hl 0 rfl) ?_
        refine w_gr 8 24 599 (T := TX8) (N := 42) hx hb hts inw8 hown hK.1 hM (by decide) (by decide) (by decide) (by decide) (by decide) rfl (by decide) k69 rfl dX8_readLimit_108 ?_
        refine lv_bipush (v := 8) hx hb dX8_readLimit_111 (by decide) ?_
        refine lv_dup2_11 hx hb dX8_readLimit_113 rfl rfl ?_
        have i_114 : (8 : Int32) = nI (8) := rfl
        refine w_ild (N := 9) hx hb hK.1 hM (by decide) (by decide) (by decide) (by rw [i_114]; exact vp_in_nI (by omega) (by omega)) dX8_readLimit_114 ?_
        have j_114 : (8 : Int32).toNatClampNeg = 8 := (congrArg Int32.toNatClampNeg i_114).trans (nI_clamp (by omega))
        have q : (V79 599 (8 : Int32).toNatClampNeg : Int32) = V79 599 8 := by rw [j_114]
        refine lv_eqi q ?_
        have q : (V79 599 8 : Int32) = nI n8 := by rw [e79 599 (by decide), k9 599 (by decide) (by decide) (by decide)]; exact h8
        refine lv_eqi q ?_
        refine lv_iconst (v := 1) hx hb dX8_readLimit_115 (by decide) ?_
        refine lv_iadd hx hb dX8_readLimit_116 ?_
        have q : ((nI n8) + 1 : Int32) = nI (n8 + 1) := (nAdd rfl rfl)
        refine lv_eqi q ?_
        have i_117 : (8 : Int32) = nI (8) := rfl
        have j_117 : (8 : Int32).toNatClampNeg = 8 := (congrArg Int32.toNatClampNeg i_117).trans (nI_clamp (by omega))
        refine w_ist (N := 9) hx hb hK.1 hM hS (by decide) (by decide) (by decide) (by rw [i_117]; exact vp_in_nI (by omega) (by omega)) dX8_readLimit_117 (fun H locs hM hS => ?_)
        rw [j_117] at hM
        generalize hV117 : up2 V79 599 8 (nI (n8 + 1)) = V117 at hM
        have hpost : (fun V' => rlP V V' lt n8 p0) V117 := by
          have e117 : ∀ k, k ≠ 599 → V117 k = V79 k := fun k a => by rw [← hV117, up2_k _ _ a]
          have h4n : ¬ nxv lt (sS (rb lt 1 60 (.inr p0))) = 4 := fun q => c_71 (ev33.trans q)
          refine ⟨kS (sS (rb lt 1 60 (.inr p0))) (rMark lt 0), (bsOf [] (rb lt 1 60 (.inr p0)), []), (hj.1 c_71).fr (fun z _ => by rw [e117 580 (by decide), e79 580 (by decide)]), rl_n h4n, fun p4 hy => ?_, by rw [← hV117, up2_s], ?_⟩
          · obtain ⟨pa, hpa, -⟩ := kS_inr hy
            have ha := sS_inr ([] : List Int32) hpa
            obtain ⟨hb1, hb2⟩ := hb28 _ _ ha
            have ho := rBytes_ok (l := lt) (lo := 1) (hi := 60) (p := p0) ha (by omega) (by omega) okl
            exact ⟨⟨by rw [e117 600 (by decide), e79 600 (by decide), e600, ← hV31, up2_s]; exact hb1, hb2.keep (by rw [e117 601 (by decide), e79 601 (by decide), e601]), by rw [e117 602 (by decide), ← hV79, up2_s]; rfl, seg.nil _ _ _⟩, ho.2.2.2.1, by simp⟩
          · exact ⟨fun i a => by rw [← hV117, up2_o _ _ a, e79 599 (by decide), k9 599 (by decide) (by decide) (by decide)], fun i a => by rw [e117 600 (by decide), e79 600 (by decide), e600, ← hV31, up2_o _ _ a, f28.2.1 600 (by decide) (by decide)], fun i a => by rw [e117 602 (by decide), ← hV79, up2_o _ _ a, k9 602 (by decide) (by decide) (by decide)], fun i a => by rw [e117 601 (by decide), e79 601 (by decide), e601]; exact f28.1 i a, fun i a => by rw [e117 603 (by decide), e79 603 (by decide), k9 603 (by decide) (by decide) (by decide)], fun k a b => by rw [e117 k (by omega), e79 k (by omega), k9 k (by omega) (by omega) b], fun i a b c => by rw [e117 580 (by decide), e79 580 (by decide)]; exact g9 i a b c⟩
        exact w_vret (free := AE E) V117 hx hb hret hK hS hM (hpost) hlocks dX8_readLimit_118
      · exact absurd c_82 c_71
    · refine lv_iconst (v := 1) hx hb dX8_readLimit_74 (by decide) ?_
      refine lv_goto (tgt := 79) hx hb dX8_readLimit_75 (by decide) ?_
      have i_79 : (x1_10 : Int32) = nI (80 + n8) := ex1_10
      have j_79 : x1_10.toNatClampNeg = 80 + n8 := (congrArg Int32.toNatClampNeg i_79).trans (nI_clamp (by omega))
      refine w_zst (N := 90) hx hb hK.1 hM hS (by decide) (by decide) (by decide) (by rw [i_79]; exact vp_in_nI (by omega) (by omega)) (by decide) dX8_readLimit_79 (fun H locs hM hS => ?_)
      rw [j_79] at hM
      generalize hV79 : up2 Vj 602 (80 + n8) 1 = V79 at hM
      have g9 : ∀ z, z ≠ 20 → z ≠ 40 → z ≠ 41 → Vj 580 z = V 580 z := fun z a b c => by rw [hfj.2 z a b c, fn33.2 z a b c, ← hV31, up2_k _ _ (by decide)]; exact f28.2.2 z a b c
      have k9 : ∀ k, k ≠ 600 → k ≠ 601 → k ≠ 580 → Vj k = V k := fun k a b c => by rw [hfj.1 k c, fn33.1 k c, ← hV31, up2_k _ _ a]; exact f28.2.1 k b c
      have e600 : Vj 600 = V31 600 := by rw [hfj.1 600 (by decide), fn33.1 600 (by decide)]
      have e601 : Vj 601 = V28 601 := by rw [hfj.1 601 (by decide), fn33.1 601 (by decide), ← hV31, up2_k _ _ (by decide)]
      have e79 : ∀ k, k ≠ 602 → V79 k = Vj k := fun k a => by rw [← hV79, up2_k _ _ a]
      refine lv_iload_n hx hb dX8_readLimit_80 rfl (lv_at hl 2 rfl) ?_
      refine lv_iconst (v := 4) hx hb dX8_readLimit_81 (by decide) ?_
      refine lv_icmp_ne (tgt := 107) hx hb dX8_readLimit_82 (by decide) (fun c_82 => ?_) (fun c_82 => ?_)
      · exact absurd c_71 c_82
      · refine lv_aload_n hx hb dX8_readLimit_85 rfl (lv_at hl 0 rfl) ?_
        refine lv_aload_n hx hb dX8_readLimit_86 rfl (lv_at hl 0 rfl) ?_
        refine w_gr 8 28 603 (T := TX8) (N := 42) hx hb hts inw8 hown hK.1 hM (by decide) (by decide) (by decide) (by decide) (by decide) rfl (by decide) k81 rfl dX8_readLimit_87 ?_
        refine lv_bipush (v := 32) hx hb dX8_readLimit_90 (by decide) ?_
        refine lv_iload_n hx hb dX8_readLimit_92 rfl (lv_at hl 1 rfl) ?_
        refine lv_imul hx hb dX8_readLimit_93 ?_
        have q : (32 * x1_10 : Int32) = nI (32 * (80 + n8)) := (nMul rfl ex1_10)
        refine lv_eqi q ?_
        refine lv_bipush (v := 32) hx hb dX8_readLimit_94 (by decide) ?_
        refine lv_bipush (v := 32) hx hb dX8_readLimit_96 (by decide) ?_
        refine w_cVi (C := RX8) (As := [.ref (E.1 + 603), .int (nI (32 * (80 + n8))), .int 32, .int 32]) (rest := []) ⟨hx, hb, hml, hown, hts⟩ (c_X8_readRow l a603 (by decide) (hu.keep (by rw [e79 580 (by decide)]; exact g9 19 (by decide) (by decide) (by decide)) (by rw [e79 595 (by decide)]; exact k9 595 (by decide) (by decide) (by decide))) hlt ((hj.2 c_71).fr (fun z _ => by rw [e79 580 (by decide)])) okl (b := 32 * (80 + n8)) (lo := 32) (hi := 32) (by omega) (by omega) (by omega)) (cwV 4 hts gX8_readLimit_X8_readRow rfl rfl rfl (by decide +kernel) ⟨Nat.le_of_ble_eq_true rfl, Nat.le_of_ble_eq_true rfl⟩) (w_recv (ci := 8) hK hM (by decide) (by decide) (by decide) rfl) hM hK hS rfl hl.1 rfl (lv_room (Nat.le_of_ble_eq_true rfl)) dX8_readLimit_98 ⟨Nat.le_of_ble_eq_true rfl, Nat.le_of_ble_eq_true rfl⟩ (fun r98 V98 H locs hp98 hM hS => ?_)
        obtain ⟨rd98, hb98, f98⟩ := hp98
        refine lv_istore_n (lv' := [(3, .int r98), (0, .ref (E.1 + 580)), (1, .int x1_10), (2, .int r33)]) hx hb dX8_readLimit_101 rfl hl (by decide) rfl (fun ls hl => ?_)
        refine lv_aload_n hx hb dX8_readLimit_102 rfl (lv_at hl 1 rfl) ?_
        refine lv_iconst (v := 0) hx hb dX8_readLimit_103 (by decide) ?_
        refine w_cVv (C := RX8) (As := [.int 0]) (rest := []) ⟨hx, hb, hml, hown, hts⟩ (c_X8_want l (f98.bf (hu.keep (by rw [e79 580 (by decide)]; exact g9 19 (by decide) (by decide) (by decide)) (by rw [e79 595 (by decide)]; exact k9 595 (by decide) (by decide) (by decide))) (by decide)) hlt rd98 0) (cwV 1 hts gX8_readLimit_X8_want rfl rfl rfl (by decide +kernel) ⟨Nat.le_of_ble_eq_true rfl, Nat.le_of_ble_eq_true rfl⟩) (w_recv (ci := 8) hK hM (by decide) (by decide) (by decide) rfl) hM hK hS rfl hl.1 rfl (lv_room (Nat.le_of_ble_eq_true rfl)) dX8_readLimit_104 ⟨Nat.le_of_ble_eq_true rfl, Nat.le_of_ble_eq_true rfl⟩ (fun V104 H locs hp104 hM hS => ?_)
        obtain ⟨rd104, fn104⟩ := hp104
        refine lv_aload_n hx hb dX8_readLimit_107 rfl (lv_at hl 1 rfl) ?_
        refine w_gr 8 24 599 (T := TX8) (N := 42) hx hb hts inw8 hown hK.1 hM (by decide) (by decide) (by decide) (by decide) (by decide) rfl (by decide) k69 rfl dX8_readLimit_108 ?_
        refine lv_bipush (v := 8) hx hb dX8_readLimit_111 (by decide) ?_
        refine lv_dup2_11 hx hb dX8_readLimit_113 rfl rfl ?_
        have i_114 : (8 : Int32) = nI (8) := rfl
        refine w_ild (N := 9) hx hb hK.1 hM (by decide) (by decide) (by decide) (by rw [i_114]; exact vp_in_nI (by omega) (by omega)) dX8_readLimit_114 ?_
        have j_114 : (8 : Int32).toNatClampNeg = 8 := (congrArg Int32.toNatClampNeg i_114).trans (nI_clamp (by omega))
        have q : (V104 599 (8 : Int32).toNatClampNeg : Int32) = V104 599 8 := by rw [j_114]
        refine lv_eqi q ?_
        have q : (V104 599 8 : Int32) = nI n8 := by rw [fn104.1 599 (by decide), f98.2.1 599 (by decide) (by decide), e79 599 (by decide), k9 599 (by decide) (by decide) (by decide)]; exact h8
        refine lv_eqi q ?_
        refine lv_iconst (v := 1) hx hb dX8_readLimit_115 (by decide) ?_
        refine lv_iadd hx hb dX8_readLimit_116 ?_
        have q : ((nI n8) + 1 : Int32) = nI (n8 + 1) := (nAdd rfl rfl)
        refine lv_eqi q ?_
        have i_117 : (8 : Int32) = nI (8) := rfl
        have j_117 : (8 : Int32).toNatClampNeg = 8 := (congrArg Int32.toNatClampNeg i_117).trans (nI_clamp (by omega))
        refine w_ist (N := 9) hx hb hK.1 hM hS (by decide) (by decide) (by decide) (by rw [i_117]; exact vp_in_nI (by omega) (by omega)) dX8_readLimit_117 (fun H locs hM hS => ?_)
        rw [j_117] at hM
        generalize hV117 : up2 V104 599 8 (nI (n8 + 1)) = V117 at hM
        have hpost : (fun V' => rlP V V' lt n8 p0) V117 := by
          have e117 : ∀ k, k ≠ 599 → V117 k = V104 k := fun k a => by rw [← hV117, up2_k _ _ a]
          have h4y : nxv lt (sS (rb lt 1 60 (.inr p0))) = 4 := ev33.symm.trans c_71
          have m9 : ∀ k, k ≠ 580 → k ≠ 599 → k ≠ 603 → V117 k = V79 k := fun k a b c => by rw [e117 k b, fn104.1 k a, f98.2.1 k c a]
          refine ⟨kS (sS (rb lt 32 32 (nxs lt (sS (rb lt 1 60 (.inr p0)))))) (rMark lt 0), (bsOf [] (rb lt 1 60 (.inr p0)), bsOf [] (rb lt 32 32 (nxs lt (sS (rb lt 1 60 (.inr p0)))))), rd104.fr (fun z _ => by rw [e117 580 (by decide)]), rl_4 h4y, fun p4 hy => ?_, by rw [← hV117, up2_s], ?_⟩
          · obtain ⟨pk, hpk, -⟩ := kS_inr hy
            have ha2 := sS_inr ([] : List Int32) hpk
            obtain ⟨hc1, hc2⟩ := hb98 _ _ ha2
            obtain ⟨pa, hpa, hpl, hg, hn⟩ := nxv_in h4y (by decide)
            have ha := sS_inr ([] : List Int32) hpa
            obtain ⟨hb1, hb2⟩ := hb28 _ _ ha
            have ho := rBytes_ok (l := lt) (lo := 1) (hi := 60) (p := p0) ha (by omega) (by omega) okl
            have ho2 : (bsOf [] (rb lt 32 32 (nxs lt (sS (rb lt 1 60 (.inr p0)))))).length = 32 := by rw [hn] at ha2 ⊢; have := rBytes_ok (l := lt) (lo := 32) (hi := 32) (p := pa + 1) ha2 (by omega) (by omega) okl; exact Nat.le_antisymm this.2.2.2.1 this.2.2.1
            have hne : ¬ bsOf [] (rb lt 32 32 (nxs lt (sS (rb lt 1 60 (.inr p0))))) = [] := fun q => by rw [q] at ho2; simp at ho2
            exact ⟨⟨by rw [m9 600 (by decide) (by decide) (by decide), e79 600 (by decide), e600, ← hV31, up2_s]; exact hb1, hb2.keep (by rw [m9 601 (by decide) (by decide) (by decide), e79 601 (by decide), e601]), by rw [m9 602 (by decide) (by decide) (by decide), ← hV79, up2_s, decide_eq_true (show bsOf [] (rb lt 32 32 (nxs lt (sS (rb lt 1 60 (.inr p0))))) ≠ [] from hne)]; rfl, hc2.keep (by rw [e117 603 (by decide), fn104.1 603 (by decide)])⟩, ho.2.2.2.1, by rw [ho2]; omega⟩
          · exact ⟨fun i a => by rw [← hV117, up2_o _ _ a, fn104.1 599 (by decide), f98.2.1 599 (by decide) (by decide), e79 599 (by decide), k9 599 (by decide) (by decide) (by decide)], fun i a => by rw [m9 600 (by decide) (by decide) (by decide), e79 600 (by decide), e600, ← hV31, up2_o _ _ a, f28.2.1 600 (by decide) (by decide)], fun i a => by rw [m9 602 (by decide) (by decide) (by decide), ← hV79, up2_o _ _ a, k9 602 (by decide) (by decide) (by decide)], fun i a => by rw [m9 601 (by decide) (by decide) (by decide), e79 601 (by decide), e601]; exact f28.1 i a, fun i a => by rw [e117 603 (by decide), fn104.1 603 (by decide), f98.1 i a, e79 603 (by decide), k9 603 (by decide) (by decide) (by decide)], fun k a b => by rw [m9 k b (by omega) (by omega), e79 k (by omega), k9 k (by omega) (by omega) b], fun i a b c => by rw [e117 580 (by decide), fn104.2 i a b c, f98.2.2 i a b c, e79 580 (by decide)]; exact g9 i a b c⟩
        exact w_vret (free := AE E) V117 hx hb hret hK hS hM (hpost) hlocks dX8_readLimit_118
  refine lv_aload_n hx hb dX8_readLimit_37 rfl (lv_at hl 2 rfl) ?_
  refine w_gi 8 41 (T := TX8) (N := 42) hx hb hts inw8 hown hK.1 hM (by decide) (by decide) (by decide) (by decide) (by decide) rfl (by decide) k237 rfl dX8_readLimit_38 ?_
  refine lv_if_ne (tgt := 64) hx hb dX8_readLimit_41 (by decide) (fun c_41 => ?_) (fun c_41 => ?_)
  · exact join64 V33 _ _ _ ⟨fun h4 => want_a rd33 c_41, fun h4 => absurd (h4.symm.trans (ev33.trans (nx_n rd33 c_41).1)) (by decide)⟩ frN.rf hM hS (lv_sub hl [2, 1, 0] rfl)
  · refine lv_iload_n hx hb dX8_readLimit_44 rfl (lv_at hl 0 rfl) ?_
    refine lv_if_eq (tgt := 64) hx hb dX8_readLimit_45 (by decide) (fun c_45 => ?_) (fun c_45 => ?_)
    · exact join64 V33 _ _ _ ⟨fun h4 => want_b rd33 c_41 (ev33.symm.trans c_45), fun h4 => absurd (h4.symm.trans c_45) (by decide)⟩ frN.rf hM hS (lv_sub hl [2, 1, 0] rfl)
    · refine lv_iload_n hx hb dX8_readLimit_48 rfl (lv_at hl 0 rfl) ?_
      refine lv_iconst (v := 4) hx hb dX8_readLimit_49 (by decide) ?_
      refine lv_icmp_eq (tgt := 64) hx hb dX8_readLimit_50 (by decide) (fun c_50 => ?_) (fun c_50 => ?_)
      · exact join64 V33 _ _ _ ⟨fun h4 => absurd c_50 h4, fun h4 => rd33⟩ frN.rf hM hS (lv_sub hl [2, 1, 0] rfl)
      · obtain ⟨pa, hxa, h40, hk⟩ := want_c (b := 0) rd33 c_41 (fun q => c_45 (ev33.trans q))
        refine lv_aload_n hx hb dX8_readLimit_53 rfl (lv_at hl 2 rfl) ?_
        refine lv_iconst (v := 2) hx hb dX8_readLimit_54 (by decide) ?_
        refine lv_aload_n hx hb dX8_readLimit_55 rfl (lv_at hl 2 rfl) ?_
        refine w_gi 8 40 (T := TX8) (N := 42) hx hb hts inw8 hown hK.1 hM (by decide) (by decide) (by decide) (by decide) (by decide) rfl (by decide) k240 rfl dX8_readLimit_56 ?_
        have q : (V33 580 40 : Int32) = nI (pa + 1) := h40
        refine lv_eqi q ?_
        refine lv_iconst (v := 1) hx hb dX8_readLimit_59 (by decide) ?_
        refine lv_isub hx hb dX8_readLimit_60 ?_
        refine w_cVv (C := RX8) (As := [.int 2, .int ((nI (pa + 1)) - 1)]) (rest := []) ⟨hx, hb, hml, hown, hts⟩ (c_X8_wrong l c_41 2 (nI (pa + 1) - 1)) (cwV 2 hts gX8_readLimit_X8_wrong rfl rfl rfl (by decide +kernel) ⟨Nat.le_of_ble_eq_true rfl, Nat.le_of_ble_eq_true rfl⟩) (w_recv (ci := 8) hK hM (by decide) (by decide) (by decide) rfl) hM hK hS rfl hl.1 rfl (lv_room (Nat.le_of_ble_eq_true rfl)) dX8_readLimit_61 ⟨Nat.le_of_ble_eq_true rfl, Nat.le_of_ble_eq_true rfl⟩ (fun V61 H locs hp61 hM hS => ?_)
        have h9 := rdS.wr (V1 := V) (l := lt) (ee := (2, pa)) hp61 rfl ((nSub (b := 1) rfl rfl (by omega)).trans (by rw [Nat.add_sub_cancel])) ⟨by simp, by simp⟩
        exact join64 V61 _ _ _ ⟨fun h4 => by rw [hk]; exact h9.1, fun h4 => absurd h4 c_50⟩ h9.2 hM hS (lv_sub hl [2, 1, 0] rfl)
