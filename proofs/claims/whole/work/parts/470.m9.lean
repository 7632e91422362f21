-- needs: 44 450 451 452 453 454 455 456 457 460 461 462 463 464 466
set_option maxHeartbeats 4000000 in
set_option maxRecDepth 100000 in
theorem c_X8_goOn (l : Launch) {E : En} {V : Vt} {ca na : Nat} (ha : isA ca na) (hlo : 591 < ca) {b : Nat} (hbn : b + 32 ≤ na) {s0 : List Int32} (hs : seg V ca b s0) (hs32 : s0.length = 32) {l1 : Nat} (hl90 : l1 < 90) {L : Lm} (hmL : mLim V l1 L) (hL : okLm L) (cN : mCon V) {lx : Int32} (el : lx = nI l1) : CV l yX8_goOn wsX8_goOn 5 E V [.ref (E.1 + 580), .ref (E.1 + ca), .int (nI b), .int lx] (fun V' => seg V' ca b (goOnL s0 L) ∧ frG V V' ca b) := by
  refine Met.ofW (cc := cX8_goOn) (maxL := 4) (ret := none) (by decide) rfl ?_
  intro p e s m args below meth c s₁ B hml hv
  obtain ⟨rfl, hM, hK⟩ := hv
  have hx := B.exec
  have hb := B.bytes
  have hret := B.returns
  have hts := atoms_spec (ws := wsX8_goOn) B.pre
  have hown : s.vm.findClass RX8 = some m.cls := findClass_of_methodNamed B.named
  have hlocks := B.notSynchronized
  have hsz : s.heap.size = E.1 + 610 := hM.1
  have hS : va_S (AE E) s.heap s.heap [] := va_S.rf
  have inw8 : ∀ w ∈ u_ws RX8 TX8 42, w ∈ wsX8_goOn := by decide +kernel
  have k78 := hts (.fieldLink RX8 78 "LimitTokensModel" "isOthers" "[Z") (by decide +kernel)
  have k81 := hts (.fieldLink RX8 81 "LimitTokensModel" "lock" "[I") (by decide +kernel)
  have k37 := hts (.fieldLink RX8 37 "LimitTokensModel" "out" "[I") (by decide +kernel)
  have k40 := hts (.fieldLink RX8 40 "LimitTokensModel" "kept" "[I") (by decide +kernel)
  have k75 := hts (.fieldLink RX8 75 "LimitTokensModel" "text" "[I") (by decide +kernel)
  have k72 := hts (.fieldLink RX8 72 "LimitTokensModel" "textSize" "[I") (by decide +kernel)
  have hl := lv_entry ([.ref (E.1 + 580), .ref (E.1 + ca), .int (nI b), .int lx]) (n := 4) (Nat.le_of_ble_eq_true rfl)
  rw [lg_entry_eq]
  generalize (lg_sl ([.ref (E.1 + 580), .ref (E.1 + ca), .int (nI b), .int lx]) ++ List.replicate (4 - (lg_sl ([.ref (E.1 + 580), .ref (E.1 + ca), .int (nI b), .int lx])).length) Slot.unset).toArray = ls at hl ⊢
  have hl : lv_has ls 4 [(0, .ref (E.1 + 580)), (1, .ref (E.1 + ca)), (2, .int (nI b)), (3, .int lx)] := hl
  obtain ⟨g0, g1, g2, g3⟩ := hmL
  have hna := ha.c
  have h60 := hL.2.1
  refine lv_aload_n hx hb dX8_goOn_0 rfl (lv_at hl 0 rfl) ?_
  refine w_gr 8 27 602 (T := TX8) (N := 42) hx hb hts inw8 hown hK.1 hM (by decide) (by decide) (by decide) (by decide) (by decide) rfl (by decide) k78 rfl dX8_goOn_1 ?_
  refine lv_iload_n hx hb dX8_goOn_4 rfl (lv_at hl 3 rfl) ?_
  have i_5 : (lx : Int32) = nI (l1) := el
  refine w_zld (N := 90) hx hb hK.1 hM (by decide) (by decide) (by decide) (by rw [i_5]; exact vp_in_nI (by omega) (by omega)) dX8_goOn_5 ?_
  have j_5 : lx.toNatClampNeg = l1 := (congrArg Int32.toNatClampNeg i_5).trans (nI_clamp (by omega))
  have q : (V 602 lx.toNatClampNeg : Int32) = V 602 l1 := by rw [j_5]
  refine lv_eqi q ?_
  have q : (V 602 l1 : Int32) = b2i (decide (L.2 ≠ [])) := g2
  refine lv_eqi q ?_
  refine lv_if_ne (tgt := 49) hx hb dX8_goOn_6 (by decide) (fun c_6 => ?_) (fun c_6 => ?_)
  · have hL2 := b2i_decn c_6
    have hl32 := hL.2.2.1.resolve_left hL2
    refine lv_aload_n hx hb dX8_goOn_49 rfl (lv_at hl 0 rfl) ?_
    refine lv_aload_n hx hb dX8_goOn_50 rfl (lv_at hl 1 rfl) ?_
    refine lv_iload_n hx hb dX8_goOn_51 rfl (lv_at hl 2 rfl) ?_
    refine lv_bipush (v := 32) hx hb dX8_goOn_52 (by decide) ?_
    refine w_cVv (C := RX8) (As := [.ref (E.1 + ca), .int (nI b), .int 32]) (rest := []) ⟨hx, hb, hml, hown, hts⟩ (m_keyIs l ha (by omega) (b := b) (n := 32) (l0 := s0) (hs) (by omega) (by omega) (hs32)) (cwV 3 hts gX8_goOn_X8_keyIs rfl rfl rfl (by decide +kernel) ⟨Nat.le_of_ble_eq_true rfl, Nat.le_of_ble_eq_true rfl⟩) (w_recv (ci := 8) hK hM (by decide) (by decide) (by decide) rfl) hM hK hS rfl hl.1 rfl (lv_room (Nat.le_of_ble_eq_true rfl)) dX8_goOn_54 ⟨Nat.le_of_ble_eq_true rfl, Nat.le_of_ble_eq_true rfl⟩ (fun V54 H locs hp54 hM hS => ?_)
    have F54 : frS V V54 583 591 := (frS.rf).trans (⟨fun k a b => hp54.2.2.1 k (by omega) b, fun i _ a b => hp54.2.2.2 i a b⟩)
    have hk54 := hp54.1
    have hm54 := hp54.2.1
    refine lv_aload_n hx hb dX8_goOn_57 rfl (lv_at hl 0 rfl) ?_
    refine lv_aload_n hx hb dX8_goOn_58 rfl (lv_at hl 0 rfl) ?_
    refine w_gr 8 28 603 (T := TX8) (N := 42) hx hb hts inw8 hown hK.1 hM (by decide) (by decide) (by decide) (by decide) (by decide) rfl (by decide) k81 rfl dX8_goOn_59 ?_
    refine lv_bipush (v := 32) hx hb dX8_goOn_62 (by decide) ?_
    refine lv_iload_n hx hb dX8_goOn_64 rfl (lv_at hl 3 rfl) ?_
    refine lv_imul hx hb dX8_goOn_65 ?_
    have q : (32 * lx : Int32) = nI (32 * l1) := (nMul rfl el)
    refine lv_eqi q ?_
    refine lv_bipush (v := 32) hx hb dX8_goOn_66 (by decide) ?_
    refine w_cVv (C := RX8) (As := [.ref (E.1 + 603), .int (nI (32 * l1)), .int 32]) (rest := []) ⟨hx, hb, hml, hown, hts⟩ (m_add l a603 (by decide) hm54 (b := 32 * l1) (n := 32) (l0 := L.2) ((F54).seg g3 (by omega) (by omega)) (by omega) (by simp <;> omega) (hl32)) (cwV 3 hts gX8_goOn_X8_add rfl rfl rfl (by decide +kernel) ⟨Nat.le_of_ble_eq_true rfl, Nat.le_of_ble_eq_true rfl⟩) (w_recv (ci := 8) hK hM (by decide) (by decide) (by decide) rfl) hM hK hS rfl hl.1 rfl (lv_room (Nat.le_of_ble_eq_true rfl)) dX8_goOn_68 ⟨Nat.le_of_ble_eq_true rfl, Nat.le_of_ble_eq_true rfl⟩ (fun V68 H locs hp68 hM hS => ?_)
    have F68 : frS V V68 583 591 := (F54).trans (hp68.2.toS (by omega) (by decide))
    have hk68 := hk54.keep (hp68.2.2 10 (by decide)) (hp68.2.1 588 (by decide) (by decide))
    have hm68 := hp68.1
    refine lv_aload_n hx hb dX8_goOn_71 rfl (lv_at hl 0 rfl) ?_
    refine w_cVv (C := RX8) (As := []) (rest := []) ⟨hx, hb, hml, hown, hts⟩ (c_X8_sealNow l (fun i hi => by rw [(F68).1 582 (by omega) (by decide)]; exact cN.1 i hi) (fun i hi => by rw [(F68).1 581 (by omega) (by decide)]; exact cN.2.1 i hi) hk68 hm68 (by omega) (by simp <;> omega)) (cwV 0 hts gX8_goOn_X8_sealNow rfl rfl rfl (by decide +kernel) ⟨Nat.le_of_ble_eq_true rfl, Nat.le_of_ble_eq_true rfl⟩) (w_recv (ci := 8) hK hM (by decide) (by decide) (by decide) rfl) hM hK hS rfl hl.1 rfl (lv_room (Nat.le_of_ble_eq_true rfl)) dX8_goOn_72 ⟨Nat.le_of_ble_eq_true rfl, Nat.le_of_ble_eq_true rfl⟩ (fun V72 H locs hp72 hM hS => ?_)
    rw [List.nil_append] at hp72
    have F72 : frS V V72 583 591 := (F68).trans (hp72.2.wide (by decide))
    refine lv_aload_n hx hb dX8_goOn_75 rfl (lv_at hl 0 rfl) ?_
    refine w_gr 8 13 590 (T := TX8) (N := 42) hx hb hts inw8 hown hK.1 hM (by decide) (by decide) (by decide) (by decide) (by decide) rfl (by decide) k37 rfl dX8_goOn_76 ?_
    refine lv_aload_n hx hb dX8_goOn_79 rfl (lv_at hl 0 rfl) ?_
    refine w_gr 8 14 591 (T := TX8) (N := 42) hx hb hts inw8 hown hK.1 hM (by decide) (by decide) (by decide) (by decide) (by decide) rfl (by decide) k40 rfl dX8_goOn_80 ?_
    refine lv_iconst (v := 0) hx hb dX8_goOn_83 (by decide) ?_
    refine w_cSv (As := [.ref (E.1 + 590), .ref (E.1 + 591), .int 0]) (rest := []) ⟨hx, hb, hml, hown, hts⟩ (c_X8_copyTo l a590 a591 (by decide) (by omega) (b := 0) (by omega)) (va_cwS 3 hts gX8_goOn_X8_copyTo rfl rfl rfl (by decide +kernel) ⟨Nat.le_of_ble_eq_true rfl, Nat.le_of_ble_eq_true rfl⟩) hM hK hS rfl hl.1 rfl (lv_room (Nat.le_of_ble_eq_true rfl)) dX8_goOn_84 ⟨Nat.le_of_ble_eq_true rfl, Nat.le_of_ble_eq_true rfl⟩ (fun V84 H locs hp84 hM hS => ?_)
    have F84 : frS V V84 583 591 := (F72).trans (hp84.toS (by decide) (by decide))
    have k84 : seg V84 591 0 (hmac s0 L.2) := cpx_seg2 hp84 (hmac_len _ _) hp72.1
    refine lv_aload_n hx hb dX8_goOn_87 rfl (lv_at hl 0 rfl) ?_
    refine lv_aload_n hx hb dX8_goOn_88 rfl (lv_at hl 1 rfl) ?_
    refine lv_iload_n hx hb dX8_goOn_89 rfl (lv_at hl 2 rfl) ?_
    refine lv_bipush (v := 32) hx hb dX8_goOn_90 (by decide) ?_
    refine w_cVv (C := RX8) (As := [.ref (E.1 + ca), .int (nI b), .int 32]) (rest := []) ⟨hx, hb, hml, hown, hts⟩ (m_keyIs l ha (by omega) (b := b) (n := 32) (l0 := s0) ((F84).seg hs (by omega) (by omega)) (by omega) (by omega) (hs32)) (cwV 3 hts gX8_goOn_X8_keyIs rfl rfl rfl (by decide +kernel) ⟨Nat.le_of_ble_eq_true rfl, Nat.le_of_ble_eq_true rfl⟩) (w_recv (ci := 8) hK hM (by decide) (by decide) (by decide) rfl) hM hK hS rfl hl.1 rfl (lv_room (Nat.le_of_ble_eq_true rfl)) dX8_goOn_92 ⟨Nat.le_of_ble_eq_true rfl, Nat.le_of_ble_eq_true rfl⟩ (fun V92 H locs hp92 hM hS => ?_)
    have F92 : frS V V92 583 591 := (F84).trans (⟨fun k a b => hp92.2.2.1 k (by omega) b, fun i _ a b => hp92.2.2.2 i a b⟩)
    have hk92 := hp92.1
    have hm92 := hp92.2.1
    refine lv_aload_n hx hb dX8_goOn_95 rfl (lv_at hl 0 rfl) ?_
    refine lv_aload_n hx hb dX8_goOn_96 rfl (lv_at hl 0 rfl) ?_
    refine w_gr 8 26 601 (T := TX8) (N := 42) hx hb hts inw8 hown hK.1 hM (by decide) (by decide) (by decide) (by decide) (by decide) rfl (by decide) k75 rfl dX8_goOn_97 ?_
    refine lv_bipush (v := 60) hx hb dX8_goOn_100 (by decide) ?_
    refine lv_iload_n hx hb dX8_goOn_102 rfl (lv_at hl 3 rfl) ?_
    refine lv_imul hx hb dX8_goOn_103 ?_
    have q : (60 * lx : Int32) = nI (60 * l1) := (nMul rfl el)
    refine lv_eqi q ?_
    refine lv_aload_n hx hb dX8_goOn_104 rfl (lv_at hl 0 rfl) ?_
    refine w_gr 8 25 600 (T := TX8) (N := 42) hx hb hts inw8 hown hK.1 hM (by decide) (by decide) (by decide) (by decide) (by decide) rfl (by decide) k72 rfl dX8_goOn_105 ?_
    refine lv_iload_n hx hb dX8_goOn_108 rfl (lv_at hl 3 rfl) ?_
    have i_109 : (lx : Int32) = nI (l1) := el
    refine w_ild (N := 90) hx hb hK.1 hM (by decide) (by decide) (by decide) (by rw [i_109]; exact vp_in_nI (by omega) (by omega)) dX8_goOn_109 ?_
    have j_109 : lx.toNatClampNeg = l1 := (congrArg Int32.toNatClampNeg i_109).trans (nI_clamp (by omega))
    have q : (V92 600 lx.toNatClampNeg : Int32) = V92 600 l1 := by rw [j_109]
    refine lv_eqi q ?_
    have q : (V92 600 l1 : Int32) = nI L.1.length := by rw [F92.1 600 (by omega) (by decide)]; exact g0
    refine lv_eqi q ?_
    refine w_cVv (C := RX8) (As := [.ref (E.1 + 601), .int (nI (60 * l1)), .int (nI L.1.length)]) (rest := []) ⟨hx, hb, hml, hown, hts⟩ (m_add l a601 (by decide) hm92 (b := 60 * l1) (n := L.1.length) (l0 := L.1) ((F92).seg g1 (by omega) (by omega)) (by omega) (by simp <;> omega) (rfl)) (cwV 3 hts gX8_goOn_X8_add rfl rfl rfl (by decide +kernel) ⟨Nat.le_of_ble_eq_true rfl, Nat.le_of_ble_eq_true rfl⟩) (w_recv (ci := 8) hK hM (by decide) (by decide) (by decide) rfl) hM hK hS rfl hl.1 rfl (lv_room (Nat.le_of_ble_eq_true rfl)) dX8_goOn_110 ⟨Nat.le_of_ble_eq_true rfl, Nat.le_of_ble_eq_true rfl⟩ (fun V110 H locs hp110 hM hS => ?_)
    have F110 : frS V V110 583 591 := (F92).trans (hp110.2.toS (by omega) (by decide))
    have hk110 := hk92.keep (hp110.2.2 10 (by decide)) (hp110.2.1 588 (by decide) (by decide))
    have hm110 := hp110.1
    refine lv_aload_n hx hb dX8_goOn_113 rfl (lv_at hl 0 rfl) ?_
    refine w_cVv (C := RX8) (As := []) (rest := []) ⟨hx, hb, hml, hown, hts⟩ (c_X8_sealNow l (fun i hi => by rw [(F110).1 582 (by omega) (by decide)]; exact cN.1 i hi) (fun i hi => by rw [(F110).1 581 (by omega) (by decide)]; exact cN.2.1 i hi) hk110 hm110 (by omega) (by simp <;> omega)) (cwV 0 hts gX8_goOn_X8_sealNow rfl rfl rfl (by decide +kernel) ⟨Nat.le_of_ble_eq_true rfl, Nat.le_of_ble_eq_true rfl⟩) (w_recv (ci := 8) hK hM (by decide) (by decide) (by decide) rfl) hM hK hS rfl hl.1 rfl (lv_room (Nat.le_of_ble_eq_true rfl)) dX8_goOn_114 ⟨Nat.le_of_ble_eq_true rfl, Nat.le_of_ble_eq_true rfl⟩ (fun V114 H locs hp114 hM hS => ?_)
    rw [List.nil_append] at hp114
    have F114 : frS V V114 583 591 := (F110).trans (hp114.2.wide (by decide))
    have k114 : seg V114 591 0 (hmac s0 L.2) := k84.keep (by rw [hp114.2.1 591 (by omega) (by decide), hp110.2.1 591 (by decide) (by decide), hp92.2.2.1 591 (by decide) (by decide)])
    refine lv_aload_n hx hb dX8_goOn_117 rfl (lv_at hl 0 rfl) ?_
    refine lv_aload_n hx hb dX8_goOn_118 rfl (lv_at hl 1 rfl) ?_
    refine lv_iload_n hx hb dX8_goOn_119 rfl (lv_at hl 2 rfl) ?_
    refine lv_bipush (v := 32) hx hb dX8_goOn_120 (by decide) ?_
    refine w_cVv (C := RX8) (As := [.ref (E.1 + ca), .int (nI b), .int 32]) (rest := []) ⟨hx, hb, hml, hown, hts⟩ (m_keyIs l ha (by omega) (b := b) (n := 32) (l0 := s0) ((F114).seg hs (by omega) (by omega)) (by omega) (by omega) (hs32)) (cwV 3 hts gX8_goOn_X8_keyIs rfl rfl rfl (by decide +kernel) ⟨Nat.le_of_ble_eq_true rfl, Nat.le_of_ble_eq_true rfl⟩) (w_recv (ci := 8) hK hM (by decide) (by decide) (by decide) rfl) hM hK hS rfl hl.1 rfl (lv_room (Nat.le_of_ble_eq_true rfl)) dX8_goOn_122 ⟨Nat.le_of_ble_eq_true rfl, Nat.le_of_ble_eq_true rfl⟩ (fun V122 H locs hp122 hM hS => ?_)
    have F122 : frS V V122 583 591 := (F114).trans (⟨fun k a b => hp122.2.2.1 k (by omega) b, fun i _ a b => hp122.2.2.2 i a b⟩)
    have hk122 := hp122.1
    have hm122 := hp122.2.1
    refine lv_aload_n hx hb dX8_goOn_125 rfl (lv_at hl 0 rfl) ?_
    refine lv_aload_n hx hb dX8_goOn_126 rfl (lv_at hl 0 rfl) ?_
    refine w_gr 8 14 591 (T := TX8) (N := 42) hx hb hts inw8 hown hK.1 hM (by decide) (by decide) (by decide) (by decide) (by decide) rfl (by decide) k40 rfl dX8_goOn_127 ?_
    refine lv_iconst (v := 0) hx hb dX8_goOn_130 (by decide) ?_
    refine lv_bipush (v := 32) hx hb dX8_goOn_131 (by decide) ?_
    refine w_cVv (C := RX8) (As := [.ref (E.1 + 591), .int 0, .int 32]) (rest := []) ⟨hx, hb, hml, hown, hts⟩ (m_add l a591 (by decide) hm122 (b := 0) (n := 32) (l0 := hmac s0 L.2) (k114.keep (hp122.2.2.1 591 (by decide) (by decide))) (by omega) (by simp <;> omega) (hmac_len _ _)) (cwV 3 hts gX8_goOn_X8_add rfl rfl rfl (by decide +kernel) ⟨Nat.le_of_ble_eq_true rfl, Nat.le_of_ble_eq_true rfl⟩) (w_recv (ci := 8) hK hM (by decide) (by decide) (by decide) rfl) hM hK hS rfl hl.1 rfl (lv_room (Nat.le_of_ble_eq_true rfl)) dX8_goOn_133 ⟨Nat.le_of_ble_eq_true rfl, Nat.le_of_ble_eq_true rfl⟩ (fun V133 H locs hp133 hM hS => ?_)
    have F133 : frS V V133 583 591 := (F122).trans (hp133.2.toS (by omega) (by decide))
    have hk133 := hk122.keep (hp133.2.2 10 (by decide)) (hp133.2.1 588 (by decide) (by decide))
    have hm133 := hp133.1
    refine lv_aload_n hx hb dX8_goOn_136 rfl (lv_at hl 0 rfl) ?_
    refine lv_aload_n hx hb dX8_goOn_137 rfl (lv_at hl 0 rfl) ?_
    refine w_gr 8 13 590 (T := TX8) (N := 42) hx hb hts inw8 hown hK.1 hM (by decide) (by decide) (by decide) (by decide) (by decide) rfl (by decide) k37 rfl dX8_goOn_138 ?_
    refine lv_iconst (v := 0) hx hb dX8_goOn_141 (by decide) ?_
    refine lv_bipush (v := 32) hx hb dX8_goOn_142 (by decide) ?_
    refine w_cVv (C := RX8) (As := [.ref (E.1 + 590), .int 0, .int 32]) (rest := []) ⟨hx, hb, hml, hown, hts⟩ (m_add l a590 (by decide) hm133 (b := 0) (n := 32) (l0 := hmac s0 L.1) (hp114.1.keep (by rw [hp133.2.1 590 (by decide) (by decide), hp122.2.2.1 590 (by decide) (by decide)])) (by omega) (by simp [hmac_len]) (hmac_len _ _)) (cwV 3 hts gX8_goOn_X8_add rfl rfl rfl (by decide +kernel) ⟨Nat.le_of_ble_eq_true rfl, Nat.le_of_ble_eq_true rfl⟩) (w_recv (ci := 8) hK hM (by decide) (by decide) (by decide) rfl) hM hK hS rfl hl.1 rfl (lv_room (Nat.le_of_ble_eq_true rfl)) dX8_goOn_144 ⟨Nat.le_of_ble_eq_true rfl, Nat.le_of_ble_eq_true rfl⟩ (fun V144 H locs hp144 hM hS => ?_)
    have F144 : frS V V144 583 591 := (F133).trans (hp144.2.toS (by omega) (by decide))
    have hk144 := hk133.keep (hp144.2.2 10 (by decide)) (hp144.2.1 588 (by decide) (by decide))
    have hm144 := hp144.1
    refine lv_aload_n hx hb dX8_goOn_147 rfl (lv_at hl 0 rfl) ?_
    refine w_cVv (C := RX8) (As := []) (rest := []) ⟨hx, hb, hml, hown, hts⟩ (c_X8_sealNow l (fun i hi => by rw [(F144).1 582 (by omega) (by decide)]; exact cN.1 i hi) (fun i hi => by rw [(F144).1 581 (by omega) (by decide)]; exact cN.2.1 i hi) hk144 hm144 (by omega) (by simp [hmac_len])) (cwV 0 hts gX8_goOn_X8_sealNow rfl rfl rfl (by decide +kernel) ⟨Nat.le_of_ble_eq_true rfl, Nat.le_of_ble_eq_true rfl⟩) (w_recv (ci := 8) hK hM (by decide) (by decide) (by decide) rfl) hM hK hS rfl hl.1 rfl (lv_room (Nat.le_of_ble_eq_true rfl)) dX8_goOn_148 ⟨Nat.le_of_ble_eq_true rfl, Nat.le_of_ble_eq_true rfl⟩ (fun V148 H locs hp148 hM hS => ?_)
    rw [List.nil_append] at hp148
    have F148 : frS V V148 583 591 := (F144).trans (hp148.2.wide (by decide))
    refine lv_aload_n hx hb dX8_goOn_151 rfl (lv_at hl 0 rfl) ?_
    refine w_gr 8 13 590 (T := TX8) (N := 42) hx hb hts inw8 hown hK.1 hM (by decide) (by decide) (by decide) (by decide) (by decide) rfl (by decide) k37 rfl dX8_goOn_152 ?_
    refine lv_aload_n hx hb dX8_goOn_155 rfl (lv_at hl 1 rfl) ?_
    refine lv_iload_n hx hb dX8_goOn_156 rfl (lv_at hl 2 rfl) ?_
    refine w_cSv (As := [.ref (E.1 + 590), .ref (E.1 + ca), .int (nI b)]) (rest := []) ⟨hx, hb, hml, hown, hts⟩ (c_X8_copyTo l a590 ha (by omega) (by omega) (b := b) (by omega)) (va_cwS 3 hts gX8_goOn_X8_copyTo rfl rfl rfl (by decide +kernel) ⟨Nat.le_of_ble_eq_true rfl, Nat.le_of_ble_eq_true rfl⟩) hM hK hS rfl hl.1 rfl (lv_room (Nat.le_of_ble_eq_true rfl)) dX8_goOn_157 ⟨Nat.le_of_ble_eq_true rfl, Nat.le_of_ble_eq_true rfl⟩ (fun V157 H locs hp157 hM hS => ?_)
    have hpost : (fun V' => seg V' ca b (goOnL s0 L) ∧ frG V V' ca b) V157 := by
      refine ⟨?_, ⟨fun i x => by rw [hp157.2.1 i x, F148.1 ca (by omega) (by omega)], fun k x y z => by rw [hp157.2.2 k z]; exact F148.1 k x y, fun i x y z => by rw [hp157.2.2 580 (by omega)]; exact F148.2 i x y z⟩⟩
      rw [goOnL, if_neg hL2]
      exact cpx_seg2 hp157 (hmac_len _ _) hp148.1
    exact w_vret (free := AE E) V157 hx hb hret hK hS hM (hpost) hlocks dX8_goOn_160
  · have hL2 := b2i_dec c_6
    refine lv_aload_n hx hb dX8_goOn_9 rfl (lv_at hl 0 rfl) ?_
    refine lv_aload_n hx hb dX8_goOn_10 rfl (lv_at hl 1 rfl) ?_
    refine lv_iload_n hx hb dX8_goOn_11 rfl (lv_at hl 2 rfl) ?_
    refine lv_bipush (v := 32) hx hb dX8_goOn_12 (by decide) ?_
    refine w_cVv (C := RX8) (As := [.ref (E.1 + ca), .int (nI b), .int 32]) (rest := []) ⟨hx, hb, hml, hown, hts⟩ (m_keyIs l ha (by omega) (b := b) (n := 32) (l0 := s0) (hs) (by omega) (by omega) (hs32)) (cwV 3 hts gX8_goOn_X8_keyIs rfl rfl rfl (by decide +kernel) ⟨Nat.le_of_ble_eq_true rfl, Nat.le_of_ble_eq_true rfl⟩) (w_recv (ci := 8) hK hM (by decide) (by decide) (by decide) rfl) hM hK hS rfl hl.1 rfl (lv_room (Nat.le_of_ble_eq_true rfl)) dX8_goOn_14 ⟨Nat.le_of_ble_eq_true rfl, Nat.le_of_ble_eq_true rfl⟩ (fun V14 H locs hp14 hM hS => ?_)
    have F14 : frS V V14 583 591 := (frS.rf).trans (⟨fun k a b => hp14.2.2.1 k (by omega) b, fun i _ a b => hp14.2.2.2 i a b⟩)
    have hk14 := hp14.1
    have hm14 := hp14.2.1
    refine lv_aload_n hx hb dX8_goOn_17 rfl (lv_at hl 0 rfl) ?_
    refine lv_aload_n hx hb dX8_goOn_18 rfl (lv_at hl 0 rfl) ?_
    refine w_gr 8 26 601 (T := TX8) (N := 42) hx hb hts inw8 hown hK.1 hM (by decide) (by decide) (by decide) (by decide) (by decide) rfl (by decide) k75 rfl dX8_goOn_19 ?_
    refine lv_bipush (v := 60) hx hb dX8_goOn_22 (by decide) ?_
    refine lv_iload_n hx hb dX8_goOn_24 rfl (lv_at hl 3 rfl) ?_
    refine lv_imul hx hb dX8_goOn_25 ?_
    have q : (60 * lx : Int32) = nI (60 * l1) := (nMul rfl el)
    refine lv_eqi q ?_
    refine lv_aload_n hx hb dX8_goOn_26 rfl (lv_at hl 0 rfl) ?_
    refine w_gr 8 25 600 (T := TX8) (N := 42) hx hb hts inw8 hown hK.1 hM (by decide) (by decide) (by decide) (by decide) (by decide) rfl (by decide) k72 rfl dX8_goOn_27 ?_
    refine lv_iload_n hx hb dX8_goOn_30 rfl (lv_at hl 3 rfl) ?_
    have i_31 : (lx : Int32) = nI (l1) := el
    refine w_ild (N := 90) hx hb hK.1 hM (by decide) (by decide) (by decide) (by rw [i_31]; exact vp_in_nI (by omega) (by omega)) dX8_goOn_31 ?_
    have j_31 : lx.toNatClampNeg = l1 := (congrArg Int32.toNatClampNeg i_31).trans (nI_clamp (by omega))
    have q : (V14 600 lx.toNatClampNeg : Int32) = V14 600 l1 := by rw [j_31]
    refine lv_eqi q ?_
    have q : (V14 600 l1 : Int32) = nI L.1.length := by rw [F14.1 600 (by omega) (by decide)]; exact g0
    refine lv_eqi q ?_
    refine w_cVv (C := RX8) (As := [.ref (E.1 + 601), .int (nI (60 * l1)), .int (nI L.1.length)]) (rest := []) ⟨hx, hb, hml, hown, hts⟩ (m_add l a601 (by decide) hm14 (b := 60 * l1) (n := L.1.length) (l0 := L.1) ((F14).seg g1 (by omega) (by omega)) (by omega) (by simp <;> omega) (rfl)) (cwV 3 hts gX8_goOn_X8_add rfl rfl rfl (by decide +kernel) ⟨Nat.le_of_ble_eq_true rfl, Nat.le_of_ble_eq_true rfl⟩) (w_recv (ci := 8) hK hM (by decide) (by decide) (by decide) rfl) hM hK hS rfl hl.1 rfl (lv_room (Nat.le_of_ble_eq_true rfl)) dX8_goOn_32 ⟨Nat.le_of_ble_eq_true rfl, Nat.le_of_ble_eq_true rfl⟩ (fun V32 H locs hp32 hM hS => ?_)
    have F32 : frS V V32 583 591 := (F14).trans (hp32.2.toS (by omega) (by decide))
    have hk32 := hk14.keep (hp32.2.2 10 (by decide)) (hp32.2.1 588 (by decide) (by decide))
    have hm32 := hp32.1
    refine lv_aload_n hx hb dX8_goOn_35 rfl (lv_at hl 0 rfl) ?_
    refine w_cVv (C := RX8) (As := []) (rest := []) ⟨hx, hb, hml, hown, hts⟩ (c_X8_sealNow l (fun i hi => by rw [(F32).1 582 (by omega) (by decide)]; exact cN.1 i hi) (fun i hi => by rw [(F32).1 581 (by omega) (by decide)]; exact cN.2.1 i hi) hk32 hm32 (by omega) (by simp <;> omega)) (cwV 0 hts gX8_goOn_X8_sealNow rfl rfl rfl (by decide +kernel) ⟨Nat.le_of_ble_eq_true rfl, Nat.le_of_ble_eq_true rfl⟩) (w_recv (ci := 8) hK hM (by decide) (by decide) (by decide) rfl) hM hK hS rfl hl.1 rfl (lv_room (Nat.le_of_ble_eq_true rfl)) dX8_goOn_36 ⟨Nat.le_of_ble_eq_true rfl, Nat.le_of_ble_eq_true rfl⟩ (fun V36 H locs hp36 hM hS => ?_)
    rw [List.nil_append] at hp36
    have F36 : frS V V36 583 591 := (F32).trans (hp36.2.wide (by decide))
    refine lv_aload_n hx hb dX8_goOn_39 rfl (lv_at hl 0 rfl) ?_
    refine w_gr 8 13 590 (T := TX8) (N := 42) hx hb hts inw8 hown hK.1 hM (by decide) (by decide) (by decide) (by decide) (by decide) rfl (by decide) k37 rfl dX8_goOn_40 ?_
    refine lv_aload_n hx hb dX8_goOn_43 rfl (lv_at hl 1 rfl) ?_
    refine lv_iload_n hx hb dX8_goOn_44 rfl (lv_at hl 2 rfl) ?_
    refine w_cSv (As := [.ref (E.1 + 590), .ref (E.1 + ca), .int (nI b)]) (rest := []) ⟨hx, hb, hml, hown, hts⟩ (c_X8_copyTo l a590 ha (by omega) (by omega) (b := b) (by omega)) (va_cwS 3 hts gX8_goOn_X8_copyTo rfl rfl rfl (by decide +kernel) ⟨Nat.le_of_ble_eq_true rfl, Nat.le_of_ble_eq_true rfl⟩) hM hK hS rfl hl.1 rfl (lv_room (Nat.le_of_ble_eq_true rfl)) dX8_goOn_45 ⟨Nat.le_of_ble_eq_true rfl, Nat.le_of_ble_eq_true rfl⟩ (fun V45 H locs hp45 hM hS => ?_)
    have hpost : (fun V' => seg V' ca b (goOnL s0 L) ∧ frG V V' ca b) V45 := by
      refine ⟨?_, ⟨fun i x => by rw [hp45.2.1 i x, F36.1 ca (by omega) (by omega)], fun k x y z => by rw [hp45.2.2 k z]; exact F36.1 k x y, fun i x y z => by rw [hp45.2.2 580 (by omega)]; exact F36.2 i x y z⟩⟩
      rw [goOnL, if_pos hL2]
      exact cpx_seg2 hp45 (hmac_len _ _) hp36.1
    exact w_vret (free := AE E) V45 hx hb hret hK hS hM (hpost) hlocks dX8_goOn_48

set_option maxHeartbeats 4000000 in
set_option maxRecDepth 100000 in
theorem c_X8_place (l : Launch) {E : En} {V : Vt} (t r : Int32) (i1 : in8 t = true) (i2 : in8 r = true) {cnt0 : Nat} (hc10 : cnt0 < 10) (hz : V 599 (rj t) = nI cnt0) {lr : List Int32} (hr0 : V 594 (rj r) = nI lr.length) (hr1 : seg V 593 (100 * rj r) lr) (hr60 : lr.length ≤ 60) : CI l yX8_place wsX8_place 0 E V [.ref (E.1 + 580), .int t, .int r] (fun v V' => v = nI (10 * rj t + cnt0) ∧ V' 600 (10 * rj t + cnt0) = nI lr.length ∧ seg V' 601 (60 * (10 * rj t + cnt0)) lr ∧ V' 599 (rj t) = nI (cnt0 + 1) ∧ (∀ i, i ≠ (10 * rj t + cnt0) → V' 600 i = V 600 i) ∧ (∀ i, (i < 60 * (10 * rj t + cnt0) ∨ 60 * (10 * rj t + cnt0) + 60 ≤ i) → V' 601 i = V 601 i) ∧ (∀ i, i ≠ rj t → V' 599 i = V 599 i) ∧ ∀ k, k ≠ 599 → k ≠ 600 → k ≠ 601 → V' k = V k) := by
  refine Met.ofW (cc := cX8_place) (maxL := 5) (ret := (some .int)) (by decide) rfl ?_
  intro p e s m args below meth c s₁ B hml hv
  obtain ⟨rfl, hM, hK⟩ := hv
  have hx := B.exec
  have hb := B.bytes
  have hret := B.returns
  have hts := atoms_spec (ws := wsX8_place) B.pre
  have hown : s.vm.findClass RX8 = some m.cls := findClass_of_methodNamed B.named
  have hlocks := B.notSynchronized
  have hsz : s.heap.size = E.1 + 610 := hM.1
  have hS : va_S (AE E) s.heap s.heap [] := va_S.rf
  have inw8 : ∀ w ∈ u_ws RX8 TX8 42, w ∈ wsX8_place := by decide +kernel
  have k69 := hts (.fieldLink RX8 69 "LimitTokensModel" "limits" "[I") (by decide +kernel)
  have k72 := hts (.fieldLink RX8 72 "LimitTokensModel" "textSize" "[I") (by decide +kernel)
  have k49 := hts (.fieldLink RX8 49 "LimitTokensModel" "registerSize" "[I") (by decide +kernel)
  have k75 := hts (.fieldLink RX8 75 "LimitTokensModel" "text" "[I") (by decide +kernel)
  have k46 := hts (.fieldLink RX8 46 "LimitTokensModel" "register" "[I") (by decide +kernel)
  have hl := lv_entry ([.ref (E.1 + 580), .int t, .int r]) (n := 5) (Nat.le_of_ble_eq_true rfl)
  rw [lg_entry_eq]
  generalize (lg_sl ([.ref (E.1 + 580), .int t, .int r]) ++ List.replicate (5 - (lg_sl ([.ref (E.1 + 580), .int t, .int r])).length) Slot.unset).toArray = ls at hl ⊢
  have hl : lv_has ls 5 [(0, .ref (E.1 + 580)), (1, .int t), (2, .int r)] := hl
  have h8t := (in8_r i1).1
  have h8r := (in8_r i2).1
  refine lv_bipush (v := 10) hx hb dX8_place_0 (by decide) ?_
  refine lv_iload_n hx hb dX8_place_2 rfl (lv_at hl 1 rfl) ?_
  refine lv_imul hx hb dX8_place_3 ?_
  have q : (10 * t : Int32) = nI (10 * (rj t)) := (nMul rfl (in8_r i1).2)
  refine lv_eqi q ?_
  refine lv_aload_n hx hb dX8_place_4 rfl (lv_at hl 0 rfl) ?_
  refine w_gr 8 24 599 (T := TX8) (N := 42) hx hb hts inw8 hown hK.1 hM (by decide) (by decide) (by decide) (by decide) (by decide) rfl (by decide) k69 rfl dX8_place_5 ?_
  refine lv_iload_n hx hb dX8_place_8 rfl (lv_at hl 1 rfl) ?_
  have i_9 : (t : Int32) = nI (rj t) := (in8_r i1).2
  refine w_ild (N := 9) hx hb hK.1 hM (by decide) (by decide) (by decide) (by rw [i_9]; exact vp_in_nI (by omega) (by omega)) dX8_place_9 ?_
  have j_9 : t.toNatClampNeg = rj t := (congrArg Int32.toNatClampNeg i_9).trans (nI_clamp (by omega))
  have q : (V 599 t.toNatClampNeg : Int32) = V 599 (rj t) := by rw [j_9]
  refine lv_eqi q ?_
  have q : (V 599 (rj t) : Int32) = nI cnt0 := hz
  refine lv_eqi q ?_
  refine lv_iadd hx hb dX8_place_10 ?_
  have q : ((nI (10 * (rj t))) + (nI cnt0) : Int32) = nI ((10 * (rj t)) + cnt0) := (nAdd rfl rfl)
  refine lv_eqi q ?_
  refine lv_topi (fun x3_11 ex3_11 => ?_)
  refine lv_istore_n (lv' := [(3, .int x3_11), (0, .ref (E.1 + 580)), (1, .int t), (2, .int r)]) hx hb dX8_place_11 rfl hl (by decide) rfl (fun ls hl => ?_)
  refine lv_aload_n hx hb dX8_place_12 rfl (lv_at hl 1 rfl) ?_
  refine w_gr 8 25 600 (T := TX8) (N := 42) hx hb hts inw8 hown hK.1 hM (by decide) (by decide) (by decide) (by decide) (by decide) rfl (by decide) k72 rfl dX8_place_13 ?_
  refine lv_iload_n hx hb dX8_place_16 rfl (lv_at hl 0 rfl) ?_
  refine lv_aload_n hx hb dX8_place_17 rfl (lv_at hl 1 rfl) ?_
  refine w_gr 8 17 594 (T := TX8) (N := 42) hx hb hts inw8 hown hK.1 hM (by decide) (by decide) (by decide) (by decide) (by decide) rfl (by decide) k49 rfl dX8_place_18 ?_
  refine lv_iload_n hx hb dX8_place_21 rfl (lv_at hl 3 rfl) ?_
  have i_22 : (r : Int32) = nI (rj r) := (in8_r i2).2
  refine w_ild (N := 8) hx hb hK.1 hM (by decide) (by decide) (by decide) (by rw [i_22]; exact vp_in_nI (by omega) (by omega)) dX8_place_22 ?_
  have j_22 : r.toNatClampNeg = rj r := (congrArg Int32.toNatClampNeg i_22).trans (nI_clamp (by omega))
  have q : (V 594 r.toNatClampNeg : Int32) = V 594 (rj r) := by rw [j_22]
  refine lv_eqi q ?_
  have q : (V 594 (rj r) : Int32) = nI lr.length := hr0
  refine lv_eqi q ?_
  have i_23 : (x3_11 : Int32) = nI ((10 * (rj t)) + cnt0) := (ex3_11.trans rfl)
  have j_23 : x3_11.toNatClampNeg = (10 * (rj t)) + cnt0 := (congrArg Int32.toNatClampNeg i_23).trans (nI_clamp (by omega))
  refine w_ist (N := 90) hx hb hK.1 hM hS (by decide) (by decide) (by decide) (by rw [i_23]; exact vp_in_nI (by omega) (by omega)) dX8_place_23 (fun H locs hM hS => ?_)
  rw [j_23] at hM
  generalize hV23 : up2 V 600 ((10 * (rj t)) + cnt0) (nI lr.length) = V23 at hM
  refine lv_iconst (v := 0) hx hb dX8_place_24 (by decide) ?_
  refine lv_istore (lv' := [(4, .int 0), (3, .int x3_11), (0, .ref (E.1 + 580)), (1, .int t), (2, .int r)]) hx hb dX8_place_25 hl (by decide) rfl (fun ls hl => ?_)
  have loop27 : ∀ (fu : Nat) (Vw : Vt) (H : Heap) (locs : List Loc) (ls : Array Slot) (j : Nat) (hj : j ≤ lr.length) (hw : cpx Vw V23 601 (60 * (10 * rj t + cnt0)) j (fun i => lr.getD i 0)), lr.length - j < fu → Wd E Vw H → va_S (AE E) s.heap H locs → lv_has ls 5 [(0, .ref (E.1 + 580)), (1, .int t), (2, .int r), (3, .int x3_11), (4, .int (nI j))] → W p l e (headSpec wsX8_place (rmD 0)).room s m ([.ref (E.1 + 580), .int t, .int r] : List Value).toArray below meth c H locs 0 0 (MQ below (QI E (fun V' => Wd E V') (fun v V' => v = nI (10 * rj t + cnt0) ∧ V' 600 (10 * rj t + cnt0) = nI lr.length ∧ seg V' 601 (60 * (10 * rj t + cnt0)) lr ∧ V' 599 (rj t) = nI (cnt0 + 1) ∧ (∀ i, i ≠ (10 * rj t + cnt0) → V' 600 i = V 600 i) ∧ (∀ i, (i < 60 * (10 * rj t + cnt0) ∨ 60 * (10 * rj t + cnt0) + 60 ≤ i) → V' 601 i = V 601 i) ∧ (∀ i, i ≠ rj t → V' 599 i = V 599 i) ∧ ∀ k, k ≠ 599 → k ≠ 600 → k ≠ 601 → V' k = V k)) ([.ref (E.1 + 580), .int t, .int r] : List Value).toArray s 0 0 (AE E)) (F0 m 27 ls []) := by
    intro fu
    induction fu with
    | zero => intros; omega
    | succ fu ih27 =>
      intro Vw H locs ls j hj hw hfu hM hS hl
      refine lv_iload hx hb dX8_place_27 (lv_at hl 4 rfl) ?_
      refine lv_aload_n hx hb dX8_place_29 rfl (lv_at hl 0 rfl) ?_
      refine w_gr 8 25 600 (T := TX8) (N := 42) hx hb hts inw8 hown hK.1 hM (by decide) (by decide) (by decide) (by decide) (by decide) rfl (by decide) k72 rfl dX8_place_30 ?_
      refine lv_iload_n hx hb dX8_place_33 rfl (lv_at hl 3 rfl) ?_
      have i_34 : (x3_11 : Int32) = nI (10 * rj t + cnt0) := ex3_11
      refine w_ild (N := 90) hx hb hK.1 hM (by decide) (by decide) (by decide) (by rw [i_34]; exact vp_in_nI (by omega) (by omega)) dX8_place_34 ?_
      have j_34 : x3_11.toNatClampNeg = 10 * rj t + cnt0 := (congrArg Int32.toNatClampNeg i_34).trans (nI_clamp (by omega))
      have q : (Vw 600 x3_11.toNatClampNeg : Int32) = Vw 600 (10 * rj t + cnt0) := by rw [j_34]
      refine lv_eqi q ?_
      have q : (Vw 600 (10 * rj t + cnt0) : Int32) = nI lr.length := by rw [hw.2.2 600 (by decide), ← hV23, up2_s]
      refine lv_eqi q ?_
      refine lv_icmp_ge (tgt := 68) hx hb dX8_place_35 (by decide) (fun c_35 => ?_) (fun c_35 => ?_)
      · have n_35 : lr.length ≤ j := (nLe (a := lr.length) (b := j) rfl rfl (by omega) (by omega)).mp c_35
        refine lv_aload_n hx hb dX8_place_68 rfl (lv_at hl 0 rfl) ?_
        refine w_gr 8 24 599 (T := TX8) (N := 42) hx hb hts inw8 hown hK.1 hM (by decide) (by decide) (by decide) (by decide) (by decide) rfl (by decide) k69 rfl dX8_place_69 ?_
        refine lv_iload_n hx hb dX8_place_72 rfl (lv_at hl 1 rfl) ?_
        refine lv_dup2_11 hx hb dX8_place_73 rfl rfl ?_
        have i_74 : (t : Int32) = nI (rj t) := (in8_r i1).2
        refine w_ild (N := 9) hx hb hK.1 hM (by decide) (by decide) (by decide) (by rw [i_74]; exact vp_in_nI (by omega) (by omega)) dX8_place_74 ?_
        have j_74 : t.toNatClampNeg = rj t := (congrArg Int32.toNatClampNeg i_74).trans (nI_clamp (by omega))
        have q : (Vw 599 t.toNatClampNeg : Int32) = Vw 599 (rj t) := by rw [j_74]
        refine lv_eqi q ?_
        have q : (Vw 599 (rj t) : Int32) = nI cnt0 := by rw [hw.2.2 599 (by decide), ← hV23, up2_k _ _ (by decide)]; exact hz
        refine lv_eqi q ?_
        refine lv_iconst (v := 1) hx hb dX8_place_75 (by decide) ?_
        refine lv_iadd hx hb dX8_place_76 ?_
        have q : ((nI cnt0) + 1 : Int32) = nI (cnt0 + 1) := (nAdd rfl rfl)
        refine lv_eqi q ?_
        have i_77 : (t : Int32) = nI (rj t) := (in8_r i1).2
        have j_77 : t.toNatClampNeg = rj t := (congrArg Int32.toNatClampNeg i_77).trans (nI_clamp (by omega))
        refine w_ist (N := 9) hx hb hK.1 hM hS (by decide) (by decide) (by decide) (by rw [i_77]; exact vp_in_nI (by omega) (by omega)) dX8_place_77 (fun H locs hM hS => ?_)
        rw [j_77] at hM
        generalize hV77 : up2 Vw 599 (rj t) (nI (cnt0 + 1)) = V77 at hM
        refine lv_iload_n hx hb dX8_place_78 rfl (lv_at hl 3 rfl) ?_
        have hpost : (fun v V' => v = nI (10 * rj t + cnt0) ∧ V' 600 (10 * rj t + cnt0) = nI lr.length ∧ seg V' 601 (60 * (10 * rj t + cnt0)) lr ∧ V' 599 (rj t) = nI (cnt0 + 1) ∧ (∀ i, i ≠ (10 * rj t + cnt0) → V' 600 i = V 600 i) ∧ (∀ i, (i < 60 * (10 * rj t + cnt0) ∨ 60 * (10 * rj t + cnt0) + 60 ≤ i) → V' 601 i = V 601 i) ∧ (∀ i, i ≠ rj t → V' 599 i = V 599 i) ∧ ∀ k, k ≠ 599 → k ≠ 600 → k ≠ 601 → V' k = V k) x3_11 V77 := by
          have e23 : ∀ k, k ≠ 600 → V23 k = V k := fun k a => by rw [← hV23, up2_k _ _ a]
          have e77 : ∀ k, k ≠ 599 → V77 k = Vw k := fun k a => by rw [← hV77, up2_k _ _ a]
          exact ⟨ex3_11, by rw [e77 600 (by decide), hw.2.2 600 (by decide), ← hV23, up2_s], (hw.seg (by omega) (fun _ _ => rfl)).keep (e77 601 (by decide)), by rw [← hV77, up2_s], fun i a => by rw [e77 600 (by decide), hw.2.2 600 (by decide), ← hV23, up2_o _ _ a], fun i a => by rw [e77 601 (by decide), hw.2.1 i (by omega), e23 601 (by decide)], fun i a => by rw [← hV77, up2_o _ _ a, hw.2.2 599 (by decide), e23 599 (by decide)], fun k a b c => by rw [e77 k a, hw.2.2 k c, e23 k b]⟩
        exact w_iret V77 hx hb hret hK hS hM (hpost) hlocks dX8_place_79
      · have n_35 : ¬ lr.length ≤ j := fun q9 => c_35 ((nLe (a := lr.length) (b := j) rfl rfl (by omega) (by omega)).mpr q9)
        refine lv_aload_n hx hb dX8_place_38 rfl (lv_at hl 0 rfl) ?_
        refine w_gr 8 26 601 (T := TX8) (N := 42) hx hb hts inw8 hown hK.1 hM (by decide) (by decide) (by decide) (by decide) (by decide) rfl (by decide) k75 rfl dX8_place_39 ?_
        refine lv_bipush (v := 60) hx hb dX8_place_42 (by decide) ?_
        refine lv_iload_n hx hb dX8_place_44 rfl (lv_at hl 3 rfl) ?_
        refine lv_imul hx hb dX8_place_45 ?_
        have q : (60 * x3_11 : Int32) = nI (60 * (10 * rj t + cnt0)) := (nMul rfl ex3_11)
        refine lv_eqi q ?_
        refine lv_iload hx hb dX8_place_46 (lv_at hl 4 rfl) ?_
        refine lv_iadd hx hb dX8_place_48 ?_
        have q : ((nI (60 * (10 * rj t + cnt0))) + (nI j) : Int32) = nI ((60 * (10 * rj t + cnt0)) + j) := (nAdd rfl rfl)
        refine lv_eqi q ?_
        refine lv_aload_n hx hb dX8_place_49 rfl (lv_at hl 0 rfl) ?_
        refine w_gr 8 16 593 (T := TX8) (N := 42) hx hb hts inw8 hown hK.1 hM (by decide) (by decide) (by decide) (by decide) (by decide) rfl (by decide) k46 rfl dX8_place_50 ?_
        refine lv_bipush (v := 100) hx hb dX8_place_53 (by decide) ?_
        refine lv_iload_n hx hb dX8_place_55 rfl (lv_at hl 2 rfl) ?_
        refine lv_imul hx hb dX8_place_56 ?_
        have q : (100 * r : Int32) = nI (100 * (rj r)) := (nMul rfl (in8_r i2).2)
        refine lv_eqi q ?_
        refine lv_iload hx hb dX8_place_57 (lv_at hl 4 rfl) ?_
        refine lv_iadd hx hb dX8_place_59 ?_
        have q : ((nI (100 * (rj r))) + (nI j) : Int32) = nI ((100 * (rj r)) + j) := (nAdd rfl rfl)
        refine lv_eqi q ?_
        have i_60 : (nI ((100 * (rj r)) + j) : Int32) = nI ((100 * (rj r)) + j) := rfl
        refine w_ild (N := 800) hx hb hK.1 hM (by decide) (by decide) (by decide) (by rw [i_60]; exact vp_in_nI (by omega) (by omega)) dX8_place_60 ?_
        have j_60 : (nI ((100 * (rj r)) + j)).toNatClampNeg = (100 * (rj r)) + j := (congrArg Int32.toNatClampNeg i_60).trans (nI_clamp (by omega))
        have q : (Vw 593 (nI ((100 * (rj r)) + j)).toNatClampNeg : Int32) = Vw 593 ((100 * (rj r)) + j) := by rw [j_60]
        refine lv_eqi q ?_
        have q : (Vw 593 ((100 * (rj r)) + j) : Int32) = lr.getD j 0 := by rw [hw.2.2 593 (by decide), ← hV23, up2_k _ _ (by decide)]; exact hr1 j (by omega)
        refine lv_eqi q ?_
        have i_61 : (nI ((60 * (10 * rj t + cnt0)) + j) : Int32) = nI ((60 * (10 * rj t + cnt0)) + j) := rfl
        have j_61 : (nI ((60 * (10 * rj t + cnt0)) + j)).toNatClampNeg = (60 * (10 * rj t + cnt0)) + j := (congrArg Int32.toNatClampNeg i_61).trans (nI_clamp (by omega))
        refine w_ist (N := 5400) hx hb hK.1 hM hS (by decide) (by decide) (by decide) (by rw [i_61]; exact vp_in_nI (by omega) (by omega)) dX8_place_61 (fun H locs hM hS => ?_)
        rw [j_61] at hM
        generalize hV61 : up2 Vw 601 ((60 * (10 * rj t + cnt0)) + j) (lr.getD j 0) = V61 at hM
        obtain ⟨x4_62, ex4_62⟩ : ∃ y : Int32, y = (nI j) + 1 := ⟨_, rfl⟩
        refine lv_iinc (v := x4_62) (lv' := [(4, .int x4_62), (0, .ref (E.1 + 580)), (1, .int t), (2, .int r), (3, .int x3_11)]) hx hb dX8_place_62 hl (k := 4) rfl (by rw [ex4_62]; rfl) (by decide) rfl (fun ls hl => ?_)
        refine lv_goto (tgt := 27) hx hb dX8_place_65 (by decide) ?_
        rw [show x4_62 = nI (j + 1) from (ex4_62.trans (nAdd rfl rfl))] at hl
        exact ih27 V61 _ _ _ (j + 1) (by omega) (hw.s hV61 rfl rfl) (by omega) hM hS (lv_sub hl [1, 2, 3, 4, 0] rfl)
  exact loop27 _ V23 _ _ _ 0 (Nat.zero_le _) (cpx.z _ _ _ _) (Nat.lt_succ_self _) hM hS (lv_sub hl [2, 3, 4, 1, 0] rfl)

set_option maxHeartbeats 4000000 in
set_option maxRecDepth 100000 in
theorem c_X8_isSame (l : Launch) {E : En} {V : Vt} {ca na : Nat} (ha : isA ca na) (h32 : 32 ≤ na) {la lb : List Int32} (hs : seg V ca 0 la) (hl1 : la.length = 32) {t1 : Nat} (ht9 : t1 < 9) (hs2 : seg V 604 (32 * t1) lb) (hl2 : lb.length = 32) {t : Int32} (et : t = nI t1) : CI l yX8_isSame wsX8_isSame 0 E V [.ref (E.1 + 580), .ref (E.1 + ca), .int t] (fun v V' => v = b2i (decide (la = lb)) ∧ V' = V) := by
  refine Met.ofW (cc := cX8_isSame) (maxL := 5) (ret := (some .boolean)) (by decide) rfl ?_
  intro p e s m args below meth c s₁ B hml hv
  obtain ⟨rfl, hM, hK⟩ := hv
  have hx := B.exec
  have hb := B.bytes
  have hret := B.returns
  have hts := atoms_spec (ws := wsX8_isSame) B.pre
  have hown : s.vm.findClass RX8 = some m.cls := findClass_of_methodNamed B.named
  have hlocks := B.notSynchronized
  have hsz : s.heap.size = E.1 + 610 := hM.1
  have hS : va_S (AE E) s.heap s.heap [] := va_S.rf
  have inw8 : ∀ w ∈ u_ws RX8 TX8 42, w ∈ wsX8_isSame := by decide +kernel
  have k84 := hts (.fieldLink RX8 84 "LimitTokensModel" "sign" "[I") (by decide +kernel)
  have hl := lv_entry ([.ref (E.1 + 580), .ref (E.1 + ca), .int t]) (n := 5) (Nat.le_of_ble_eq_true rfl)
  rw [lg_entry_eq]
  generalize (lg_sl ([.ref (E.1 + 580), .ref (E.1 + ca), .int t]) ++ List.replicate (5 - (lg_sl ([.ref (E.1 + 580), .ref (E.1 + ca), .int t])).length) Slot.unset).toArray = ls at hl ⊢
  have hl : lv_has ls 5 [(0, .ref (E.1 + 580)), (1, .ref (E.1 + ca)), (2, .int t)] := hl
  have hna := ha.c
  refine lv_iconst (v := 1) hx hb dX8_isSame_0 (by decide) ?_
  refine lv_istore_n (lv' := [(3, .int 1), (0, .ref (E.1 + 580)), (1, .ref (E.1 + ca)), (2, .int t)]) hx hb dX8_isSame_1 rfl hl (by decide) rfl (fun ls hl => ?_)
  refine lv_iconst (v := 0) hx hb dX8_isSame_2 (by decide) ?_
  refine lv_istore (lv' := [(4, .int 0), (3, .int 1), (0, .ref (E.1 + 580)), (1, .ref (E.1 + ca)), (2, .int t)]) hx hb dX8_isSame_3 hl (by decide) rfl (fun ls hl => ?_)
  have loop5 : ∀ (fu : Nat) (Vw : Vt) (H : Heap) (locs : List Loc) (ls : Array Slot) (j : Nat) (v3 : Int32) (hj : j ≤ 32) (ev : v3 = b2i (decide (la.take j = lb.take j))) (heV : Vw = V), 32 - j < fu → Wd E Vw H → va_S (AE E) s.heap H locs → lv_has ls 5 [(0, .ref (E.1 + 580)), (1, .ref (E.1 + ca)), (2, .int t), (3, .int v3), (4, .int (nI j))] → W p l e (headSpec wsX8_isSame (rmD 0)).room s m ([.ref (E.1 + 580), .ref (E.1 + ca), .int t] : List Value).toArray below meth c H locs 0 0 (MQ below (QI E (fun V' => Wd E V') (fun v V' => v = b2i (decide (la = lb)) ∧ V' = V)) ([.ref (E.1 + 580), .ref (E.1 + ca), .int t] : List Value).toArray s 0 0 (AE E)) (F0 m 5 ls []) := by
    intro fu
    induction fu with
    | zero => intros; omega
    | succ fu ih5 =>
      intro Vw H locs ls j v3 hj ev heV hfu hM hS hl
      refine lv_iload hx hb dX8_isSame_5 (lv_at hl 4 rfl) ?_
      refine lv_bipush (v := 32) hx hb dX8_isSame_7 (by decide) ?_
      refine lv_icmp_ge (tgt := 47) hx hb dX8_isSame_9 (by decide) (fun c_9 => ?_) (fun c_9 => ?_)
      · have n_9 : 32 ≤ j := (nLe (a := 32) (b := j) rfl rfl (by omega) (by omega)).mp c_9
        refine lv_iload_n hx hb dX8_isSame_47 rfl (lv_at hl 3 rfl) ?_
        have hpost : (fun v V' => v = b2i (decide (la = lb)) ∧ V' = V) v3 Vw := by
          have hj32 : j = 32 := by omega
          subst hj32
          rw [dec_all hl1 hl2] at ev
          exact ⟨ev, heV⟩
        exact w_zret Vw hx hb hret hK hS hM (hpost) (by rw [ev]; exact b2i_nar _) hlocks dX8_isSame_48
      · have n_9 : ¬ 32 ≤ j := fun q9 => c_9 ((nLe (a := 32) (b := j) rfl rfl (by omega) (by omega)).mpr q9)
        refine lv_iload_n hx hb dX8_isSame_12 rfl (lv_at hl 3 rfl) ?_
        refine lv_if_eq (tgt := 39) hx hb dX8_isSame_13 (by decide) (fun c_13 => ?_) (fun c_13 => ?_)
        · have d1 := b2i_eq0 (ev.symm.trans c_13)
          refine lv_iconst (v := 0) hx hb dX8_isSame_39 (by decide) ?_
          refine lv_istore_n (lv' := [(3, .int 0), (0, .ref (E.1 + 580)), (1, .ref (E.1 + ca)), (2, .int t), (4, .int (nI j))]) hx hb dX8_isSame_40 rfl hl (by decide) rfl (fun ls hl => ?_)
          obtain ⟨x4_41, ex4_41⟩ : ∃ y : Int32, y = (nI j) + 1 := ⟨_, rfl⟩
          refine lv_iinc (v := x4_41) (lv' := [(4, .int x4_41), (3, .int 0), (0, .ref (E.1 + 580)), (1, .ref (E.1 + ca)), (2, .int t)]) hx hb dX8_isSame_41 hl (k := 4) rfl (by rw [ex4_41]; rfl) (by decide) rfl (fun ls hl => ?_)
          refine lv_goto (tgt := 5) hx hb dX8_isSame_44 (by decide) ?_
          rw [show x4_41 = nI (j + 1) from (ex4_41.trans (nAdd rfl rfl))] at hl
          exact ih5 Vw _ _ _ (j + 1) _ (by omega) (by rw [dec_s (by omega) (by omega), d1]; first | (rw [d2]; rfl) | rfl) heV (by omega) hM hS (lv_sub hl [2, 3, 4, 1, 0] rfl)
        · have d1 := b2i_ne0 (by rw [← ev]; exact c_13)
          refine lv_aload_n hx hb dX8_isSame_16 rfl (lv_at hl 1 rfl) ?_
          refine lv_iload hx hb dX8_isSame_17 (lv_at hl 4 rfl) ?_
          have i_19 : (nI j : Int32) = nI (j) := rfl
          refine w_ild (N := na) hx hb hK.1 hM ha.lt ha.k ha.n (by rw [i_19]; exact vp_in_nI (by omega) (by omega)) dX8_isSame_19 ?_
          have j_19 : (nI j).toNatClampNeg = j := (congrArg Int32.toNatClampNeg i_19).trans (nI_clamp (by omega))
          have q : (Vw ca (nI j).toNatClampNeg : Int32) = Vw ca j := by rw [j_19]
          refine lv_eqi q ?_
          have q : (Vw ca j : Int32) = la.getD j 0 := by rw [heV]; exact hs.z (by omega)
          refine lv_eqi q ?_
          refine lv_aload_n hx hb dX8_isSame_20 rfl (lv_at hl 0 rfl) ?_
          refine w_gr 8 29 604 (T := TX8) (N := 42) hx hb hts inw8 hown hK.1 hM (by decide) (by decide) (by decide) (by decide) (by decide) rfl (by decide) k84 rfl dX8_isSame_21 ?_
          refine lv_bipush (v := 32) hx hb dX8_isSame_24 (by decide) ?_
          refine lv_iload_n hx hb dX8_isSame_26 rfl (lv_at hl 2 rfl) ?_
          refine lv_imul hx hb dX8_isSame_27 ?_
          have q : (32 * t : Int32) = nI (32 * t1) := (nMul rfl et)
          refine lv_eqi q ?_
          refine lv_iload hx hb dX8_isSame_28 (lv_at hl 4 rfl) ?_
          refine lv_iadd hx hb dX8_isSame_30 ?_
          have q : ((nI (32 * t1)) + (nI j) : Int32) = nI ((32 * t1) + j) := (nAdd rfl rfl)
          refine lv_eqi q ?_
          have i_31 : (nI ((32 * t1) + j) : Int32) = nI ((32 * t1) + j) := rfl
          refine w_ild (N := 288) hx hb hK.1 hM (by decide) (by decide) (by decide) (by rw [i_31]; exact vp_in_nI (by omega) (by omega)) dX8_isSame_31 ?_
          have j_31 : (nI ((32 * t1) + j)).toNatClampNeg = (32 * t1) + j := (congrArg Int32.toNatClampNeg i_31).trans (nI_clamp (by omega))
          have q : (Vw 604 (nI ((32 * t1) + j)).toNatClampNeg : Int32) = Vw 604 ((32 * t1) + j) := by rw [j_31]
          refine lv_eqi q ?_
          have q : (Vw 604 ((32 * t1) + j) : Int32) = lb.getD j 0 := by rw [heV]; exact hs2 j (by omega)
          refine lv_eqi q ?_
          refine lv_icmp_ne (tgt := 39) hx hb dX8_isSame_32 (by decide) (fun c_32 => ?_) (fun c_32 => ?_)
          · have d2 := decide_eq_false c_32
            refine lv_iconst (v := 0) hx hb dX8_isSame_39 (by decide) ?_
            refine lv_istore_n (lv' := [(3, .int 0), (0, .ref (E.1 + 580)), (1, .ref (E.1 + ca)), (2, .int t), (4, .int (nI j))]) hx hb dX8_isSame_40 rfl hl (by decide) rfl (fun ls hl => ?_)
            obtain ⟨x4_41, ex4_41⟩ : ∃ y : Int32, y = (nI j) + 1 := ⟨_, rfl⟩
            refine lv_iinc (v := x4_41) (lv' := [(4, .int x4_41), (3, .int 0), (0, .ref (E.1 + 580)), (1, .ref (E.1 + ca)), (2, .int t)]) hx hb dX8_isSame_41 hl (k := 4) rfl (by rw [ex4_41]; rfl) (by decide) rfl (fun ls hl => ?_)
            refine lv_goto (tgt := 5) hx hb dX8_isSame_44 (by decide) ?_
            rw [show x4_41 = nI (j + 1) from (ex4_41.trans (nAdd rfl rfl))] at hl
            exact ih5 Vw _ _ _ (j + 1) _ (by omega) (by rw [dec_s (by omega) (by omega), d1]; first | (rw [d2]; rfl) | rfl) heV (by omega) hM hS (lv_sub hl [2, 3, 4, 1, 0] rfl)
          · have d2 := decide_eq_true c_32
            refine lv_iconst (v := 1) hx hb dX8_isSame_35 (by decide) ?_
            refine lv_goto (tgt := 40) hx hb dX8_isSame_36 (by decide) ?_
            refine lv_istore_n (lv' := [(3, .int 1), (0, .ref (E.1 + 580)), (1, .ref (E.1 + ca)), (2, .int t), (4, .int (nI j))]) hx hb dX8_isSame_40 rfl hl (by decide) rfl (fun ls hl => ?_)
            obtain ⟨x4_41, ex4_41⟩ : ∃ y : Int32, y = (nI j) + 1 := ⟨_, rfl⟩
            refine lv_iinc (v := x4_41) (lv' := [(4, .int x4_41), (3, .int 1), (0, .ref (E.1 + 580)), (1, .ref (E.1 + ca)), (2, .int t)]) hx hb dX8_isSame_41 hl (k := 4) rfl (by rw [ex4_41]; rfl) (by decide) rfl (fun ls hl => ?_)
            refine lv_goto (tgt := 5) hx hb dX8_isSame_44 (by decide) ?_
            rw [show x4_41 = nI (j + 1) from (ex4_41.trans (nAdd rfl rfl))] at hl
            exact ih5 Vw _ _ _ (j + 1) _ (by omega) (by rw [dec_s (by omega) (by omega), d1]; first | (rw [d2]; rfl) | rfl) heV (by omega) hM hS (lv_sub hl [2, 3, 4, 1, 0] rfl)
  exact loop5 _ V _ _ _ 0 1 (Nat.zero_le _) (by simp [b2i]) (rfl) (Nat.lt_succ_self _) hM hS (lv_sub hl [2, 3, 4, 1, 0] rfl)
