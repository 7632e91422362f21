-- needs: 44 430 450 451 452 453 454 455 456 457 460 462 463 464 466 470 480 481
set_option maxHeartbeats 4000000 in
set_option maxRecDepth 100000 in
theorem c_X8_endWalk (l : Launch) {E : En} {V : Vt} {σ : St} {pt : Nat} {T : Tk} (hpt : pt < 8) (hT : σ.2.1 pt = some T) {o i : Nat} {s1 : List Int32} {sr : List WF} {m1 bg : Nat} (hw : wM V σ ((o, i, s1) :: sr) m1 bg) {t : Int32} (et : t = nI pt)  {O1 : Tk} (hie : i = O1.2.2.length) (hO1 : σ.2.1 o = some O1) {dx ow : Int32} (ed : dx = nI sr.length) (eo : ow = nI o) : CI l yX8_endWalk wsX8_endWalk 6 E V [.ref (E.1 + 580), .int t, .int dx, .int ow] (fun v V' => wPost σ pt T ((o, i, s1) :: sr) m1 bg V v V') := by
  refine Met.ofW (cc := cX8_endWalk) (maxL := 5) (ret := (some .int)) (by decide) rfl ?_
  intro p e s m args below meth c s₁ B hml hv
  obtain ⟨rfl, hM, hK⟩ := hv
  have hx := B.exec
  have hb := B.bytes
  have hret := B.returns
  have hts := atoms_spec (ws := wsX8_endWalk) B.pre
  have hown : s.vm.findClass RX8 = some m.cls := findClass_of_methodNamed B.named
  have hlocks := B.notSynchronized
  have hsz : s.heap.size = E.1 + 610 := hM.1
  have hS : va_S (AE E) s.heap s.heap [] := va_S.rf
  have inw8 : ∀ w ∈ u_ws RX8 TX8 42, w ∈ wsX8_endWalk := by decide +kernel
  have k43 := hts (.fieldLink RX8 43 "LimitTokensModel" "zeros" "[I") (by decide +kernel)
  have k84 := hts (.fieldLink RX8 84 "LimitTokensModel" "sign" "[I") (by decide +kernel)
  have k96 := hts (.fieldLink RX8 96 "LimitTokensModel" "pile" "[I") (by decide +kernel)
  have k195 := hts (.fieldLink RX8 195 "LimitTokensModel" "depth" "I") (by decide +kernel)
  have k37 := hts (.fieldLink RX8 37 "LimitTokensModel" "out" "[I") (by decide +kernel)
  have k90 := hts (.fieldLink RX8 90 "LimitTokensModel" "walker" "[I") (by decide +kernel)
  have k93 := hts (.fieldLink RX8 93 "LimitTokensModel" "step" "[I") (by decide +kernel)
  have k69 := hts (.fieldLink RX8 69 "LimitTokensModel" "limits" "[I") (by decide +kernel)
  have hl := lv_entry ([.ref (E.1 + 580), .int t, .int dx, .int ow]) (n := 5) (Nat.le_of_ble_eq_true rfl)
  rw [lg_entry_eq]
  generalize (lg_sl ([.ref (E.1 + 580), .int t, .int dx, .int ow]) ++ List.replicate (5 - (lg_sl ([.ref (E.1 + 580), .int t, .int dx, .int ow])).length) Slot.unset).toArray = ls at hl ⊢
  have hl : lv_has ls 5 [(0, .ref (E.1 + 580)), (1, .int t), (2, .int dx), (3, .int ow)] := hl
  obtain ⟨hC, h36, h31, hst, ⟨hm, hcn⟩, hwk, hwt⟩ := id hw
  have hcn : cnt m1 + (sr.length + 1) ≤ 8 := hcn
  have h31 : V 580 31 = nI (sr.length + 1) := h31
  obtain ⟨⟨oR, oT, oP⟩, cN, cR, cT, cP, cQ, cF, cL⟩ := id hC
  obtain ⟨⟨s0, s2, s3, s4⟩, ⟨ho8, O, hO, hil, -⟩, hst2⟩ := id hst
  have s0 : V 606 sr.length = nI o := s0
  have s2 : V 607 sr.length = nI i := s2
  have s3 : seg V 608 (32 * sr.length) s1 := s3
  have s4 : s1.length = 32 := s4
  have ho8 : o < 8 := ho8
  have hO : σ.2.1 o = some O := hO
  have hil : i ≤ O.2.2.length := hil
  have hOk := oT o ho8 O hO
  have hOm := ((cT o ho8).s hO).2
  have hTk := oT pt hpt T hT
  have hTm := ((cT pt hpt).s hT).2
  have fO : tkf σ o = O := tkf_s hO
  have fT : tkf σ pt = T := tkf_s hT
  have hFb := cF.b h36
  have l10 := hOk.2.2.1
  have hOO : O1 = O := Option.some.inj (hO1.symm.trans hO)
  subst hOO
  have hie2 : i = (tkf σ o).2.2.length := by rw [fO]; exact hie
  refine lv_iload_n hx hb dX8_endWalk_0 rfl (lv_at hl 2 rfl) ?_
  refine lv_if_ne (tgt := 68) hx hb dX8_endWalk_1 (by decide) (fun c_1 => ?_) (fun c_1 => ?_)
  · have n_1 : ¬ sr.length = 0 := fun q9 => c_1 ((nEq (a := sr.length) (b := 0) ed rfl (by omega) (by omega)).mpr q9)
    obtain ⟨⟨o2, i2, b2⟩, s5, hsr⟩ := cons_of (show ¬ sr.length = 0 from n_1)
    have hsl : sr.length = s5.length + 1 := by rw [hsr]; rfl
    have hst3 : stkM V σ true ((o2, i2, b2) :: s5) := hsr ▸ hst2
    obtain ⟨⟨b0, b1, b3, b4⟩, ⟨ho28, B, hB, hi2l, hi2b⟩, -⟩ := id hst3
    have hi2 : i2 < B.2.2.length := (hi2b rfl).1
    have b0 : V 606 (sr.length - 1) = nI o2 := by rw [show (sr.length - 1) = s5.length by omega]; exact b0
    have b1 : V 607 (sr.length - 1) = nI i2 := by rw [show (sr.length - 1) = s5.length by omega]; exact b1
    have b3 : seg V 608 (32 * (sr.length - 1)) b2 := by rw [show (sr.length - 1) = s5.length by omega]; exact b3
    have b4 : b2.length = 32 := b4
    have ho28 : o2 < 8 := ho28
    have hB : σ.2.1 o2 = some B := hB
    have hBk := oT o2 ho28 B hB
    have hBm := ((cT o2 ho28).s hB).2
    have fB : tkf σ o2 = B := tkf_s hB
    have lB10 := hBk.2.2.1
    have ht0 : totS σ T ((o, i, s1) :: sr) m1 bg = if hmac zr (T.2.1 ++ s1) = O1.2.1 then totS σ T ((o2, i2 + 1, goOnL b2 (B.2.2.getD i2 lz)) :: s5) m1 bg else (.inl (4, o, i2), (m1, bg)) := by rw [hsr]; have := tot_pop (q := σ.2.2.2.1) (tk := tkf σ) (ps := T.2.1) (st := s5) (s := s1) (w := (m1, bg)) (t' := o2) (i' := i2) (s' := b2) hie2; rw [fO, fB] at this; exact this
    refine lv_aload_n hx hb dX8_endWalk_68 rfl (lv_at hl 0 rfl) ?_
    refine lv_aload_n hx hb dX8_endWalk_69 rfl (lv_at hl 0 rfl) ?_
    refine w_gr 8 15 592 (T := TX8) (N := 42) hx hb hts inw8 hown hK.1 hM (by decide) (by decide) (by decide) (by decide) (by decide) rfl (by decide) k43 rfl dX8_endWalk_70 ?_
    refine lv_iconst (v := 0) hx hb dX8_endWalk_73 (by decide) ?_
    refine lv_bipush (v := 32) hx hb dX8_endWalk_74 (by decide) ?_
    refine w_cVv (C := RX8) (As := [.ref (E.1 + 592), .int 0, .int 32]) (rest := []) ⟨hx, hb, hml, hown, hts⟩ (m_keyIs l a592 (by decide) (b := 0) (n := 32) (l0 := zr) (cN.2.2) (by omega) (by omega) (by simp [zr])) (cwV 3 hts gX8_endWalk_X8_keyIs rfl rfl rfl (by decide +kernel) ⟨Nat.le_of_ble_eq_true rfl, Nat.le_of_ble_eq_true rfl⟩) (w_recv (ci := 8) hK hM (by decide) (by decide) (by decide) rfl) hM hK hS rfl hl.1 rfl (lv_room (Nat.le_of_ble_eq_true rfl)) dX8_endWalk_76 ⟨Nat.le_of_ble_eq_true rfl, Nat.le_of_ble_eq_true rfl⟩ (fun V76 H locs hp76 hM hS => ?_)
    have F76 : frS V V76 583 591 := (frS.rf).trans (⟨fun k a b => hp76.2.2.1 k (by omega) b, fun i _ a b => hp76.2.2.2 i a b⟩)
    have hk76 := hp76.1
    have hm76 := hp76.2.1
    refine lv_aload_n hx hb dX8_endWalk_79 rfl (lv_at hl 0 rfl) ?_
    refine lv_aload_n hx hb dX8_endWalk_80 rfl (lv_at hl 0 rfl) ?_
    refine w_gr 8 29 604 (T := TX8) (N := 42) hx hb hts inw8 hown hK.1 hM (by decide) (by decide) (by decide) (by decide) (by decide) rfl (by decide) k84 rfl dX8_endWalk_81 ?_
    refine lv_bipush (v := 32) hx hb dX8_endWalk_84 (by decide) ?_
    refine lv_iload_n hx hb dX8_endWalk_86 rfl (lv_at hl 1 rfl) ?_
    refine lv_imul hx hb dX8_endWalk_87 ?_
    have q : (32 * t : Int32) = nI (32 * pt) := (nMul rfl et)
    refine lv_eqi q ?_
    refine lv_bipush (v := 32) hx hb dX8_endWalk_88 (by decide) ?_
    refine w_cVv (C := RX8) (As := [.ref (E.1 + 604), .int (nI (32 * pt)), .int 32]) (rest := []) ⟨hx, hb, hml, hown, hts⟩ (m_add l a604 (by decide) hm76 (b := 32 * pt) (n := 32) (l0 := T.2.1) (F76.seg hTm.2.2.2.1 (by omega) (by omega)) (by omega) (by simp <;> omega) (hTk.2.1.1)) (cwV 3 hts gX8_endWalk_X8_add rfl rfl rfl (by decide +kernel) ⟨Nat.le_of_ble_eq_true rfl, Nat.le_of_ble_eq_true rfl⟩) (w_recv (ci := 8) hK hM (by decide) (by decide) (by decide) rfl) hM hK hS rfl hl.1 rfl (lv_room (Nat.le_of_ble_eq_true rfl)) dX8_endWalk_90 ⟨Nat.le_of_ble_eq_true rfl, Nat.le_of_ble_eq_true rfl⟩ (fun V90 H locs hp90 hM hS => ?_)
    have F90 : frS V V90 583 591 := (F76).trans (hp90.2.toS (by omega) (by decide))
    have hk90 := hk76.keep (hp90.2.2 10 (by decide)) (hp90.2.1 588 (by decide) (by decide))
    have hm90 := hp90.1
    refine lv_aload_n hx hb dX8_endWalk_93 rfl (lv_at hl 0 rfl) ?_
    refine lv_aload_n hx hb dX8_endWalk_94 rfl (lv_at hl 0 rfl) ?_
    refine w_gr 8 34 608 (T := TX8) (N := 42) hx hb hts inw8 hown hK.1 hM (by decide) (by decide) (by decide) (by decide) (by decide) rfl (by decide) k96 rfl dX8_endWalk_95 ?_
    refine lv_bipush (v := 32) hx hb dX8_endWalk_98 (by decide) ?_
    refine lv_iload_n hx hb dX8_endWalk_100 rfl (lv_at hl 2 rfl) ?_
    refine lv_imul hx hb dX8_endWalk_101 ?_
    have q : (32 * dx : Int32) = nI (32 * sr.length) := (nMul rfl ed)
    refine lv_eqi q ?_
    refine lv_bipush (v := 32) hx hb dX8_endWalk_102 (by decide) ?_
    refine w_cVv (C := RX8) (As := [.ref (E.1 + 608), .int (nI (32 * sr.length)), .int 32]) (rest := []) ⟨hx, hb, hml, hown, hts⟩ (m_add l a608 (by decide) hm90 (b := 32 * sr.length) (n := 32) (l0 := s1) (F90.seg s3 (by omega) (by omega)) (by omega) (by simp [hTk.2.1.1]) (s4)) (cwV 3 hts gX8_endWalk_X8_add rfl rfl rfl (by decide +kernel) ⟨Nat.le_of_ble_eq_true rfl, Nat.le_of_ble_eq_true rfl⟩) (w_recv (ci := 8) hK hM (by decide) (by decide) (by decide) rfl) hM hK hS rfl hl.1 rfl (lv_room (Nat.le_of_ble_eq_true rfl)) dX8_endWalk_104 ⟨Nat.le_of_ble_eq_true rfl, Nat.le_of_ble_eq_true rfl⟩ (fun V104 H locs hp104 hM hS => ?_)
    have F104 : frS V V104 583 591 := (F90).trans (hp104.2.toS (by omega) (by decide))
    have hk104 := hk90.keep (hp104.2.2 10 (by decide)) (hp104.2.1 588 (by decide) (by decide))
    have hm104 := hp104.1
    refine lv_aload_n hx hb dX8_endWalk_107 rfl (lv_at hl 0 rfl) ?_
    refine w_cVv (C := RX8) (As := []) (rest := []) ⟨hx, hb, hml, hown, hts⟩ (c_X8_sealNow l (fun i hi => by rw [(F104).1 582 (by omega) (by decide)]; exact cN.1 i hi) (fun i hi => by rw [(F104).1 581 (by omega) (by decide)]; exact cN.2.1 i hi) hk104 hm104 (by simp [zr]) (by simp [hTk.2.1.1, s4])) (cwV 0 hts gX8_endWalk_X8_sealNow rfl rfl rfl (by decide +kernel) ⟨Nat.le_of_ble_eq_true rfl, Nat.le_of_ble_eq_true rfl⟩) (w_recv (ci := 8) hK hM (by decide) (by decide) (by decide) rfl) hM hK hS rfl hl.1 rfl (lv_room (Nat.le_of_ble_eq_true rfl)) dX8_endWalk_108 ⟨Nat.le_of_ble_eq_true rfl, Nat.le_of_ble_eq_true rfl⟩ (fun V108 H locs hp108 hM hS => ?_)
    rw [List.nil_append] at hp108
    have F108 : frS V V108 583 591 := (F104).trans (hp108.2.wide (by decide))
    refine lv_aload_n hx hb dX8_endWalk_111 rfl (lv_at hl 0 rfl) ?_
    refine lv_dup hx hb dX8_endWalk_112 rfl ?_
    refine w_gi 8 31 (T := TX8) (N := 42) hx hb hts inw8 hown hK.1 hM (by decide) (by decide) (by decide) (by decide) (by decide) rfl (by decide) k195 rfl dX8_endWalk_113 ?_
    have q : (V108 580 31 : Int32) = nI (sr.length + 1) := ((F108.2 31 (by decide) (by decide) (by decide)).trans h31)
    refine lv_eqi q ?_
    refine lv_iconst (v := 1) hx hb dX8_endWalk_116 (by decide) ?_
    refine lv_isub hx hb dX8_endWalk_117 ?_
    refine w_pi 8 31 (T := TX8) (N := 42) hx hb hts inw8 tyX8 tyX8_ok nmX8 hown hK.1 hM hS (by decide) (by decide) (by decide) (by decide) (by decide) rfl (by decide) k195 rfl rfl rfl rfl dX8_endWalk_118 (fun H locs hM hS => ?_)
    generalize hV118 : up2 V108 580 31 ((nI (sr.length + 1)) - 1) = V118 at hM
    have e118 : ∀ k, k ≠ 580 → V118 k = V108 k := fun k a => by rw [← hV118, up2_k _ _ a]
    have g118 : ∀ k, (k < 583 ∨ 591 < k) → k ≠ 580 → V118 k = V k := fun k a b => by rw [e118 k b]; exact F108.1 k a b
    have f118 : ∀ i, i ≠ 31 → i ≠ 7 → i ≠ 10 → i ≠ 12 → V118 580 i = V 580 i := fun i a b c d => by rw [← hV118, up2_o _ _ a]; exact F108.2 i b c d
    have d118 : V118 580 31 = nI (s5.length + 1) := by rw [← hV118, up2_s, ← hsl]; exact (nSub (b := 1) rfl rfl (by omega)).trans (by rw [Nat.add_sub_cancel])
    refine lv_iload_n hx hb dX8_endWalk_121 rfl (lv_at hl 2 rfl) ?_
    refine lv_iconst (v := 1) hx hb dX8_endWalk_122 (by decide) ?_
    refine lv_isub hx hb dX8_endWalk_123 ?_
    refine lv_topi (fun x4_124 ex4_124 => ?_)
    refine lv_istore (lv' := [(4, .int x4_124), (0, .ref (E.1 + 580)), (1, .int t), (2, .int dx), (3, .int ow)]) hx hb dX8_endWalk_124 hl (by decide) rfl (fun ls hl => ?_)
    refine lv_aload_n hx hb dX8_endWalk_126 rfl (lv_at hl 1 rfl) ?_
    refine lv_aload_n hx hb dX8_endWalk_127 rfl (lv_at hl 1 rfl) ?_
    refine w_gr 8 13 590 (T := TX8) (N := 42) hx hb hts inw8 hown hK.1 hM (by decide) (by decide) (by decide) (by decide) (by decide) rfl (by decide) k37 rfl dX8_endWalk_128 ?_
    refine lv_iload_n hx hb dX8_endWalk_131 rfl (lv_at hl 4 rfl) ?_
    refine w_cVi (C := RX8) (As := [.ref (E.1 + 590), .int ow]) (rest := []) ⟨hx, hb, hml, hown, hts⟩ (c_X8_isSame l a590 (by omega) (la := hmac zr (T.2.1 ++ s1)) (lb := O1.2.1) (hp108.1.keep (e118 590 (by decide))) (hmac_len _ _) (t1 := o) (by omega) (hOm.2.2.2.1.keep (g118 604 (by omega) (by decide))) hOk.2.1.1 eo) (cwV 2 hts gX8_endWalk_X8_isSame rfl rfl rfl (by decide +kernel) ⟨Nat.le_of_ble_eq_true rfl, Nat.le_of_ble_eq_true rfl⟩) (w_recv (ci := 8) hK hM (by decide) (by decide) (by decide) rfl) hM hK hS rfl hl.1 rfl (lv_room (Nat.le_of_ble_eq_true rfl)) dX8_endWalk_132 ⟨Nat.le_of_ble_eq_true rfl, Nat.le_of_ble_eq_true rfl⟩ (fun r132 V132 H locs hp132 hM hS => ?_)
    obtain ⟨er132, eV⟩ := hp132
    rw [eV] at hM; clear eV
    refine lv_if_ne (tgt := 152) hx hb dX8_endWalk_135 (by decide) (fun c_135 => ?_) (fun c_135 => ?_)
    · have heq : hmac zr (T.2.1 ++ s1) = O1.2.1 := of_decide_eq_true (b2i_ne0 (by rw [← er132]; exact c_135))
      refine lv_aload_n hx hb dX8_endWalk_152 rfl (lv_at hl 1 rfl) ?_
      refine lv_aload_n hx hb dX8_endWalk_153 rfl (lv_at hl 1 rfl) ?_
      refine w_gr 8 34 608 (T := TX8) (N := 42) hx hb hts inw8 hown hK.1 hM (by decide) (by decide) (by decide) (by decide) (by decide) rfl (by decide) k96 rfl dX8_endWalk_154 ?_
      refine lv_bipush (v := 32) hx hb dX8_endWalk_157 (by decide) ?_
      refine lv_iload hx hb dX8_endWalk_159 (lv_at hl 0 rfl) ?_
      refine lv_imul hx hb dX8_endWalk_161 ?_
      have q : (32 * x4_124 : Int32) = nI (32 * (sr.length - 1)) := (nMul rfl (ex4_124.trans (nSub ed rfl (by omega))))
      refine lv_eqi q ?_
      refine lv_bipush (v := 10) hx hb dX8_endWalk_162 (by decide) ?_
      refine lv_aload_n hx hb dX8_endWalk_164 rfl (lv_at hl 1 rfl) ?_
      refine w_gr 8 32 606 (T := TX8) (N := 42) hx hb hts inw8 hown hK.1 hM (by decide) (by decide) (by decide) (by decide) (by decide) rfl (by decide) k90 rfl dX8_endWalk_165 ?_
      refine lv_iload hx hb dX8_endWalk_168 (lv_at hl 0 rfl) ?_
      have i_170 : (x4_124 : Int32) = nI (sr.length - 1) := (ex4_124.trans (nSub ed rfl (by omega)))
      refine w_ild (N := 9) hx hb hK.1 hM (by decide) (by decide) (by decide) (by rw [i_170]; exact vp_in_nI (by omega) (by omega)) dX8_endWalk_170 ?_
      have j_170 : x4_124.toNatClampNeg = sr.length - 1 := (congrArg Int32.toNatClampNeg i_170).trans (nI_clamp (by omega))
      have q : (V118 606 x4_124.toNatClampNeg : Int32) = V118 606 (sr.length - 1) := by rw [j_170]
      refine lv_eqi q ?_
      have q : (V118 606 (sr.length - 1) : Int32) = nI o2 := by rw [g118 606 (by omega) (by decide)]; exact b0
      refine lv_eqi q ?_
      refine lv_imul hx hb dX8_endWalk_171 ?_
      have q : (10 * (nI o2) : Int32) = nI (10 * o2) := (nMul rfl rfl)
      refine lv_eqi q ?_
      refine lv_aload_n hx hb dX8_endWalk_172 rfl (lv_at hl 1 rfl) ?_
      refine w_gr 8 33 607 (T := TX8) (N := 42) hx hb hts inw8 hown hK.1 hM (by decide) (by decide) (by decide) (by decide) (by decide) rfl (by decide) k93 rfl dX8_endWalk_173 ?_
      refine lv_iload hx hb dX8_endWalk_176 (lv_at hl 0 rfl) ?_
      have i_178 : (x4_124 : Int32) = nI (sr.length - 1) := (ex4_124.trans (nSub ed rfl (by omega)))
      refine w_ild (N := 9) hx hb hK.1 hM (by decide) (by decide) (by decide) (by rw [i_178]; exact vp_in_nI (by omega) (by omega)) dX8_endWalk_178 ?_
      have j_178 : x4_124.toNatClampNeg = sr.length - 1 := (congrArg Int32.toNatClampNeg i_178).trans (nI_clamp (by omega))
      have q : (V118 607 x4_124.toNatClampNeg : Int32) = V118 607 (sr.length - 1) := by rw [j_178]
      refine lv_eqi q ?_
      have q : (V118 607 (sr.length - 1) : Int32) = nI i2 := by rw [g118 607 (by omega) (by decide)]; exact b1
      refine lv_eqi q ?_
      refine lv_iadd hx hb dX8_endWalk_179 ?_
      have q : ((nI (10 * o2)) + (nI i2) : Int32) = nI ((10 * o2) + i2) := (nAdd rfl rfl)
      refine lv_eqi q ?_
      refine w_cVv (C := RX8) (As := [.ref (E.1 + 608), .int (nI (32 * (sr.length - 1))), .int (nI ((10 * o2) + i2))]) (rest := []) ⟨hx, hb, hml, hown, hts⟩ (c_X8_goOn l a608 (by decide) (b := 32 * (sr.length - 1)) (by omega) (s0 := b2) (b3.keep (g118 608 (by omega) (by decide))) b4 (l1 := 10 * o2 + i2) (by omega) (L := B.2.2.getD i2 lz) ((hBm.2.2.2.2 i2 hi2).fn (hBk.2.2.2 i2 hi2).2.1 (hBk.2.2.2 i2 hi2).l2 (by rw [g118 600 (by omega) (by decide)]) (fun z _ _ => by rw [g118 601 (by omega) (by decide)]) (by rw [g118 602 (by omega) (by decide)]) (fun z _ _ => by rw [g118 603 (by omega) (by decide)])) (hBk.2.2.2 i2 hi2) (cN.fr (g118 581 (by omega) (by decide)) (g118 582 (by omega) (by decide)) (g118 592 (by omega) (by decide))) rfl) (cwV 3 hts gX8_endWalk_X8_goOn rfl rfl rfl (by decide +kernel) ⟨Nat.le_of_ble_eq_true rfl, Nat.le_of_ble_eq_true rfl⟩) (w_recv (ci := 8) hK hM (by decide) (by decide) (by decide) rfl) hM hK hS rfl hl.1 rfl (lv_room (Nat.le_of_ble_eq_true rfl)) dX8_endWalk_180 ⟨Nat.le_of_ble_eq_true rfl, Nat.le_of_ble_eq_true rfl⟩ (fun V180 H locs hp180 hM hS => ?_)
      obtain ⟨g1, g2, g3, g4⟩ := hp180
      refine lv_aload_n hx hb dX8_endWalk_183 rfl (lv_at hl 1 rfl) ?_
      refine w_gr 8 33 607 (T := TX8) (N := 42) hx hb hts inw8 hown hK.1 hM (by decide) (by decide) (by decide) (by decide) (by decide) rfl (by decide) k93 rfl dX8_endWalk_184 ?_
      refine lv_iload hx hb dX8_endWalk_187 (lv_at hl 0 rfl) ?_
      refine lv_dup2_11 hx hb dX8_endWalk_189 rfl rfl ?_
      have i_190 : (x4_124 : Int32) = nI (sr.length - 1) := (ex4_124.trans (nSub ed rfl (by omega)))
      refine w_ild (N := 9) hx hb hK.1 hM (by decide) (by decide) (by decide) (by rw [i_190]; exact vp_in_nI (by omega) (by omega)) dX8_endWalk_190 ?_
      have j_190 : x4_124.toNatClampNeg = sr.length - 1 := (congrArg Int32.toNatClampNeg i_190).trans (nI_clamp (by omega))
      have q : (V180 607 x4_124.toNatClampNeg : Int32) = V180 607 (sr.length - 1) := by rw [j_190]
      refine lv_eqi q ?_
      have q : (V180 607 (sr.length - 1) : Int32) = nI i2 := by rw [g3 607 (by omega) (by decide) (by decide), g118 607 (by omega) (by decide)]; exact b1
      refine lv_eqi q ?_
      refine lv_iconst (v := 1) hx hb dX8_endWalk_191 (by decide) ?_
      refine lv_iadd hx hb dX8_endWalk_192 ?_
      have q : ((nI i2) + 1 : Int32) = nI (i2 + 1) := (nAdd rfl rfl)
      refine lv_eqi q ?_
      have i_193 : (x4_124 : Int32) = nI (sr.length - 1) := (ex4_124.trans (nSub ed rfl (by omega)))
      have j_193 : x4_124.toNatClampNeg = sr.length - 1 := (congrArg Int32.toNatClampNeg i_193).trans (nI_clamp (by omega))
      refine w_ist (N := 9) hx hb hK.1 hM hS (by decide) (by decide) (by decide) (by rw [i_193]; exact vp_in_nI (by omega) (by omega)) dX8_endWalk_193 (fun H locs hM hS => ?_)
      rw [j_193] at hM
      generalize hV193 : up2 V180 607 (sr.length - 1) (nI (i2 + 1)) = V193 at hM
      refine lv_iconst (v := 0) hx hb dX8_endWalk_194 (by decide) ?_
      have hpost : (fun v V' => wPost σ pt T ((o, i, s1) :: sr) m1 bg V v V') 0 V193 := by
        refine Or.inr ⟨rfl, (o2, i2 + 1, goOnL b2 (B.2.2.getD i2 lz)) :: s5, m1, bg, ?_, Nat.succ_pos _, ?_, ?_, ?_⟩
        · have e193 : ∀ k, k ≠ 607 → V193 k = V180 k := fun k a => by rw [← hV193, up2_k _ _ a]
          refine wM.step hC h36 hst3 hB hi2 ⟨hm, by omega⟩ hwk hwt (by rw [e193 580 (by decide), g4 31 (by decide) (by decide) (by decide)]; exact d118) (g1.keep (e193 608 (by decide)) |> (fun z => by rw [show s5.length = (sr.length - 1) by omega]; exact z)) (goOnL_len _ _) (by rw [← hV193, show s5.length = (sr.length - 1) by omega, up2_s]) (by rw [e193 606 (by decide), g3 606 (by omega) (by decide) (by decide), g118 606 (by omega) (by decide)]) (fun k a => by rw [← hV193, up2_o _ _ (by omega), g3 607 (by omega) (by decide) (by decide), g118 607 (by omega) (by decide)]) (fun x hx => by rw [e193 608 (by decide), g2 x (by omega), g118 608 (by omega) (by decide)]) ⟨fun k a => by rw [e193 k (by omega), g3 k (by omega) (by omega) (by omega), g118 k (by omega) (by omega)], fun i a => by rw [e193 580 (by decide), g4 i (by omega) (by omega) (by omega), f118 i (by omega) (by omega) (by omega) (by omega)]⟩ (by rw [e193 609 (by decide), g3 609 (by omega) (by decide) (by decide), g118 609 (by omega) (by decide)])
        · rw [ht0, if_pos heq]
        · rw [hsr]; simp only [muS]; omega
        · exact fun k a => by rw [← hV193, up2_k _ _ (by omega), g3 k (by omega) (by omega) (by omega), g118 k (by omega) (by omega)]
      exact w_iret V193 hx hb hret hK hS hM (hpost) hlocks dX8_endWalk_195
    · have hne : ¬ hmac zr (T.2.1 ++ s1) = O1.2.1 := of_decide_eq_false (b2i_eq0 (er132.symm.trans c_135))
      refine lv_aload_n hx hb dX8_endWalk_138 rfl (lv_at hl 1 rfl) ?_
      refine lv_iconst (v := 4) hx hb dX8_endWalk_139 (by decide) ?_
      refine lv_iload_n hx hb dX8_endWalk_140 rfl (lv_at hl 4 rfl) ?_
      refine lv_aload_n hx hb dX8_endWalk_141 rfl (lv_at hl 1 rfl) ?_
      refine w_gr 8 33 607 (T := TX8) (N := 42) hx hb hts inw8 hown hK.1 hM (by decide) (by decide) (by decide) (by decide) (by decide) rfl (by decide) k93 rfl dX8_endWalk_142 ?_
      refine lv_iload hx hb dX8_endWalk_145 (lv_at hl 0 rfl) ?_
      have i_147 : (x4_124 : Int32) = nI (sr.length - 1) := (ex4_124.trans (nSub ed rfl (by omega)))
      refine w_ild (N := 9) hx hb hK.1 hM (by decide) (by decide) (by decide) (by rw [i_147]; exact vp_in_nI (by omega) (by omega)) dX8_endWalk_147 ?_
      have j_147 : x4_124.toNatClampNeg = sr.length - 1 := (congrArg Int32.toNatClampNeg i_147).trans (nI_clamp (by omega))
      have q : (V118 607 x4_124.toNatClampNeg : Int32) = V118 607 (sr.length - 1) := by rw [j_147]
      refine lv_eqi q ?_
      have q : (V118 607 (sr.length - 1) : Int32) = nI i2 := by rw [g118 607 (by omega) (by decide)]; exact b1
      refine lv_eqi q ?_
      refine w_cVi (C := RX8) (As := [.int 4, .int ow, .int (nI i2)]) (rest := []) ⟨hx, hb, hml, hown, hts⟩ (c_X8_fail l 4 ow (nI i2)) (cwV 3 hts gX8_endWalk_X8_fail rfl rfl rfl (by decide +kernel) ⟨Nat.le_of_ble_eq_true rfl, Nat.le_of_ble_eq_true rfl⟩) (w_recv (ci := 8) hK hM (by decide) (by decide) (by decide) rfl) hM hK hS rfl hl.1 rfl (lv_room (Nat.le_of_ble_eq_true rfl)) dX8_endWalk_148 ⟨Nat.le_of_ble_eq_true rfl, Nat.le_of_ble_eq_true rfl⟩ (fun r148 V148 H locs hp148 hM hS => ?_)
      obtain ⟨er148, eV148⟩ := hp148
      have hpost : (fun v V' => wPost σ pt T ((o, i, s1) :: sr) m1 bg V v V') r148 V148 := by
        refine Or.inl ?_
        rw [ht0, if_neg hne]
        simp only [fin]
        refine ⟨er148.trans rfl, hC.flt (f := (nI o, nI i2, nI bg)) (fun k a => by rw [eV148, up2_k _ _ (by omega), up2_k _ _ (by omega)]; exact g118 k (by omega) (by omega)) (fun i a => by rw [eV148, up2_o _ _ (by omega), up2_o _ _ (by omega)]; exact f118 i (by omega) (by omega) (by omega) (by omega)) (by rw [eV148, up2_o _ _ (by decide), up2_o _ _ (by decide), f118 36 (by decide) (by decide) (by decide) (by decide)]; exact h36) (by rw [eV148, up2_o _ _ (by decide), up2_s]; exact eo) (by rw [eV148, up2_s]) (by rw [eV148, up2_o _ _ (by decide), up2_o _ _ (by decide), f118 39 (by decide) (by decide) (by decide) (by decide)]; exact hFb.2.2), fun k a => by rw [eV148, up2_k _ _ (by omega), up2_k _ _ (by omega)]; exact g118 k (by omega) (by omega), fun h0 => absurd (er148.symm.trans h0) (by decide)⟩
      exact w_iret V148 hx hb hret hK hS hM (hpost) hlocks dX8_endWalk_151
  · have n_1 : sr.length = 0 := (nEq (a := sr.length) (b := 0) ed rfl (by omega) (by omega)).mp c_1
    have hsr : sr = [] := List.eq_nil_of_length_eq_zero n_1
    refine lv_iconst (v := 0) hx hb dX8_endWalk_4 (by decide) ?_
    refine lv_istore (lv' := [(4, .int 0), (0, .ref (E.1 + 580)), (1, .int t), (2, .int dx), (3, .int ow)]) hx hb dX8_endWalk_5 hl (by decide) rfl (fun ls hl => ?_)
    have loop7 : ∀ (fu : Nat) (Vw : Vt) (H : Heap) (locs : List Loc) (ls : Array Slot) (j : Nat) (hj : j ≤ 32) (hcp : cpx Vw V 590 0 j (V 608)), 32 - j < fu → Wd E Vw H → va_S (AE E) s.heap H locs → lv_has ls 5 [(0, .ref (E.1 + 580)), (1, .int t), (4, .int (nI j))] → W p l e (headSpec wsX8_endWalk (rmD 6)).room s m ([.ref (E.1 + 580), .int t, .int dx, .int ow] : List Value).toArray below meth c H locs 0 0 (MQ below (QI E (fun V' => Wd E V') (fun v V' => wPost σ pt T ((o, i, s1) :: sr) m1 bg V v V')) ([.ref (E.1 + 580), .int t, .int dx, .int ow] : List Value).toArray s 0 0 (AE E)) (F0 m 7 ls []) := by
      intro fu
      induction fu with
      | zero => intros; omega
      | succ fu ih7 =>
        intro Vw H locs ls j hj hcp hfu hM hS hl
        refine lv_iload hx hb dX8_endWalk_7 (lv_at hl 2 rfl) ?_
        refine lv_bipush (v := 32) hx hb dX8_endWalk_9 (by decide) ?_
        refine lv_icmp_ge (tgt := 34) hx hb dX8_endWalk_11 (by decide) (fun c_11 => ?_) (fun c_11 => ?_)
        · have n_11 : 32 ≤ j := (nLe (a := 32) (b := j) rfl rfl (by omega) (by omega)).mp c_11
          have hj32 : j = 32 := by omega
          subst hj32
          have sOut0 : seg Vw 590 0 s1 := fun z hz => by rw [hcp.1 z (by omega)]; have := s3 z hz; rw [hsr] at this; simpa using this
          refine lv_aload_n hx hb dX8_endWalk_34 rfl (lv_at hl 0 rfl) ?_
          refine lv_iconst (v := 0) hx hb dX8_endWalk_35 (by decide) ?_
          refine w_pi 8 31 (T := TX8) (N := 42) hx hb hts inw8 tyX8 tyX8_ok nmX8 hown hK.1 hM hS (by decide) (by decide) (by decide) (by decide) (by decide) rfl (by decide) k195 rfl rfl rfl rfl dX8_endWalk_36 (fun H locs hM hS => ?_)
          generalize hV36 : up2 Vw 580 31 0 = V36 at hM
          have e36 : ∀ k, k ≠ 580 → k ≠ 590 → V36 k = V k := fun k a b => by rw [← hV36, up2_k _ _ a]; exact hcp.2.2 k b
          have f36 : ∀ i, i ≠ 31 → V36 580 i = V 580 i := fun i a => by rw [← hV36, up2_o _ _ a, hcp.2.2 580 (by decide)]
          have sOut : seg V36 590 0 s1 := sOut0.keep (by rw [← hV36, up2_k _ _ (by decide)])
          have z36 : V36 580 31 = 0 := by rw [← hV36, up2_s]
          have ht0 : totS σ T ((o, i, s1) :: sr) m1 bg = (.inr s1, (m1, bg)) := by rw [hsr]; exact tot_end hie2
          refine lv_aload_n hx hb dX8_endWalk_39 rfl (lv_at hl 0 rfl) ?_
          refine lv_aload_n hx hb dX8_endWalk_40 rfl (lv_at hl 0 rfl) ?_
          refine w_gr 8 13 590 (T := TX8) (N := 42) hx hb hts inw8 hown hK.1 hM (by decide) (by decide) (by decide) (by decide) (by decide) rfl (by decide) k37 rfl dX8_endWalk_41 ?_
          refine lv_iload_n hx hb dX8_endWalk_44 rfl (lv_at hl 1 rfl) ?_
          refine w_cVi (C := RX8) (As := [.ref (E.1 + 590), .int t]) (rest := []) ⟨hx, hb, hml, hown, hts⟩ (c_X8_isSame l a590 (by omega) (la := s1) (lb := T.2.1) sOut s4 (t1 := pt) (by omega) (hTm.2.2.2.1.keep (e36 604 (by decide) (by decide))) hTk.2.1.1 et) (cwV 2 hts gX8_endWalk_X8_isSame rfl rfl rfl (by decide +kernel) ⟨Nat.le_of_ble_eq_true rfl, Nat.le_of_ble_eq_true rfl⟩) (w_recv (ci := 8) hK hM (by decide) (by decide) (by decide) rfl) hM hK hS rfl hl.1 rfl (lv_room (Nat.le_of_ble_eq_true rfl)) dX8_endWalk_45 ⟨Nat.le_of_ble_eq_true rfl, Nat.le_of_ble_eq_true rfl⟩ (fun r45 V45 H locs hp45 hM hS => ?_)
          obtain ⟨er45, eV⟩ := hp45
          rw [eV] at hM; clear eV
          refine lv_if_eq (tgt := 55) hx hb dX8_endWalk_48 (by decide) (fun c_48 => ?_) (fun c_48 => ?_)
          · have hne : ¬ s1 = T.2.1 := of_decide_eq_false (b2i_eq0 (er45.symm.trans c_48))
            refine lv_aload_n hx hb dX8_endWalk_55 rfl (lv_at hl 0 rfl) ?_
            refine lv_iconst (v := 5) hx hb dX8_endWalk_56 (by decide) ?_
            refine lv_iload_n hx hb dX8_endWalk_57 rfl (lv_at hl 1 rfl) ?_
            refine lv_aload_n hx hb dX8_endWalk_58 rfl (lv_at hl 0 rfl) ?_
            refine w_gr 8 24 599 (T := TX8) (N := 42) hx hb hts inw8 hown hK.1 hM (by decide) (by decide) (by decide) (by decide) (by decide) rfl (by decide) k69 rfl dX8_endWalk_59 ?_
            refine lv_iload_n hx hb dX8_endWalk_62 rfl (lv_at hl 1 rfl) ?_
            have i_63 : (t : Int32) = nI (pt) := et
            refine w_ild (N := 9) hx hb hK.1 hM (by decide) (by decide) (by decide) (by rw [i_63]; exact vp_in_nI (by omega) (by omega)) dX8_endWalk_63 ?_
            have j_63 : t.toNatClampNeg = pt := (congrArg Int32.toNatClampNeg i_63).trans (nI_clamp (by omega))
            have q : (V36 599 t.toNatClampNeg : Int32) = V36 599 pt := by rw [j_63]
            refine lv_eqi q ?_
            have q : (V36 599 pt : Int32) = nI T.2.2.length := by rw [e36 599 (by decide) (by decide)]; exact hTm.2.2.1
            refine lv_eqi q ?_
            refine w_cVi (C := RX8) (As := [.int 5, .int t, .int (nI T.2.2.length)]) (rest := []) ⟨hx, hb, hml, hown, hts⟩ (c_X8_fail l 5 t (nI T.2.2.length)) (cwV 3 hts gX8_endWalk_X8_fail rfl rfl rfl (by decide +kernel) ⟨Nat.le_of_ble_eq_true rfl, Nat.le_of_ble_eq_true rfl⟩) (w_recv (ci := 8) hK hM (by decide) (by decide) (by decide) rfl) hM hK hS rfl hl.1 rfl (lv_room (Nat.le_of_ble_eq_true rfl)) dX8_endWalk_64 ⟨Nat.le_of_ble_eq_true rfl, Nat.le_of_ble_eq_true rfl⟩ (fun r64 V64 H locs hp64 hM hS => ?_)
            obtain ⟨er64, eV64⟩ := hp64
            have hpost : (fun v V' => wPost σ pt T ((o, i, s1) :: sr) m1 bg V v V') r64 V64 := by
              refine Or.inl ?_
              rw [ht0]
              simp only [fin, if_neg hne]
              refine ⟨er64.trans (by decide), hC.flt (f := (nI pt, nI T.2.2.length, nI bg)) (fun k a => by rw [eV64, up2_k _ _ (by omega), up2_k _ _ (by omega)]; exact e36 k (by omega) (by omega)) (fun i a => by rw [eV64, up2_o _ _ (by omega), up2_o _ _ (by omega)]; exact f36 i (by omega)) (by rw [eV64, up2_o _ _ (by decide), up2_o _ _ (by decide), f36 36 (by decide)]; exact h36) (by rw [eV64, up2_o _ _ (by decide), up2_s]; exact et) (by rw [eV64, up2_s]) (by rw [eV64, up2_o _ _ (by decide), up2_o _ _ (by decide), f36 39 (by decide)]; exact hFb.2.2), fun k a => by rw [eV64, up2_k _ _ (by omega), up2_k _ _ (by omega)]; exact e36 k (by omega) (by omega), fun h0 => absurd (er64.symm.trans h0) (by decide)⟩
            exact w_iret V64 hx hb hret hK hS hM (hpost) hlocks dX8_endWalk_67
          · have heq : s1 = T.2.1 := of_decide_eq_true (b2i_ne0 (by rw [← er45]; exact c_48))
            refine lv_iconst (v := 0) hx hb dX8_endWalk_51 (by decide) ?_
            refine lv_goto (tgt := 67) hx hb dX8_endWalk_52 (by decide) ?_
            have hpost : (fun v V' => wPost σ pt T ((o, i, s1) :: sr) m1 bg V v V') 0 V36 := by
              refine Or.inl ?_
              rw [ht0]
              simp only [fin, if_pos heq]
              exact ⟨trivial, hC.fr ⟨fun k a => e36 k (by omega) (by omega), fun i a => f36 i (by omega)⟩, fun k a => e36 k (by omega) (by omega), fun _ => z36⟩
            exact w_iret V36 hx hb hret hK hS hM (hpost) hlocks dX8_endWalk_67
        · have n_11 : ¬ 32 ≤ j := fun q9 => c_11 ((nLe (a := 32) (b := j) rfl rfl (by omega) (by omega)).mpr q9)
          refine lv_aload_n hx hb dX8_endWalk_14 rfl (lv_at hl 0 rfl) ?_
          refine w_gr 8 13 590 (T := TX8) (N := 42) hx hb hts inw8 hown hK.1 hM (by decide) (by decide) (by decide) (by decide) (by decide) rfl (by decide) k37 rfl dX8_endWalk_15 ?_
          refine lv_iload hx hb dX8_endWalk_18 (lv_at hl 2 rfl) ?_
          refine lv_aload_n hx hb dX8_endWalk_20 rfl (lv_at hl 0 rfl) ?_
          refine w_gr 8 34 608 (T := TX8) (N := 42) hx hb hts inw8 hown hK.1 hM (by decide) (by decide) (by decide) (by decide) (by decide) rfl (by decide) k96 rfl dX8_endWalk_21 ?_
          refine lv_iload hx hb dX8_endWalk_24 (lv_at hl 2 rfl) ?_
          have i_26 : (nI j : Int32) = nI (j) := rfl
          refine w_ild (N := 288) hx hb hK.1 hM (by decide) (by decide) (by decide) (by rw [i_26]; exact vp_in_nI (by omega) (by omega)) dX8_endWalk_26 ?_
          have j_26 : (nI j).toNatClampNeg = j := (congrArg Int32.toNatClampNeg i_26).trans (nI_clamp (by omega))
          have q : (Vw 608 (nI j).toNatClampNeg : Int32) = Vw 608 j := by rw [j_26]
          refine lv_eqi q ?_
          have i_27 : (nI j : Int32) = nI (j) := rfl
          have j_27 : (nI j).toNatClampNeg = j := (congrArg Int32.toNatClampNeg i_27).trans (nI_clamp (by omega))
          refine w_ist (N := 32) hx hb hK.1 hM hS (by decide) (by decide) (by decide) (by rw [i_27]; exact vp_in_nI (by omega) (by omega)) dX8_endWalk_27 (fun H locs hM hS => ?_)
          rw [j_27] at hM
          generalize hV27 : up2 Vw 590 j (Vw 608 j) = V27 at hM
          obtain ⟨x4_28, ex4_28⟩ : ∃ y : Int32, y = (nI j) + 1 := ⟨_, rfl⟩
          refine lv_iinc (v := x4_28) (lv' := [(4, .int x4_28), (0, .ref (E.1 + 580)), (1, .int t)]) hx hb dX8_endWalk_28 hl (k := 2) rfl (by rw [ex4_28]; rfl) (by decide) rfl (fun ls hl => ?_)
          refine lv_goto (tgt := 7) hx hb dX8_endWalk_31 (by decide) ?_
          rw [show x4_28 = nI (j + 1) from (ex4_28.trans (nAdd rfl rfl))] at hl
          exact ih7 V27 _ _ _ (j + 1) (by omega) (hcp.s hV27 (by omega) (by rw [hcp.2.2 608 (by decide)])) (by omega) hM hS (lv_sub hl [1, 2, 0] rfl)
    exact loop7 _ V _ _ _ 0 (Nat.zero_le _) (cpx.z _ _ _ _) (Nat.lt_succ_self _) hM hS (lv_sub hl [1, 2, 0] rfl)
