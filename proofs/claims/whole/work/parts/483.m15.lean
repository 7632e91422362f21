-- needs: 44 430 450 451 452 453 454 455 456 457 460 462 463 464 466 470 471 472 475 476 480 481 482
theorem jm1 {j : Nat} (h : 1 ≤ j) (h8 : j ≤ 8) : nI j - 1 + (-1) = nI (j - 1) - 1 := by
  rw [show nI j - 1 = nI (j - 1) from nSub (b := 1) rfl rfl h]; grind
set_option maxHeartbeats 4000000 in
set_option maxRecDepth 100000 in
theorem c_X8_walkOn (l : Launch) {E : En} {V : Vt} {σ : St} {pt : Nat} {T : Tk} (hpt : pt < 8) (hT : σ.2.1 pt = some T) {o i : Nat} {s1 : List Int32} {sr : List WF} {m1 bg : Nat} (hw : wM V σ ((o, i, s1) :: sr) m1 bg) {t : Int32} (et : t = nI pt) : CI l yX8_walkOn wsX8_walkOn 7 E V [.ref (E.1 + 580), .int t] (fun v V' => wPost σ pt T ((o, i, s1) :: sr) m1 bg V v V') := by
  refine Met.ofW (cc := cX8_walkOn) (maxL := 7) (ret := (some .int)) (by decide) rfl ?_
  intro p e s m args below meth c s₁ B hml hv
  obtain ⟨rfl, hM, hK⟩ := hv
  have hx := B.exec
  have hb := B.bytes
  have hret := B.returns
  have hts := atoms_spec (ws := wsX8_walkOn) B.pre
  have hown : s.vm.findClass RX8 = some m.cls := findClass_of_methodNamed B.named
  have hlocks := B.notSynchronized
  have hsz : s.heap.size = E.1 + 610 := hM.1
  have hS : va_S (AE E) s.heap s.heap [] := va_S.rf
  have inw8 : ∀ w ∈ u_ws RX8 TX8 42, w ∈ wsX8_walkOn := by decide +kernel
  have k195 := hts (.fieldLink RX8 195 "LimitTokensModel" "depth" "I") (by decide +kernel)
  have k90 := hts (.fieldLink RX8 90 "LimitTokensModel" "walker" "[I") (by decide +kernel)
  have k93 := hts (.fieldLink RX8 93 "LimitTokensModel" "step" "[I") (by decide +kernel)
  have k69 := hts (.fieldLink RX8 69 "LimitTokensModel" "limits" "[I") (by decide +kernel)
  have k78 := hts (.fieldLink RX8 78 "LimitTokensModel" "isOthers" "[Z") (by decide +kernel)
  have k99 := hts (.fieldLink RX8 99 "LimitTokensModel" "walked" "[Z") (by decide +kernel)
  have k202 := hts (.fieldLink RX8 202 "LimitTokensModel" "begun" "I") (by decide +kernel)
  have k96 := hts (.fieldLink RX8 96 "LimitTokensModel" "pile" "[I") (by decide +kernel)
  have k75 := hts (.fieldLink RX8 75 "LimitTokensModel" "text" "[I") (by decide +kernel)
  have k72 := hts (.fieldLink RX8 72 "LimitTokensModel" "textSize" "[I") (by decide +kernel)
  have k40 := hts (.fieldLink RX8 40 "LimitTokensModel" "kept" "[I") (by decide +kernel)
  have k81 := hts (.fieldLink RX8 81 "LimitTokensModel" "lock" "[I") (by decide +kernel)
  have k37 := hts (.fieldLink RX8 37 "LimitTokensModel" "out" "[I") (by decide +kernel)
  have hl := lv_entry ([.ref (E.1 + 580), .int t]) (n := 7) (Nat.le_of_ble_eq_true rfl)
  rw [lg_entry_eq]
  generalize (lg_sl ([.ref (E.1 + 580), .int t]) ++ List.replicate (7 - (lg_sl ([.ref (E.1 + 580), .int t])).length) Slot.unset).toArray = ls at hl ⊢
  have hl : lv_has ls 7 [(0, .ref (E.1 + 580)), (1, .int t)] := hl
  obtain ⟨hC, h36, h31, hst, ⟨hm, hcn⟩, hwk, hwt⟩ := id hw
  have hcn : cnt m1 + (sr.length + 1) ≤ 8 := hcn
  have h31 : V 580 31 = nI (sr.length + 1) := h31
  obtain ⟨⟨oR, oT, oP⟩, cN, cR, cT, cP, cQ, cF, cL⟩ := id hC
  obtain ⟨⟨s0, s2, s3, s4⟩, ⟨ho8, O, hO, hil, -⟩, hst2⟩ := id hst
  have s0 : V 606 sr.length = nI o := s0
  have s2 : V 607 sr.length = nI i := s2
  have s3 : seg V 608 (32 * sr.length) s1 := s3
  have s4 : s1.length = 32 := s4
  have ho8 : o < 8 := ho8
  have hO : σ.2.1 o = some O := hO
  have hil : i ≤ O.2.2.length := hil
  have hOk := oT o ho8 O hO
  have hOm := ((cT o ho8).s hO).2
  have hTk := oT pt hpt T hT
  have hTm := ((cT pt hpt).s hT).2
  have fO : tkf σ o = O := tkf_s hO
  have fT : tkf σ pt = T := tkf_s hT
  have hFb := cF.b h36
  have l10 := hOk.2.2.1
  have hif0 : ¬ i = O.2.2.length → i < (tkf σ o).2.2.length := fun q => by rw [fO]; omega
  refine lv_aload_n hx hb dX8_walkOn_0 rfl (lv_at hl 0 rfl) ?_
  refine w_gi 8 31 (T := TX8) (N := 42) hx hb hts inw8 hown hK.1 hM (by decide) (by decide) (by decide) (by decide) (by decide) rfl (by decide) k195 rfl dX8_walkOn_1 ?_
  have q : (V 580 31 : Int32) = nI (sr.length + 1) := h31
  refine lv_eqi q ?_
  refine lv_iconst (v := 1) hx hb dX8_walkOn_4 (by decide) ?_
  refine lv_isub hx hb dX8_walkOn_5 ?_
  refine lv_topi (fun x2_6 ex2_6 => ?_)
  refine lv_istore_n (lv' := [(2, .int x2_6), (0, .ref (E.1 + 580)), (1, .int t)]) hx hb dX8_walkOn_6 rfl hl (by decide) rfl (fun ls hl => ?_)
  have hd : x2_6 = nI sr.length := (ex2_6.trans (nSub (b := 1) rfl rfl (by omega))).trans (by rw [Nat.add_sub_cancel])
  refine lv_aload_n hx hb dX8_walkOn_7 rfl (lv_at hl 1 rfl) ?_
  refine w_gr 8 32 606 (T := TX8) (N := 42) hx hb hts inw8 hown hK.1 hM (by decide) (by decide) (by decide) (by decide) (by decide) rfl (by decide) k90 rfl dX8_walkOn_8 ?_
  refine lv_iload_n hx hb dX8_walkOn_11 rfl (lv_at hl 0 rfl) ?_
  have i_12 : (x2_6 : Int32) = nI (sr.length) := hd
  refine w_ild (N := 9) hx hb hK.1 hM (by decide) (by decide) (by decide) (by rw [i_12]; exact vp_in_nI (by omega) (by omega)) dX8_walkOn_12 ?_
  have j_12 : x2_6.toNatClampNeg = sr.length := (congrArg Int32.toNatClampNeg i_12).trans (nI_clamp (by omega))
  have q : (V 606 x2_6.toNatClampNeg : Int32) = V 606 sr.length := by rw [j_12]
  refine lv_eqi q ?_
  have q : (V 606 sr.length : Int32) = nI o := s0
  refine lv_eqi q ?_
  refine lv_topi (fun x3_13 ex3_13 => ?_)
  refine lv_istore_n (lv' := [(3, .int x3_13), (2, .int x2_6), (0, .ref (E.1 + 580)), (1, .int t)]) hx hb dX8_walkOn_13 rfl hl (by decide) rfl (fun ls hl => ?_)
  refine lv_aload_n hx hb dX8_walkOn_14 rfl (lv_at hl 2 rfl) ?_
  refine w_gr 8 33 607 (T := TX8) (N := 42) hx hb hts inw8 hown hK.1 hM (by decide) (by decide) (by decide) (by decide) (by decide) rfl (by decide) k93 rfl dX8_walkOn_15 ?_
  refine lv_iload_n hx hb dX8_walkOn_18 rfl (lv_at hl 1 rfl) ?_
  have i_19 : (x2_6 : Int32) = nI (sr.length) := hd
  refine w_ild (N := 9) hx hb hK.1 hM (by decide) (by decide) (by decide) (by rw [i_19]; exact vp_in_nI (by omega) (by omega)) dX8_walkOn_19 ?_
  have j_19 : x2_6.toNatClampNeg = sr.length := (congrArg Int32.toNatClampNeg i_19).trans (nI_clamp (by omega))
  have q : (V 607 x2_6.toNatClampNeg : Int32) = V 607 sr.length := by rw [j_19]
  refine lv_eqi q ?_
  have q : (V 607 sr.length : Int32) = nI i := s2
  refine lv_eqi q ?_
  refine lv_aload_n hx hb dX8_walkOn_20 rfl (lv_at hl 2 rfl) ?_
  refine w_gr 8 24 599 (T := TX8) (N := 42) hx hb hts inw8 hown hK.1 hM (by decide) (by decide) (by decide) (by decide) (by decide) rfl (by decide) k69 rfl dX8_walkOn_21 ?_
  refine lv_iload_n hx hb dX8_walkOn_24 rfl (lv_at hl 0 rfl) ?_
  have i_25 : (x3_13 : Int32) = nI (o) := (ex3_13.trans rfl)
  refine w_ild (N := 9) hx hb hK.1 hM (by decide) (by decide) (by decide) (by rw [i_25]; exact vp_in_nI (by omega) (by omega)) dX8_walkOn_25 ?_
  have j_25 : x3_13.toNatClampNeg = o := (congrArg Int32.toNatClampNeg i_25).trans (nI_clamp (by omega))
  have q : (V 599 x3_13.toNatClampNeg : Int32) = V 599 o := by rw [j_25]
  refine lv_eqi q ?_
  have q : (V 599 o : Int32) = nI O.2.2.length := hOm.2.2.1
  refine lv_eqi q ?_
  refine lv_icmp_ne (tgt := 37) hx hb dX8_walkOn_26 (by decide) (fun c_26 => ?_) (fun c_26 => ?_)
  · have n_26 : ¬ i = O.2.2.length := fun q9 => c_26 ((nEq (a := i) (b := O.2.2.length) rfl rfl (by omega) (by omega)).mpr q9)
    have hif := hif0 n_26
    have hiO : i < O.2.2.length := by omega
    have hLm := hOm.2.2.2.2 i hiO
    have hLk := hOk.2.2.2 i hiO
    have hL60 := hLk.2.1
    have hLl2 := hLk.l2
    refine lv_bipush (v := 10) hx hb dX8_walkOn_37 (by decide) ?_
    refine lv_iload_n hx hb dX8_walkOn_39 rfl (lv_at hl 0 rfl) ?_
    refine lv_imul hx hb dX8_walkOn_40 ?_
    have q : (10 * x3_13 : Int32) = nI (10 * o) := (nMul rfl (ex3_13.trans rfl))
    refine lv_eqi q ?_
    refine lv_aload_n hx hb dX8_walkOn_41 rfl (lv_at hl 2 rfl) ?_
    refine w_gr 8 33 607 (T := TX8) (N := 42) hx hb hts inw8 hown hK.1 hM (by decide) (by decide) (by decide) (by decide) (by decide) rfl (by decide) k93 rfl dX8_walkOn_42 ?_
    refine lv_iload_n hx hb dX8_walkOn_45 rfl (lv_at hl 1 rfl) ?_
    have i_46 : (x2_6 : Int32) = nI (sr.length) := hd
    refine w_ild (N := 9) hx hb hK.1 hM (by decide) (by decide) (by decide) (by rw [i_46]; exact vp_in_nI (by omega) (by omega)) dX8_walkOn_46 ?_
    have j_46 : x2_6.toNatClampNeg = sr.length := (congrArg Int32.toNatClampNeg i_46).trans (nI_clamp (by omega))
    have q : (V 607 x2_6.toNatClampNeg : Int32) = V 607 sr.length := by rw [j_46]
    refine lv_eqi q ?_
    have q : (V 607 sr.length : Int32) = nI i := s2
    refine lv_eqi q ?_
    refine lv_iadd hx hb dX8_walkOn_47 ?_
    have q : ((nI (10 * o)) + (nI i) : Int32) = nI ((10 * o) + i) := (nAdd rfl rfl)
    refine lv_eqi q ?_
    refine lv_topi (fun x4_48 ex4_48 => ?_)
    refine lv_istore (lv' := [(4, .int x4_48), (3, .int x3_13), (2, .int x2_6), (0, .ref (E.1 + 580)), (1, .int t)]) hx hb dX8_walkOn_48 hl (by decide) rfl (fun ls hl => ?_)
    refine lv_aload_n hx hb dX8_walkOn_50 rfl (lv_at hl 3 rfl) ?_
    refine w_gr 8 27 602 (T := TX8) (N := 42) hx hb hts inw8 hown hK.1 hM (by decide) (by decide) (by decide) (by decide) (by decide) rfl (by decide) k78 rfl dX8_walkOn_51 ?_
    refine lv_iload hx hb dX8_walkOn_54 (lv_at hl 0 rfl) ?_
    have i_56 : (x4_48 : Int32) = nI ((10 * o) + i) := (ex4_48.trans rfl)
    refine w_zld (N := 90) hx hb hK.1 hM (by decide) (by decide) (by decide) (by rw [i_56]; exact vp_in_nI (by omega) (by omega)) dX8_walkOn_56 ?_
    have j_56 : x4_48.toNatClampNeg = (10 * o) + i := (congrArg Int32.toNatClampNeg i_56).trans (nI_clamp (by omega))
    have q : (V 602 x4_48.toNatClampNeg : Int32) = V 602 ((10 * o) + i) := by rw [j_56]
    refine lv_eqi q ?_
    have q : (V 602 ((10 * o) + i) : Int32) = b2i (decide ((O.2.2.getD i lz).2 ≠ [])) := hLm.2.2.1
    refine lv_eqi q ?_
    refine lv_if_ne (tgt := 137) hx hb dX8_walkOn_57 (by decide) (fun c_57 => ?_) (fun c_57 => ?_)
    · have hL2 : ¬ (O.2.2.getD i lz).2 = [] := of_decide_eq_true (b2i_ne0 c_57)
      have hL2f : ¬ ((tkf σ o).2.2.getD i lz).2 = [] := by rw [fO]; exact hL2
      have hLl : (O.2.2.getD i lz).2.length = 32 := hLk.2.2.1.resolve_left hL2
      have hXl : (xorL (O.2.2.getD i lz).2 (hmac s1 (O.2.2.getD i lz).1)).length = 32 := by rw [xorL_len (by rw [hLl, hmac_len])]; exact hLl
      refine lv_iconst (v := (-1)) hx hb dX8_walkOn_137 (by decide) ?_
      refine lv_istore (lv' := [(5, .int (-1)), (4, .int x4_48), (3, .int x3_13), (2, .int x2_6), (0, .ref (E.1 + 580)), (1, .int t)]) hx hb dX8_walkOn_138 hl (by decide) rfl (fun ls hl => ?_)
      refine lv_bipush (v := 7) hx hb dX8_walkOn_140 (by decide) ?_
      refine lv_istore (lv' := [(6, .int 7), (5, .int (-1)), (4, .int x4_48), (3, .int x3_13), (2, .int x2_6), (0, .ref (E.1 + 580)), (1, .int t)]) hx hb dX8_walkOn_142 hl (by decide) rfl (fun ls hl => ?_)
      have loop144 : ∀ (fu : Nat) (Vw : Vt) (H : Heap) (locs : List Loc) (ls : Array Slot) (j : Nat) (v5 : Int32) (v6 : Int32) (hj8 : j ≤ 8) (hv6 : v6 = nI j - 1) (hv5 : v5 = hN (fH (fun z => m1.testBit z && decide ((tkf σ z).1 = (O.2.2.getD i lz).1)) (8 - j) j)) (heV : Vw = V), j < fu → Wd E Vw H → va_S (AE E) s.heap H locs → lv_has ls 7 [(0, .ref (E.1 + 580)), (1, .int t), (2, .int x2_6), (3, .int x3_13), (4, .int x4_48), (5, .int v5), (6, .int v6)] → W p l e (headSpec wsX8_walkOn (rmD 7)).room s m ([.ref (E.1 + 580), .int t] : List Value).toArray below meth c H locs 0 0 (MQ below (QI E (fun V' => Wd E V') (fun v V' => wPost σ pt T ((o, i, s1) :: sr) m1 bg V v V')) ([.ref (E.1 + 580), .int t] : List Value).toArray s 0 0 (AE E)) (F0 m 144 ls []) := by
        intro fu
        induction fu with
        | zero => intros; omega
        | succ fu ih144 =>
          intro Vw H locs ls j v5 v6 hj8 hv6 hv5 heV hfu hM hS hl
          refine lv_iload hx hb dX8_walkOn_144 (lv_at hl 6 rfl) ?_
          refine lv_if_lt (tgt := 185) hx hb dX8_walkOn_146 (by decide) (fun c_146 => ?_) (fun c_146 => ?_)
          · have hj0 : j = 0 := by rcases Nat.eq_zero_or_pos j with q | q; (exact q); (exfalso; rw [hv6, show nI j - 1 = nI (j - 1) from nSub (b := 1) rfl rfl q] at c_146; exact nI_pos (by omega) c_146)
            subst hj0
            have hv5 : v5 = hN (fH (fun z => m1.testBit z && decide ((tkf σ z).1 = (O.2.2.getD i lz).1)) 8 0) := hv5
            have hPR : (fun z => m1.testBit z && decide ((tkf σ z).1 = (O.2.2.getD i lz).1)) = (fun z => m1.testBit z && decide ((tkf σ z).1 = ((tkf σ o).2.2.getD i lz).1)) := by rw [fO]
            refine lv_iload hx hb dX8_walkOn_185 (lv_at hl 5 rfl) ?_
            refine lv_iconst (v := (-1)) hx hb dX8_walkOn_187 (by decide) ?_
            refine lv_icmp_ne (tgt := 204) hx hb dX8_walkOn_188 (by decide) (fun c_188 => ?_) (fun c_188 => ?_)
            · obtain ⟨h1, hso⟩ := hN_some (by rw [← hv5]; exact c_188)
              obtain ⟨hp1, -, hlt1⟩ := fH_some hso
              have hlt1 : h1 < 8 := by omega
              have hv5n : v5 = nI h1 := hv5.trans (by rw [hso]; rfl)
              have hb1 : m1.testBit h1 = true := by simp only [Bool.and_eq_true] at hp1; exact hp1.1
              obtain ⟨Z, hZ⟩ := hwt h1 hlt1 hb1
              have hTz : tkf σ h1 = Z := tkf_s hZ
              have hZk := oT h1 hlt1 Z hZ
              have hZm := ((cT h1 hlt1).s hZ).2
              have hc1 := cnt_pos hm hlt1 hb1
              have hcl := (clr_lt m1 hm h1 hlt1).1
              subst Vw
              refine lv_aload_n hx hb dX8_walkOn_204 rfl (lv_at hl 0 rfl) ?_
              refine w_gr 8 35 609 (T := TX8) (N := 42) hx hb hts inw8 hown hK.1 hM (by decide) (by decide) (by decide) (by decide) (by decide) rfl (by decide) k99 rfl dX8_walkOn_205 ?_
              refine lv_iload hx hb dX8_walkOn_208 (lv_at hl 5 rfl) ?_
              refine lv_iconst (v := 1) hx hb dX8_walkOn_210 (by decide) ?_
              have i_211 : (v5 : Int32) = nI (h1) := hv5n
              have j_211 : v5.toNatClampNeg = h1 := (congrArg Int32.toNatClampNeg i_211).trans (nI_clamp (by omega))
              refine w_zst (N := 8) hx hb hK.1 hM hS (by decide) (by decide) (by decide) (by rw [i_211]; exact vp_in_nI (by omega) (by omega)) (by decide) dX8_walkOn_211 (fun H locs hM hS => ?_)
              rw [j_211] at hM
              generalize hV211 : up2 V 609 h1 1 = V211 at hM
              refine lv_aload_n hx hb dX8_walkOn_212 rfl (lv_at hl 0 rfl) ?_
              refine lv_dup hx hb dX8_walkOn_213 rfl ?_
              refine w_gi 8 39 (T := TX8) (N := 42) hx hb hts inw8 hown hK.1 hM (by decide) (by decide) (by decide) (by decide) (by decide) rfl (by decide) k202 rfl dX8_walkOn_214 ?_
              have q : (V211 580 39 : Int32) = nI bg := by rw [← hV211, up2_k _ _ (by omega)]; exact hFb.2.2
              refine lv_eqi q ?_
              refine lv_iconst (v := 1) hx hb dX8_walkOn_217 (by decide) ?_
              refine lv_iadd hx hb dX8_walkOn_218 ?_
              have q : ((nI bg) + 1 : Int32) = nI (bg + 1) := (nAdd rfl rfl)
              refine lv_eqi q ?_
              refine w_pi 8 39 (T := TX8) (N := 42) hx hb hts inw8 tyX8 tyX8_ok nmX8 hown hK.1 hM hS (by decide) (by decide) (by decide) (by decide) (by decide) rfl (by decide) k202 rfl rfl rfl rfl dX8_walkOn_219 (fun H locs hM hS => ?_)
              generalize hV219 : up2 V211 580 39 (nI (bg + 1)) = V219 at hM
              have e219 : ∀ k, k ≠ 609 → k ≠ 580 → V219 k = V k := fun k a b => by rw [← hV219, up2_k _ _ b, ← hV211, up2_k _ _ a]
              have f219 : ∀ z, z ≠ 39 → V219 580 z = V 580 z := fun z a => by rw [← hV219, up2_o _ _ a, ← hV211, up2_k _ _ (by decide)]
              have cN219 : mCon V219 := cN.fr (e219 581 (by decide) (by decide)) (e219 582 (by decide) (by decide)) (e219 592 (by decide) (by decide))
              refine lv_aload_n hx hb dX8_walkOn_222 rfl (lv_at hl 0 rfl) ?_
              refine lv_aload_n hx hb dX8_walkOn_223 rfl (lv_at hl 0 rfl) ?_
              refine w_gr 8 34 608 (T := TX8) (N := 42) hx hb hts inw8 hown hK.1 hM (by decide) (by decide) (by decide) (by decide) (by decide) rfl (by decide) k96 rfl dX8_walkOn_224 ?_
              refine lv_bipush (v := 32) hx hb dX8_walkOn_227 (by decide) ?_
              refine lv_iload_n hx hb dX8_walkOn_229 rfl (lv_at hl 2 rfl) ?_
              refine lv_imul hx hb dX8_walkOn_230 ?_
              have q : (32 * x2_6 : Int32) = nI (32 * sr.length) := (nMul rfl hd)
              refine lv_eqi q ?_
              refine lv_bipush (v := 32) hx hb dX8_walkOn_231 (by decide) ?_
              refine w_cVv (C := RX8) (As := [.ref (E.1 + 608), .int (nI (32 * sr.length)), .int 32]) (rest := []) ⟨hx, hb, hml, hown, hts⟩ (m_keyIs l a608 (by decide) (b := 32 * sr.length) (n := 32) (l0 := s1) (s3.keep (e219 608 (by decide) (by decide))) (by omega) (by omega) (s4)) (cwV 3 hts gX8_walkOn_X8_keyIs rfl rfl rfl (by decide +kernel) ⟨Nat.le_of_ble_eq_true rfl, Nat.le_of_ble_eq_true rfl⟩) (w_recv (ci := 8) hK hM (by decide) (by decide) (by decide) rfl) hM hK hS rfl hl.1 rfl (lv_room (Nat.le_of_ble_eq_true rfl)) dX8_walkOn_233 ⟨Nat.le_of_ble_eq_true rfl, Nat.le_of_ble_eq_true rfl⟩ (fun V233 H locs hp233 hM hS => ?_)
              have F233 : frS V219 V233 583 591 := (frS.rf).trans (⟨fun k a b => hp233.2.2.1 k (by omega) b, fun i _ a b => hp233.2.2.2 i a b⟩)
              have hk233 := hp233.1
              have hm233 := hp233.2.1
              refine lv_aload_n hx hb dX8_walkOn_236 rfl (lv_at hl 0 rfl) ?_
              refine lv_aload_n hx hb dX8_walkOn_237 rfl (lv_at hl 0 rfl) ?_
              refine w_gr 8 26 601 (T := TX8) (N := 42) hx hb hts inw8 hown hK.1 hM (by decide) (by decide) (by decide) (by decide) (by decide) rfl (by decide) k75 rfl dX8_walkOn_238 ?_
              refine lv_bipush (v := 60) hx hb dX8_walkOn_241 (by decide) ?_
              refine lv_iload hx hb dX8_walkOn_243 (lv_at hl 4 rfl) ?_
              refine lv_imul hx hb dX8_walkOn_245 ?_
              have q : (60 * x4_48 : Int32) = nI (60 * (10 * o + i)) := (nMul rfl ex4_48)
              refine lv_eqi q ?_
              refine lv_aload_n hx hb dX8_walkOn_246 rfl (lv_at hl 0 rfl) ?_
              refine w_gr 8 25 600 (T := TX8) (N := 42) hx hb hts inw8 hown hK.1 hM (by decide) (by decide) (by decide) (by decide) (by decide) rfl (by decide) k72 rfl dX8_walkOn_247 ?_
              refine lv_iload hx hb dX8_walkOn_250 (lv_at hl 4 rfl) ?_
              have i_252 : (x4_48 : Int32) = nI (10 * o + i) := ex4_48
              refine w_ild (N := 90) hx hb hK.1 hM (by decide) (by decide) (by decide) (by rw [i_252]; exact vp_in_nI (by omega) (by omega)) dX8_walkOn_252 ?_
              have j_252 : x4_48.toNatClampNeg = 10 * o + i := (congrArg Int32.toNatClampNeg i_252).trans (nI_clamp (by omega))
              have q : (V233 600 x4_48.toNatClampNeg : Int32) = V233 600 (10 * o + i) := by rw [j_252]
              refine lv_eqi q ?_
              have q : (V233 600 (10 * o + i) : Int32) = nI (O.2.2.getD i lz).1.length := by rw [F233.1 600 (by omega) (by decide), e219 600 (by decide) (by decide)]; exact hLm.1
              refine lv_eqi q ?_
              refine w_cVv (C := RX8) (As := [.ref (E.1 + 601), .int (nI (60 * (10 * o + i))), .int (nI (O.2.2.getD i lz).1.length)]) (rest := []) ⟨hx, hb, hml, hown, hts⟩ (m_add l a601 (by decide) hm233 (b := 60 * (10 * o + i)) (n := (O.2.2.getD i lz).1.length) (l0 := (O.2.2.getD i lz).1) (F233.seg (hLm.2.1.keep (e219 601 (by decide) (by decide))) (by omega) (by omega)) (by omega) (by rw [List.length_nil]; omega) (rfl)) (cwV 3 hts gX8_walkOn_X8_add rfl rfl rfl (by decide +kernel) ⟨Nat.le_of_ble_eq_true rfl, Nat.le_of_ble_eq_true rfl⟩) (w_recv (ci := 8) hK hM (by decide) (by decide) (by decide) rfl) hM hK hS rfl hl.1 rfl (lv_room (Nat.le_of_ble_eq_true rfl)) dX8_walkOn_253 ⟨Nat.le_of_ble_eq_true rfl, Nat.le_of_ble_eq_true rfl⟩ (fun V253 H locs hp253 hM hS => ?_)
              have F253 : frS V219 V253 583 591 := (F233).trans (hp253.2.toS (by omega) (by decide))
              have hk253 := hk233.keep (hp253.2.2 10 (by decide)) (hp253.2.1 588 (by decide) (by decide))
              have hm253 := hp253.1
              refine lv_aload_n hx hb dX8_walkOn_256 rfl (lv_at hl 0 rfl) ?_
              refine w_cVv (C := RX8) (As := []) (rest := []) ⟨hx, hb, hml, hown, hts⟩ (c_X8_sealNow l (fun i hi => by rw [(F253).1 582 (by omega) (by decide)]; exact cN219.1 i hi) (fun i hi => by rw [(F253).1 581 (by omega) (by decide)]; exact cN219.2.1 i hi) hk253 hm253 (by omega) (by rw [List.nil_append]; omega)) (cwV 0 hts gX8_walkOn_X8_sealNow rfl rfl rfl (by decide +kernel) ⟨Nat.le_of_ble_eq_true rfl, Nat.le_of_ble_eq_true rfl⟩) (w_recv (ci := 8) hK hM (by decide) (by decide) (by decide) rfl) hM hK hS rfl hl.1 rfl (lv_room (Nat.le_of_ble_eq_true rfl)) dX8_walkOn_257 ⟨Nat.le_of_ble_eq_true rfl, Nat.le_of_ble_eq_true rfl⟩ (fun V257 H locs hp257 hM hS => ?_)
              rw [List.nil_append] at hp257
              have F257 : frS V219 V257 583 591 := (F253).trans (hp257.2.wide (by decide))
              refine lv_iconst (v := 0) hx hb dX8_walkOn_260 (by decide) ?_
              refine lv_istore (lv' := [(6, .int 0), (0, .ref (E.1 + 580)), (1, .int t), (2, .int x2_6), (3, .int x3_13), (4, .int x4_48), (5, .int v5)]) hx hb dX8_walkOn_261 hl (by decide) rfl (fun ls hl => ?_)
              have loop263 : ∀ (fu : Nat) (Vk : Vt) (H : Heap) (locs : List Loc) (ls : Array Slot) (z : Nat) (hz : z ≤ 32) (hcp : cpx Vk V257 591 0 z (fun x => (xorL (O.2.2.getD i lz).2 (hmac s1 (O.2.2.getD i lz).1)).getD x 0)), 32 - z < fu → Wd E Vk H → va_S (AE E) s.heap H locs → lv_has ls 7 [(0, .ref (E.1 + 580)), (1, .int t), (2, .int x2_6), (3, .int x3_13), (4, .int x4_48), (5, .int v5), (6, .int (nI z))] → W p l e (headSpec wsX8_walkOn (rmD 7)).room s m ([.ref (E.1 + 580), .int t] : List Value).toArray below meth c H locs 0 0 (MQ below (QI E (fun V' => Wd E V') (fun v V' => wPost σ pt T ((o, i, s1) :: sr) m1 bg V v V')) ([.ref (E.1 + 580), .int t] : List Value).toArray s 0 0 (AE E)) (F0 m 263 ls []) := by
                intro fu
                induction fu with
                | zero => intros; omega
                | succ fu ih263 =>
                  intro Vk H locs ls z hz hcp hfu hM hS hl
                  refine lv_iload hx hb dX8_walkOn_263 (lv_at hl 6 rfl) ?_
                  refine lv_bipush (v := 32) hx hb dX8_walkOn_265 (by decide) ?_
                  refine lv_icmp_ge (tgt := 304) hx hb dX8_walkOn_267 (by decide) (fun c_267 => ?_) (fun c_267 => ?_)
                  · have n_267 : 32 ≤ z := (nLe (a := 32) (b := z) rfl rfl (by omega) (by omega)).mp c_267
                    have hj32 : z = 32 := by omega
                    subst hj32
                    have q9 : ∀ k, (k < 583 ∨ 591 < k) → k ≠ 580 → Vk k = V219 k := fun k a b => by rw [hcp.2.2 k (by omega)]; exact F257.1 k a b
                    have q8 : ∀ z, z ≠ 7 → z ≠ 10 → z ≠ 12 → Vk 580 z = V219 580 z := fun z a b c => by rw [hcp.2.2 580 (by decide)]; exact F257.2 z a b c
                    refine lv_aload_n hx hb dX8_walkOn_304 rfl (lv_at hl 0 rfl) ?_
                    refine lv_aload_n hx hb dX8_walkOn_305 rfl (lv_at hl 0 rfl) ?_
                    refine w_gr 8 14 591 (T := TX8) (N := 42) hx hb hts inw8 hown hK.1 hM (by decide) (by decide) (by decide) (by decide) (by decide) rfl (by decide) k40 rfl dX8_walkOn_306 ?_
                    refine lv_iconst (v := 0) hx hb dX8_walkOn_309 (by decide) ?_
                    refine lv_bipush (v := 32) hx hb dX8_walkOn_310 (by decide) ?_
                    refine w_cVv (C := RX8) (As := [.ref (E.1 + 591), .int 0, .int 32]) (rest := []) ⟨hx, hb, hml, hown, hts⟩ (m_keyIs l a591 (by decide) (b := 0) (n := 32) (l0 := (xorL (O.2.2.getD i lz).2 (hmac s1 (O.2.2.getD i lz).1))) (hcp.seg (by rw [hXl]; omega) (fun _ _ => rfl)) (by omega) (by omega) hXl) (cwV 3 hts gX8_walkOn_X8_keyIs rfl rfl rfl (by decide +kernel) ⟨Nat.le_of_ble_eq_true rfl, Nat.le_of_ble_eq_true rfl⟩) (w_recv (ci := 8) hK hM (by decide) (by decide) (by decide) rfl) hM hK hS rfl hl.1 rfl (lv_room (Nat.le_of_ble_eq_true rfl)) dX8_walkOn_312 ⟨Nat.le_of_ble_eq_true rfl, Nat.le_of_ble_eq_true rfl⟩ (fun V312 H locs hp312 hM hS => ?_)
                    obtain ⟨k1, k2, k3, k4⟩ := hp312
                    have e312 : ∀ k, (k < 583 ∨ 591 < k) → k ≠ 580 → V312 k = V219 k := fun k a b => by rw [k3 k (by omega) b]; exact q9 k a b
                    have f312 : ∀ z, z ≠ 7 → z ≠ 10 → z ≠ 12 → V312 580 z = V219 580 z := fun z a b c => by rw [k4 z b c]; exact q8 z a b c
                    refine lv_aload_n hx hb dX8_walkOn_315 rfl (lv_at hl 0 rfl) ?_
                    refine lv_iload hx hb dX8_walkOn_316 (lv_at hl 5 rfl) ?_
                    refine w_cVv (C := RX8) (As := [.int v5]) (rest := []) ⟨hx, hb, hml, hown, hts⟩ (c_X8_beginWalk l (h := h1) (dp := sr.length + 1) (by omega) hv5n (kl := (xorL (O.2.2.getD i lz).2 (hmac s1 (O.2.2.getD i lz).1))) (nm := Z.1) k1 k2 (by rw [hXl]; omega) (by rw [e312 597 (by omega) (by decide), e219 597 (by decide) (by decide)]; exact hZm.1) (hZm.2.1.keep (by rw [e312 598 (by omega) (by decide), e219 598 (by decide) (by decide)])) hZk.1.2.1 (by rw [f312 31 (by decide) (by decide) (by decide), f219 31 (by decide)]; exact h31) (by omega) (cN219.fr (e312 581 (by omega) (by decide)) (e312 582 (by omega) (by decide)) (e312 592 (by omega) (by decide)))) (cwV 1 hts gX8_walkOn_X8_beginWalk rfl rfl rfl (by decide +kernel) ⟨Nat.le_of_ble_eq_true rfl, Nat.le_of_ble_eq_true rfl⟩) (w_recv (ci := 8) hK hM (by decide) (by decide) (by decide) rfl) hM hK hS rfl hl.1 rfl (lv_room (Nat.le_of_ble_eq_true rfl)) dX8_walkOn_318 ⟨Nat.le_of_ble_eq_true rfl, Nat.le_of_ble_eq_true rfl⟩ (fun V318 H locs hp318 hM hS => ?_)
                    obtain ⟨w1, w2, w3, w4, w5, w6, w7, w8, w9⟩ := hp318
                    refine lv_iconst (v := 0) hx hb dX8_walkOn_321 (by decide) ?_
                    have hpost : (fun v V' => wPost σ pt T ((o, i, s1) :: sr) m1 bg V v V') 0 V318 := by
                      refine Or.inr ⟨rfl, (h1, 0, hmac (xorL (O.2.2.getD i lz).2 (hmac s1 (O.2.2.getD i lz).1)) Z.1) :: (o, i, s1) :: sr, clr m1 h1, bg + 1, ?_, Nat.succ_pos _, ?_, ?_, ?_⟩
                      · refine wM.push (m := m1) hC h36 (st := (o, i, s1) :: sr) ⟨⟨s0, s2, s3, s4⟩, ⟨ho8, O, hO, hil, fun _ => ⟨hiO, hL2⟩⟩, hst2⟩ hlt1 hZ ⟨hcl, by simp only [List.length_cons]; omega⟩ (fun h hh => ?_) (fun h hh hb => hwt h hh ?_) w4 w1 (hmac_len _ _) w2 w3 (fun k a => by rw [w5 k a, e312 606 (by omega) (by decide), e219 606 (by decide) (by decide)]) (fun k a => by rw [w6 k a, e312 607 (by omega) (by decide), e219 607 (by decide) (by decide)]) (fun x hx => by rw [w7 x (Or.inl hx), e312 608 (by omega) (by decide), e219 608 (by decide) (by decide)]) (fun k a => by rw [w8 k (by omega) (by omega) (by omega) (by omega) (by omega), e312 k (by omega) (by omega), e219 k (by omega) (by omega)]) (fun z a => by rw [w9 z (by omega) (by omega) (by omega) (by omega), f312 z (by omega) (by omega) (by omega), f219 z (by omega)]) (by rw [w9 39 (by decide) (by decide) (by decide) (by decide), f312 39 (by decide) (by decide) (by decide), ← hV219, up2_s])
                        · rw [w8 609 (by omega) (by decide) (by decide) (by decide) (by decide), e312 609 (by omega) (by decide), ← hV219, up2_k _ _ (by decide), ← hV211, clr_bit m1 hm h1 hlt1 h hh]
                          by_cases hq : h = h1
                          · rw [hq, up2_s]; simp [b2i]
                          · rw [up2_o _ _ hq, hwk h hh]; simp [hq]
                        · rw [clr_bit m1 hm h1 hlt1 h hh, Bool.and_eq_true] at hb; exact hb.1
                      · have := tot_push (q := σ.2.2.2.1) (tk := tkf σ) (ps := T.2.1) (st := sr) (s := s1) (w := (m1, bg)) (h := h1) hif hL2f (by rw [← hPR]; exact hso) (by omega); rw [fO, hTz] at this; exact this
                      · simp only [muS]; rw [hTz]; have := hZk.2.2.1; omega
                      · exact fun k a => by rw [w8 k (by omega) (by omega) (by omega) (by omega) (by omega), e312 k (by omega) (by omega), e219 k (by omega) (by omega)]
                    exact w_iret V318 hx hb hret hK hS hM (hpost) hlocks dX8_walkOn_322
                  · have n_267 : ¬ 32 ≤ z := fun q9 => c_267 ((nLe (a := 32) (b := z) rfl rfl (by omega) (by omega)).mpr q9)
                    refine lv_aload_n hx hb dX8_walkOn_270 rfl (lv_at hl 0 rfl) ?_
                    refine w_gr 8 14 591 (T := TX8) (N := 42) hx hb hts inw8 hown hK.1 hM (by decide) (by decide) (by decide) (by decide) (by decide) rfl (by decide) k40 rfl dX8_walkOn_271 ?_
                    refine lv_iload hx hb dX8_walkOn_274 (lv_at hl 6 rfl) ?_
                    refine lv_aload_n hx hb dX8_walkOn_276 rfl (lv_at hl 0 rfl) ?_
                    refine w_gr 8 28 603 (T := TX8) (N := 42) hx hb hts inw8 hown hK.1 hM (by decide) (by decide) (by decide) (by decide) (by decide) rfl (by decide) k81 rfl dX8_walkOn_277 ?_
                    refine lv_bipush (v := 32) hx hb dX8_walkOn_280 (by decide) ?_
                    refine lv_iload hx hb dX8_walkOn_282 (lv_at hl 4 rfl) ?_
                    refine lv_imul hx hb dX8_walkOn_284 ?_
                    have q : (32 * x4_48 : Int32) = nI (32 * (10 * o + i)) := (nMul rfl ex4_48)
                    refine lv_eqi q ?_
                    refine lv_iload hx hb dX8_walkOn_285 (lv_at hl 6 rfl) ?_
                    refine lv_iadd hx hb dX8_walkOn_287 ?_
                    have q : ((nI (32 * (10 * o + i))) + (nI z) : Int32) = nI ((32 * (10 * o + i)) + z) := (nAdd rfl rfl)
                    refine lv_eqi q ?_
                    have i_288 : (nI ((32 * (10 * o + i)) + z) : Int32) = nI ((32 * (10 * o + i)) + z) := rfl
                    refine w_ild (N := 2880) hx hb hK.1 hM (by decide) (by decide) (by decide) (by rw [i_288]; exact vp_in_nI (by omega) (by omega)) dX8_walkOn_288 ?_
                    have j_288 : (nI ((32 * (10 * o + i)) + z)).toNatClampNeg = (32 * (10 * o + i)) + z := (congrArg Int32.toNatClampNeg i_288).trans (nI_clamp (by omega))
                    have q : (Vk 603 (nI ((32 * (10 * o + i)) + z)).toNatClampNeg : Int32) = Vk 603 ((32 * (10 * o + i)) + z) := by rw [j_288]
                    refine lv_eqi q ?_
                    have q : (Vk 603 ((32 * (10 * o + i)) + z) : Int32) = (O.2.2.getD i lz).2.getD z 0 := by rw [hcp.2.2 603 (by decide), F257.1 603 (by omega) (by decide), e219 603 (by decide) (by decide)]; exact hLm.2.2.2 z (by omega)
                    refine lv_eqi q ?_
                    refine lv_aload_n hx hb dX8_walkOn_289 rfl (lv_at hl 0 rfl) ?_
                    refine w_gr 8 13 590 (T := TX8) (N := 42) hx hb hts inw8 hown hK.1 hM (by decide) (by decide) (by decide) (by decide) (by decide) rfl (by decide) k37 rfl dX8_walkOn_290 ?_
                    refine lv_iload hx hb dX8_walkOn_293 (lv_at hl 6 rfl) ?_
                    have i_295 : (nI z : Int32) = nI (z) := rfl
                    refine w_ild (N := 32) hx hb hK.1 hM (by decide) (by decide) (by decide) (by rw [i_295]; exact vp_in_nI (by omega) (by omega)) dX8_walkOn_295 ?_
                    have j_295 : (nI z).toNatClampNeg = z := (congrArg Int32.toNatClampNeg i_295).trans (nI_clamp (by omega))
                    have q : (Vk 590 (nI z).toNatClampNeg : Int32) = Vk 590 z := by rw [j_295]
                    refine lv_eqi q ?_
                    have q : (Vk 590 z : Int32) = (hmac s1 (O.2.2.getD i lz).1).getD z 0 := by rw [hcp.2.2 590 (by decide)]; exact hp257.1.z (by rw [hmac_len]; omega)
                    refine lv_eqi q ?_
                    refine lv_ixor hx hb dX8_walkOn_296 ?_
                    have i_297 : (nI z : Int32) = nI (z) := rfl
                    have j_297 : (nI z).toNatClampNeg = z := (congrArg Int32.toNatClampNeg i_297).trans (nI_clamp (by omega))
                    refine w_ist (N := 32) hx hb hK.1 hM hS (by decide) (by decide) (by decide) (by rw [i_297]; exact vp_in_nI (by omega) (by omega)) dX8_walkOn_297 (fun H locs hM hS => ?_)
                    rw [j_297] at hM
                    generalize hV297 : up2 Vk 591 z (((O.2.2.getD i lz).2.getD z 0) ^^^ ((hmac s1 (O.2.2.getD i lz).1).getD z 0)) = V297 at hM
                    obtain ⟨x6_298, ex6_298⟩ : ∃ y : Int32, y = (nI z) + 1 := ⟨_, rfl⟩
                    refine lv_iinc (v := x6_298) (lv' := [(6, .int x6_298), (0, .ref (E.1 + 580)), (1, .int t), (2, .int x2_6), (3, .int x3_13), (4, .int x4_48), (5, .int v5)]) hx hb dX8_walkOn_298 hl (k := 6) rfl (by rw [ex6_298]; rfl) (by decide) rfl (fun ls hl => ?_)
                    refine lv_goto (tgt := 263) hx hb dX8_walkOn_301 (by decide) ?_
                    rw [show x6_298 = nI (z + 1) from (ex6_298.trans (nAdd rfl rfl))] at hl
                    exact ih263 V297 _ _ _ (z + 1) (by omega) (hcp.s hV297 (by omega) (xorL_gd (by omega) (by rw [hmac_len]; omega)).symm) (by omega) hM hS (lv_sub hl [1, 2, 3, 4, 5, 6, 0] rfl)
              exact loop263 _ V257 _ _ _ 0 (Nat.zero_le _) (cpx.z _ _ _ _) (Nat.lt_succ_self _) hM hS (lv_sub hl [1, 2, 3, 4, 5, 6, 0] rfl)
            · have hno : fH (fun z => m1.testBit z && decide ((tkf σ z).1 = (O.2.2.getD i lz).1)) 8 0 = none := hN_none (hv5.symm.trans c_188) (fun x hx => by have := (fH_some hx).2.2; omega)
              subst Vw
              refine lv_aload_n hx hb dX8_walkOn_191 rfl (lv_at hl 0 rfl) ?_
              refine lv_iconst (v := 3) hx hb dX8_walkOn_192 (by decide) ?_
              refine lv_iload_n hx hb dX8_walkOn_193 rfl (lv_at hl 3 rfl) ?_
              refine lv_aload_n hx hb dX8_walkOn_194 rfl (lv_at hl 0 rfl) ?_
              refine w_gr 8 33 607 (T := TX8) (N := 42) hx hb hts inw8 hown hK.1 hM (by decide) (by decide) (by decide) (by decide) (by decide) rfl (by decide) k93 rfl dX8_walkOn_195 ?_
              refine lv_iload_n hx hb dX8_walkOn_198 rfl (lv_at hl 2 rfl) ?_
              have i_199 : (x2_6 : Int32) = nI (sr.length) := hd
              refine w_ild (N := 9) hx hb hK.1 hM (by decide) (by decide) (by decide) (by rw [i_199]; exact vp_in_nI (by omega) (by omega)) dX8_walkOn_199 ?_
              have j_199 : x2_6.toNatClampNeg = sr.length := (congrArg Int32.toNatClampNeg i_199).trans (nI_clamp (by omega))
              have q : (V 607 x2_6.toNatClampNeg : Int32) = V 607 sr.length := by rw [j_199]
              refine lv_eqi q ?_
              have q : (V 607 sr.length : Int32) = nI i := s2
              refine lv_eqi q ?_
              refine w_cVi (C := RX8) (As := [.int 3, .int x3_13, .int (nI i)]) (rest := []) ⟨hx, hb, hml, hown, hts⟩ (c_X8_fail l 3 x3_13 (nI i)) (cwV 3 hts gX8_walkOn_X8_fail rfl rfl rfl (by decide +kernel) ⟨Nat.le_of_ble_eq_true rfl, Nat.le_of_ble_eq_true rfl⟩) (w_recv (ci := 8) hK hM (by decide) (by decide) (by decide) rfl) hM hK hS rfl hl.1 rfl (lv_room (Nat.le_of_ble_eq_true rfl)) dX8_walkOn_200 ⟨Nat.le_of_ble_eq_true rfl, Nat.le_of_ble_eq_true rfl⟩ (fun r200 V200 H locs hp200 hM hS => ?_)
              obtain ⟨er200, eV200⟩ := hp200
              have hpost : (fun v V' => wPost σ pt T ((o, i, s1) :: sr) m1 bg V v V') r200 V200 := by
                refine Or.inl ?_
                rw [show totS σ T ((o, i, s1) :: sr) m1 bg = (.inl (3, o, i), (m1, bg)) from tot_3 (q := σ.2.2.2.1) (tk := tkf σ) (ps := T.2.1) (st := sr) (s := s1) (w := (m1, bg)) hif hL2f (by rw [← hPR]; exact hno)]
                simp only [fin]
                refine ⟨er200.trans rfl, hC.flt (f := (nI o, nI i, nI bg)) (fun k a => by rw [eV200, up2_k _ _ (by omega), up2_k _ _ (by omega)]) (fun z a => by rw [eV200, up2_o _ _ (by omega), up2_o _ _ (by omega)]) (by rw [eV200, up2_o _ _ (by decide), up2_o _ _ (by decide)]; exact h36) (by rw [eV200, up2_o _ _ (by decide), up2_s]; exact ex3_13) (by rw [eV200, up2_s]) (by rw [eV200, up2_o _ _ (by decide), up2_o _ _ (by decide)]; exact hFb.2.2), fun k a => by rw [eV200, up2_k _ _ (by omega), up2_k _ _ (by omega)], fun h0 => absurd (er200.symm.trans h0) (by decide)⟩
              exact w_iret V200 hx hb hret hK hS hM (hpost) hlocks dX8_walkOn_203
          · have hj0 : 1 ≤ j := by rcases Nat.eq_zero_or_pos j with q | q; (exfalso; apply c_146; rw [hv6, q]; decide); (exact q)
            have hv6n : v6 = nI (j - 1) := hv6.trans (nSub (b := 1) rfl rfl hj0)
            have fst : fH (fun z => m1.testBit z && decide ((tkf σ z).1 = (O.2.2.getD i lz).1)) (8 - (j - 1)) (j - 1) = if (fun z => m1.testBit z && decide ((tkf σ z).1 = (O.2.2.getD i lz).1)) (j - 1) then some (j - 1) else fH (fun z => m1.testBit z && decide ((tkf σ z).1 = (O.2.2.getD i lz).1)) (8 - j) j := by rw [show 8 - (j - 1) = (8 - j) + 1 by omega, fH_s, show j - 1 + 1 = j by omega]
            have hs5n : (fun z => m1.testBit z && decide ((tkf σ z).1 = (O.2.2.getD i lz).1)) (j - 1) = false → v5 = hN (fH (fun z => m1.testBit z && decide ((tkf σ z).1 = (O.2.2.getD i lz).1)) (8 - (j - 1)) (j - 1)) := fun q => by rw [fst, if_neg (by rw [q]; decide)]; exact hv5
            have hs5y : (fun z => m1.testBit z && decide ((tkf σ z).1 = (O.2.2.getD i lz).1)) (j - 1) = true → v6 = hN (fH (fun z => m1.testBit z && decide ((tkf σ z).1 = (O.2.2.getD i lz).1)) (8 - (j - 1)) (j - 1)) := fun q => by rw [fst, if_pos q]; exact hv6n
            refine lv_aload_n hx hb dX8_walkOn_149 rfl (lv_at hl 0 rfl) ?_
            refine w_gr 8 35 609 (T := TX8) (N := 42) hx hb hts inw8 hown hK.1 hM (by decide) (by decide) (by decide) (by decide) (by decide) rfl (by decide) k99 rfl dX8_walkOn_150 ?_
            refine lv_iload hx hb dX8_walkOn_153 (lv_at hl 6 rfl) ?_
            have i_155 : (v6 : Int32) = nI (j - 1) := hv6n
            refine w_zld (N := 8) hx hb hK.1 hM (by decide) (by decide) (by decide) (by rw [i_155]; exact vp_in_nI (by omega) (by omega)) dX8_walkOn_155 ?_
            have j_155 : v6.toNatClampNeg = j - 1 := (congrArg Int32.toNatClampNeg i_155).trans (nI_clamp (by omega))
            have q : (Vw 609 v6.toNatClampNeg : Int32) = Vw 609 (j - 1) := by rw [j_155]
            refine lv_eqi q ?_
            have q : (Vw 609 (j - 1) : Int32) = b2i (!m1.testBit (j - 1)) := by rw [heV]; exact hwk _ (by omega)
            refine lv_eqi q ?_
            refine lv_if_ne (tgt := 175) hx hb dX8_walkOn_156 (by decide) (fun c_156 => ?_) (fun c_156 => ?_)
            · have b155 : m1.testBit (j - 1) = false := by have := b2i_ne0 c_156; simpa using this
              refine lv_iload hx hb dX8_walkOn_175 (lv_at hl 5 rfl) ?_
              refine lv_istore (lv' := [(5, .int v5), (0, .ref (E.1 + 580)), (1, .int t), (2, .int x2_6), (3, .int x3_13), (4, .int x4_48), (6, .int v6)]) hx hb dX8_walkOn_177 hl (by decide) rfl (fun ls hl => ?_)
              obtain ⟨x6_179, ex6_179⟩ : ∃ y : Int32, y = v6 + (-1) := ⟨_, rfl⟩
              refine lv_iinc (v := x6_179) (lv' := [(6, .int x6_179), (5, .int v5), (0, .ref (E.1 + 580)), (1, .int t), (2, .int x2_6), (3, .int x3_13), (4, .int x4_48)]) hx hb dX8_walkOn_179 hl (k := 6) rfl (by rw [ex6_179]; rfl) (by decide) rfl (fun ls hl => ?_)
              refine lv_goto (tgt := 144) hx hb dX8_walkOn_182 (by decide) ?_
              exact ih144 Vw _ _ _ (j - 1) _ _ (by omega) (by rw [show x6_179 = v6 + (-1) from ex6_179, hv6]; exact jm1 hj0 hj8) (hs5n (by simp only [b155, Bool.false_and])) heV (by omega) hM hS (lv_sub hl [2, 3, 4, 5, 6, 1, 0] rfl)
            · have b155 : m1.testBit (j - 1) = true := by have := b2i_eq0 c_156; simpa using this
              obtain ⟨Z, hZ⟩ := hwt (j - 1) (by omega) b155
              have hTz : tkf σ (j - 1) = Z := tkf_s hZ
              have hZk := oT (j - 1) (by omega) Z hZ
              have hZm := ((cT (j - 1) (by omega)).s hZ).2
              refine lv_aload_n hx hb dX8_walkOn_159 rfl (lv_at hl 0 rfl) ?_
              refine lv_iload hx hb dX8_walkOn_160 (lv_at hl 6 rfl) ?_
              refine lv_iload hx hb dX8_walkOn_162 (lv_at hl 4 rfl) ?_
              refine w_cVi (C := RX8) (As := [.int v6, .int x4_48]) (rest := []) ⟨hx, hb, hml, hown, hts⟩ (c_X8_isNamed l (nm := Z.1) (tx := (O.2.2.getD i lz).1) (t1 := j - 1) (l1 := 10 * o + i) (by omega) (by omega) (by rw [heV]; exact hZm.1) (hZm.2.1.keep (by rw [heV])) (by rw [heV]; exact hLm.1) (hLm.2.1.keep (by rw [heV])) hZk.1.2.1 hL60 hv6n ex4_48) (cwV 2 hts gX8_walkOn_X8_isNamed rfl rfl rfl (by decide +kernel) ⟨Nat.le_of_ble_eq_true rfl, Nat.le_of_ble_eq_true rfl⟩) (w_recv (ci := 8) hK hM (by decide) (by decide) (by decide) rfl) hM hK hS rfl hl.1 rfl (lv_room (Nat.le_of_ble_eq_true rfl)) dX8_walkOn_164 ⟨Nat.le_of_ble_eq_true rfl, Nat.le_of_ble_eq_true rfl⟩ (fun r164 V164 H locs hp164 hM hS => ?_)
              obtain ⟨er164, eV⟩ := hp164
              rw [eV] at hM; clear eV
              refine lv_if_eq (tgt := 175) hx hb dX8_walkOn_167 (by decide) (fun c_167 => ?_) (fun c_167 => ?_)
              · have b167 : decide (Z.1 = (O.2.2.getD i lz).1) = false := b2i_eq0 (er164.symm.trans c_167)
                refine lv_iload hx hb dX8_walkOn_175 (lv_at hl 5 rfl) ?_
                refine lv_istore (lv' := [(5, .int v5), (0, .ref (E.1 + 580)), (1, .int t), (2, .int x2_6), (3, .int x3_13), (4, .int x4_48), (6, .int v6)]) hx hb dX8_walkOn_177 hl (by decide) rfl (fun ls hl => ?_)
                obtain ⟨x6_179, ex6_179⟩ : ∃ y : Int32, y = v6 + (-1) := ⟨_, rfl⟩
                refine lv_iinc (v := x6_179) (lv' := [(6, .int x6_179), (5, .int v5), (0, .ref (E.1 + 580)), (1, .int t), (2, .int x2_6), (3, .int x3_13), (4, .int x4_48)]) hx hb dX8_walkOn_179 hl (k := 6) rfl (by rw [ex6_179]; rfl) (by decide) rfl (fun ls hl => ?_)
                refine lv_goto (tgt := 144) hx hb dX8_walkOn_182 (by decide) ?_
                exact ih144 Vw _ _ _ (j - 1) _ _ (by omega) (by rw [show x6_179 = v6 + (-1) from ex6_179, hv6]; exact jm1 hj0 hj8) (hs5n (by simp only [b155, hTz, b167, Bool.true_and])) heV (by omega) hM hS (lv_sub hl [2, 3, 4, 5, 6, 1, 0] rfl)
              · have b167 : decide (Z.1 = (O.2.2.getD i lz).1) = true := b2i_ne0 (by rw [← er164]; exact c_167)
                refine lv_iload hx hb dX8_walkOn_170 (lv_at hl 6 rfl) ?_
                refine lv_goto (tgt := 177) hx hb dX8_walkOn_172 (by decide) ?_
                refine lv_istore (lv' := [(5, .int v6), (0, .ref (E.1 + 580)), (1, .int t), (2, .int x2_6), (3, .int x3_13), (4, .int x4_48), (6, .int v6)]) hx hb dX8_walkOn_177 hl (by decide) rfl (fun ls hl => ?_)
                obtain ⟨x6_179, ex6_179⟩ : ∃ y : Int32, y = v6 + (-1) := ⟨_, rfl⟩
                refine lv_iinc (v := x6_179) (lv' := [(6, .int x6_179), (5, .int v6), (0, .ref (E.1 + 580)), (1, .int t), (2, .int x2_6), (3, .int x3_13), (4, .int x4_48)]) hx hb dX8_walkOn_179 hl (k := 6) rfl (by rw [ex6_179]; rfl) (by decide) rfl (fun ls hl => ?_)
                refine lv_goto (tgt := 144) hx hb dX8_walkOn_182 (by decide) ?_
                exact ih144 Vw _ _ _ (j - 1) _ _ (by omega) (by rw [show x6_179 = v6 + (-1) from ex6_179, hv6]; exact jm1 hj0 hj8) (hs5y (by simp only [b155, hTz, b167, Bool.and_self])) heV (by omega) hM hS (lv_sub hl [2, 3, 4, 5, 6, 1, 0] rfl)
      exact loop144 _ V _ _ _ 8 _ _ (Nat.le_refl _) (by decide) (rfl) (rfl) (Nat.lt_succ_self _) hM hS (lv_sub hl [5, 6, 4, 3, 2, 1, 0] rfl)
    · have hL2 : (O.2.2.getD i lz).2 = [] := Decidable.of_not_not (of_decide_eq_false (b2i_eq0 c_57))
      have hL2f : ((tkf σ o).2.2.getD i lz).2 = [] := by rw [fO]; exact hL2
      refine lv_aload_n hx hb dX8_walkOn_60 rfl (lv_at hl 3 rfl) ?_
      refine lv_aload_n hx hb dX8_walkOn_61 rfl (lv_at hl 3 rfl) ?_
      refine w_gr 8 26 601 (T := TX8) (N := 42) hx hb hts inw8 hown hK.1 hM (by decide) (by decide) (by decide) (by decide) (by decide) rfl (by decide) k75 rfl dX8_walkOn_62 ?_
      refine lv_bipush (v := 60) hx hb dX8_walkOn_65 (by decide) ?_
      refine lv_iload hx hb dX8_walkOn_67 (lv_at hl 0 rfl) ?_
      refine lv_imul hx hb dX8_walkOn_69 ?_
      have q : (60 * x4_48 : Int32) = nI (60 * ((10 * o) + i)) := (nMul rfl (ex4_48.trans rfl))
      refine lv_eqi q ?_
      refine lv_aload_n hx hb dX8_walkOn_70 rfl (lv_at hl 3 rfl) ?_
      refine w_gr 8 25 600 (T := TX8) (N := 42) hx hb hts inw8 hown hK.1 hM (by decide) (by decide) (by decide) (by decide) (by decide) rfl (by decide) k72 rfl dX8_walkOn_71 ?_
      refine lv_iload hx hb dX8_walkOn_74 (lv_at hl 0 rfl) ?_
      have i_76 : (x4_48 : Int32) = nI ((10 * o) + i) := (ex4_48.trans rfl)
      refine w_ild (N := 90) hx hb hK.1 hM (by decide) (by decide) (by decide) (by rw [i_76]; exact vp_in_nI (by omega) (by omega)) dX8_walkOn_76 ?_
      have j_76 : x4_48.toNatClampNeg = (10 * o) + i := (congrArg Int32.toNatClampNeg i_76).trans (nI_clamp (by omega))
      have q : (V 600 x4_48.toNatClampNeg : Int32) = V 600 ((10 * o) + i) := by rw [j_76]
      refine lv_eqi q ?_
      have q : (V 600 ((10 * o) + i) : Int32) = nI (O.2.2.getD i lz).1.length := hLm.1
      refine lv_eqi q ?_
      refine w_cVi (C := RX8) (As := [.ref (E.1 + 601), .int (nI (60 * ((10 * o) + i))), .int (nI (O.2.2.getD i lz).1.length)]) (rest := []) ⟨hx, hb, hml, hown, hts⟩ (c_X8_truthOf l a601 (b := 60 * (10 * o + i)) (lt := (O.2.2.getD i lz).1) hLm.2.1 (by omega) hLk.2.2.2.1 (qq := σ.2.2.2.1) cQ) (cwV 3 hts gX8_walkOn_X8_truthOf rfl rfl rfl (by decide +kernel) ⟨Nat.le_of_ble_eq_true rfl, Nat.le_of_ble_eq_true rfl⟩) (w_recv (ci := 8) hK hM (by decide) (by decide) (by decide) rfl) hM hK hS rfl hl.1 rfl (lv_room (Nat.le_of_ble_eq_true rfl)) dX8_walkOn_77 ⟨Nat.le_of_ble_eq_true rfl, Nat.le_of_ble_eq_true rfl⟩ (fun r77 V77 H locs hp77 hM hS => ?_)
      obtain ⟨er77, eV⟩ := hp77
      rw [eV] at hM; clear eV
      refine lv_istore (lv' := [(5, .int r77), (4, .int x4_48), (3, .int x3_13), (2, .int x2_6), (0, .ref (E.1 + 580)), (1, .int t)]) hx hb dX8_walkOn_80 hl (by decide) rfl (fun ls hl => ?_)
      refine lv_iload hx hb dX8_walkOn_82 (lv_at hl 0 rfl) ?_
      refine lv_iconst (v := 1) hx hb dX8_walkOn_84 (by decide) ?_
      refine lv_icmp_eq (tgt := 111) hx hb dX8_walkOn_85 (by decide) (fun c_85 => ?_) (fun c_85 => ?_)
      · have ht1 : truth σ.2.2.2.1 ((tkf σ o).2.2.getD i lz).1 = 1 := by rw [fO, ← er77]; exact c_85
        refine lv_aload_n hx hb dX8_walkOn_111 rfl (lv_at hl 4 rfl) ?_
        refine lv_aload_n hx hb dX8_walkOn_112 rfl (lv_at hl 4 rfl) ?_
        refine w_gr 8 34 608 (T := TX8) (N := 42) hx hb hts inw8 hown hK.1 hM (by decide) (by decide) (by decide) (by decide) (by decide) rfl (by decide) k96 rfl dX8_walkOn_113 ?_
        refine lv_bipush (v := 32) hx hb dX8_walkOn_116 (by decide) ?_
        refine lv_iload_n hx hb dX8_walkOn_118 rfl (lv_at hl 3 rfl) ?_
        refine lv_imul hx hb dX8_walkOn_119 ?_
        have q : (32 * x2_6 : Int32) = nI (32 * sr.length) := (nMul rfl hd)
        refine lv_eqi q ?_
        refine lv_iload hx hb dX8_walkOn_120 (lv_at hl 1 rfl) ?_
        refine w_cVv (C := RX8) (As := [.ref (E.1 + 608), .int (nI (32 * sr.length)), .int x4_48]) (rest := []) ⟨hx, hb, hml, hown, hts⟩ (c_X8_goOn l a608 (by decide) (b := 32 * sr.length) (by omega) (s0 := s1) s3 s4 (l1 := 10 * o + i) (by omega) (L := (O.2.2.getD i lz)) hLm hLk cN ex4_48) (cwV 3 hts gX8_walkOn_X8_goOn rfl rfl rfl (by decide +kernel) ⟨Nat.le_of_ble_eq_true rfl, Nat.le_of_ble_eq_true rfl⟩) (w_recv (ci := 8) hK hM (by decide) (by decide) (by decide) rfl) hM hK hS rfl hl.1 rfl (lv_room (Nat.le_of_ble_eq_true rfl)) dX8_walkOn_122 ⟨Nat.le_of_ble_eq_true rfl, Nat.le_of_ble_eq_true rfl⟩ (fun V122 H locs hp122 hM hS => ?_)
        obtain ⟨g1, g2, g3, g4⟩ := hp122
        refine lv_aload_n hx hb dX8_walkOn_125 rfl (lv_at hl 4 rfl) ?_
        refine w_gr 8 33 607 (T := TX8) (N := 42) hx hb hts inw8 hown hK.1 hM (by decide) (by decide) (by decide) (by decide) (by decide) rfl (by decide) k93 rfl dX8_walkOn_126 ?_
        refine lv_iload_n hx hb dX8_walkOn_129 rfl (lv_at hl 3 rfl) ?_
        refine lv_dup2_11 hx hb dX8_walkOn_130 rfl rfl ?_
        have i_131 : (x2_6 : Int32) = nI (sr.length) := hd
        refine w_ild (N := 9) hx hb hK.1 hM (by decide) (by decide) (by decide) (by rw [i_131]; exact vp_in_nI (by omega) (by omega)) dX8_walkOn_131 ?_
        have j_131 : x2_6.toNatClampNeg = sr.length := (congrArg Int32.toNatClampNeg i_131).trans (nI_clamp (by omega))
        have q : (V122 607 x2_6.toNatClampNeg : Int32) = V122 607 sr.length := by rw [j_131]
        refine lv_eqi q ?_
        have q : (V122 607 sr.length : Int32) = nI i := by rw [g3 607 (by omega) (by decide) (by decide)]; exact s2
        refine lv_eqi q ?_
        refine lv_iconst (v := 1) hx hb dX8_walkOn_132 (by decide) ?_
        refine lv_iadd hx hb dX8_walkOn_133 ?_
        have q : ((nI i) + 1 : Int32) = nI (i + 1) := (nAdd rfl rfl)
        refine lv_eqi q ?_
        have i_134 : (x2_6 : Int32) = nI (sr.length) := hd
        have j_134 : x2_6.toNatClampNeg = sr.length := (congrArg Int32.toNatClampNeg i_134).trans (nI_clamp (by omega))
        refine w_ist (N := 9) hx hb hK.1 hM hS (by decide) (by decide) (by decide) (by rw [i_134]; exact vp_in_nI (by omega) (by omega)) dX8_walkOn_134 (fun H locs hM hS => ?_)
        rw [j_134] at hM
        generalize hV134 : up2 V122 607 sr.length (nI (i + 1)) = V134 at hM
        refine lv_iconst (v := 0) hx hb dX8_walkOn_135 (by decide) ?_
        have hpost : (fun v V' => wPost σ pt T ((o, i, s1) :: sr) m1 bg V v V') 0 V134 := by
          refine Or.inr ⟨rfl, (o, i + 1, goOnL s1 (O.2.2.getD i lz)) :: sr, m1, bg, ?_, Nat.succ_pos _, ?_, ?_, ?_⟩
          · have e134 : ∀ k, k ≠ 607 → V134 k = V122 k := fun k a => by rw [← hV134, up2_k _ _ a]
            exact wM.step hC h36 hst hO hiO ⟨hm, hcn⟩ hwk hwt (by rw [e134 580 (by decide), g4 31 (by decide) (by decide) (by decide)]; exact h31) (g1.keep (e134 608 (by decide))) (goOnL_len _ _) (by rw [← hV134, up2_s]) (by rw [e134 606 (by decide), g3 606 (by omega) (by decide) (by decide)]) (fun k a => by rw [← hV134, up2_o _ _ a, g3 607 (by omega) (by decide) (by decide)]) (fun x hx => by rw [e134 608 (by decide), g2 x (by omega)]) ⟨fun k a => by rw [e134 k (by omega), g3 k (by omega) (by omega) (by omega)], fun z a => by rw [e134 580 (by decide), g4 z (by omega) (by omega) (by omega)]⟩ (by rw [e134 609 (by decide), g3 609 (by omega) (by decide) (by decide)])
          · have := tot_own (q := σ.2.2.2.1) (tk := tkf σ) (ps := T.2.1) (st := sr) (s := s1) (w := (m1, bg)) hif hL2f ht1; rw [fO] at this; exact this.symm
          · simp only [muS]; rw [fO]; omega
          · exact fun k a => by rw [← hV134, up2_k _ _ (by omega), g3 k (by omega) (by omega) (by omega)]
        exact w_iret V134 hx hb hret hK hS hM (hpost) hlocks dX8_walkOn_136
      · have htf : ¬ truth σ.2.2.2.1 ((tkf σ o).2.2.getD i lz).1 = 1 := by rw [fO, ← er77]; exact c_85
        refine lv_aload_n hx hb dX8_walkOn_88 rfl (lv_at hl 4 rfl) ?_
        refine lv_iload hx hb dX8_walkOn_89 (lv_at hl 0 rfl) ?_
        refine lv_iconst (v := (-1)) hx hb dX8_walkOn_91 (by decide) ?_
        refine lv_icmp_ne (tgt := 99) hx hb dX8_walkOn_92 (by decide) (fun c_92 => ?_) (fun c_92 => ?_)
        · have hw1 : ¬ truth σ.2.2.2.1 (O.2.2.getD i lz).1 = -1 := by rw [← er77]; exact c_92
          refine lv_iconst (v := 2) hx hb dX8_walkOn_99 (by decide) ?_
          refine lv_iload_n hx hb dX8_walkOn_100 rfl (lv_at hl 2 rfl) ?_
          refine lv_aload_n hx hb dX8_walkOn_101 rfl (lv_at hl 4 rfl) ?_
          refine w_gr 8 33 607 (T := TX8) (N := 42) hx hb hts inw8 hown hK.1 hM (by decide) (by decide) (by decide) (by decide) (by decide) rfl (by decide) k93 rfl dX8_walkOn_102 ?_
          refine lv_iload_n hx hb dX8_walkOn_105 rfl (lv_at hl 3 rfl) ?_
          have i_106 : (x2_6 : Int32) = nI (sr.length) := hd
          refine w_ild (N := 9) hx hb hK.1 hM (by decide) (by decide) (by decide) (by rw [i_106]; exact vp_in_nI (by omega) (by omega)) dX8_walkOn_106 ?_
          have j_106 : x2_6.toNatClampNeg = sr.length := (congrArg Int32.toNatClampNeg i_106).trans (nI_clamp (by omega))
          have q : (V 607 x2_6.toNatClampNeg : Int32) = V 607 sr.length := by rw [j_106]
          refine lv_eqi q ?_
          have q : (V 607 sr.length : Int32) = nI i := s2
          refine lv_eqi q ?_
          refine w_cVi (C := RX8) (As := [.int 2, .int x3_13, .int (nI i)]) (rest := []) ⟨hx, hb, hml, hown, hts⟩ (c_X8_fail l 2 x3_13 (nI i)) (cwV 3 hts gX8_walkOn_X8_fail rfl rfl rfl (by decide +kernel) ⟨Nat.le_of_ble_eq_true rfl, Nat.le_of_ble_eq_true rfl⟩) (w_recv (ci := 8) hK hM (by decide) (by decide) (by decide) rfl) hM hK hS rfl hl.1 rfl (lv_room (Nat.le_of_ble_eq_true rfl)) dX8_walkOn_107 ⟨Nat.le_of_ble_eq_true rfl, Nat.le_of_ble_eq_true rfl⟩ (fun r107 V107 H locs hp107 hM hS => ?_)
          obtain ⟨er107, eV107⟩ := hp107
          have hpost : (fun v V' => wPost σ pt T ((o, i, s1) :: sr) m1 bg V v V') r107 V107 := by
            refine Or.inl ?_
            rw [show totS σ T ((o, i, s1) :: sr) m1 bg = (.inl (2, o, i), (m1, bg)) from by have := tot_12 (q := σ.2.2.2.1) (tk := tkf σ) (ps := T.2.1) (st := sr) (s := s1) (w := (m1, bg)) hif hL2f htf; rw [fO] at this; rw [if_neg hw1] at this; exact this]
            simp only [fin]
            refine ⟨er107.trans rfl, hC.flt (f := (nI o, nI i, nI bg)) (fun k a => by rw [eV107, up2_k _ _ (by omega), up2_k _ _ (by omega)]) (fun z a => by rw [eV107, up2_o _ _ (by omega), up2_o _ _ (by omega)]) (by rw [eV107, up2_o _ _ (by decide), up2_o _ _ (by decide)]; exact h36) (by rw [eV107, up2_o _ _ (by decide), up2_s]; exact ex3_13) (by rw [eV107, up2_s]) (by rw [eV107, up2_o _ _ (by decide), up2_o _ _ (by decide)]; exact hFb.2.2), fun k a => by rw [eV107, up2_k _ _ (by omega), up2_k _ _ (by omega)], fun h0 => absurd (er107.symm.trans h0) (by decide)⟩
          exact w_iret V107 hx hb hret hK hS hM (hpost) hlocks dX8_walkOn_110
        · have hw1 : truth σ.2.2.2.1 (O.2.2.getD i lz).1 = -1 := by rw [← er77]; exact c_92
          refine lv_iconst (v := 1) hx hb dX8_walkOn_95 (by decide) ?_
          refine lv_goto (tgt := 100) hx hb dX8_walkOn_96 (by decide) ?_
          refine lv_iload_n hx hb dX8_walkOn_100 rfl (lv_at hl 2 rfl) ?_
          refine lv_aload_n hx hb dX8_walkOn_101 rfl (lv_at hl 4 rfl) ?_
          refine w_gr 8 33 607 (T := TX8) (N := 42) hx hb hts inw8 hown hK.1 hM (by decide) (by decide) (by decide) (by decide) (by decide) rfl (by decide) k93 rfl dX8_walkOn_102 ?_
          refine lv_iload_n hx hb dX8_walkOn_105 rfl (lv_at hl 3 rfl) ?_
          have i_106 : (x2_6 : Int32) = nI (sr.length) := hd
          refine w_ild (N := 9) hx hb hK.1 hM (by decide) (by decide) (by decide) (by rw [i_106]; exact vp_in_nI (by omega) (by omega)) dX8_walkOn_106 ?_
          have j_106 : x2_6.toNatClampNeg = sr.length := (congrArg Int32.toNatClampNeg i_106).trans (nI_clamp (by omega))
          have q : (V 607 x2_6.toNatClampNeg : Int32) = V 607 sr.length := by rw [j_106]
          refine lv_eqi q ?_
          have q : (V 607 sr.length : Int32) = nI i := s2
          refine lv_eqi q ?_
          refine w_cVi (C := RX8) (As := [.int 1, .int x3_13, .int (nI i)]) (rest := []) ⟨hx, hb, hml, hown, hts⟩ (c_X8_fail l 1 x3_13 (nI i)) (cwV 3 hts gX8_walkOn_X8_fail rfl rfl rfl (by decide +kernel) ⟨Nat.le_of_ble_eq_true rfl, Nat.le_of_ble_eq_true rfl⟩) (w_recv (ci := 8) hK hM (by decide) (by decide) (by decide) rfl) hM hK hS rfl hl.1 rfl (lv_room (Nat.le_of_ble_eq_true rfl)) dX8_walkOn_107 ⟨Nat.le_of_ble_eq_true rfl, Nat.le_of_ble_eq_true rfl⟩ (fun r107 V107 H locs hp107 hM hS => ?_)
          obtain ⟨er107, eV107⟩ := hp107
          have hpost : (fun v V' => wPost σ pt T ((o, i, s1) :: sr) m1 bg V v V') r107 V107 := by
            refine Or.inl ?_
            rw [show totS σ T ((o, i, s1) :: sr) m1 bg = (.inl (1, o, i), (m1, bg)) from by have := tot_12 (q := σ.2.2.2.1) (tk := tkf σ) (ps := T.2.1) (st := sr) (s := s1) (w := (m1, bg)) hif hL2f htf; rw [fO] at this; rw [if_pos hw1] at this; exact this]
            simp only [fin]
            refine ⟨er107.trans rfl, hC.flt (f := (nI o, nI i, nI bg)) (fun k a => by rw [eV107, up2_k _ _ (by omega), up2_k _ _ (by omega)]) (fun z a => by rw [eV107, up2_o _ _ (by omega), up2_o _ _ (by omega)]) (by rw [eV107, up2_o _ _ (by decide), up2_o _ _ (by decide)]; exact h36) (by rw [eV107, up2_o _ _ (by decide), up2_s]; exact ex3_13) (by rw [eV107, up2_s]) (by rw [eV107, up2_o _ _ (by decide), up2_o _ _ (by decide)]; exact hFb.2.2), fun k a => by rw [eV107, up2_k _ _ (by omega), up2_k _ _ (by omega)], fun h0 => absurd (er107.symm.trans h0) (by decide)⟩
          exact w_iret V107 hx hb hret hK hS hM (hpost) hlocks dX8_walkOn_110
  · have n_26 : i = O.2.2.length := (nEq (a := i) (b := O.2.2.length) rfl rfl (by omega) (by omega)).mp c_26
    refine lv_aload_n hx hb dX8_walkOn_29 rfl (lv_at hl 2 rfl) ?_
    refine lv_iload_n hx hb dX8_walkOn_30 rfl (lv_at hl 3 rfl) ?_
    refine lv_iload_n hx hb dX8_walkOn_31 rfl (lv_at hl 1 rfl) ?_
    refine lv_iload_n hx hb dX8_walkOn_32 rfl (lv_at hl 0 rfl) ?_
    refine w_cVi (C := RX8) (As := [.int t, .int x2_6, .int x3_13]) (rest := []) ⟨hx, hb, hml, hown, hts⟩ (c_X8_endWalk l hpt hT hw et (O1 := O) n_26 hO hd ex3_13) (cwV 3 hts gX8_walkOn_X8_endWalk rfl rfl rfl (by decide +kernel) ⟨Nat.le_of_ble_eq_true rfl, Nat.le_of_ble_eq_true rfl⟩) (w_recv (ci := 8) hK hM (by decide) (by decide) (by decide) rfl) hM hK hS rfl hl.1 rfl (lv_room (Nat.le_of_ble_eq_true rfl)) dX8_walkOn_33 ⟨Nat.le_of_ble_eq_true rfl, Nat.le_of_ble_eq_true rfl⟩ (fun r33 V33 H locs hp33 hM hS => ?_)
    exact w_iret V33 hx hb hret hK hS hM (hp33) hlocks dX8_walkOn_36
