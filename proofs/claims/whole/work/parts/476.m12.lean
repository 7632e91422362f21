-- needs: 44 450 451 456 460 462 463 464 475
set_option maxHeartbeats 4000000 in
set_option maxRecDepth 100000 in
theorem c_X8_truthOf (l : Launch) {E : En} {V : Vt} {ca na : Nat} (ha : isA ca na) {b : Nat} {lt : List Int32} (hs : seg V ca b lt) (hbn : b + lt.length ≤ na) (okt : okL lt) {qq : Nat → Int32} (cQ : ∀ i, i < 8 → V 605 i = qq i) : CI l yX8_truthOf wsX8_truthOf 2 E V [.ref (E.1 + 580), .ref (E.1 + ca), .int (nI b), .int (nI lt.length)] (fun v V' => v = truth qq lt ∧ V' = V) := by
  refine Met.ofW (cc := cX8_truthOf) (maxL := 15) (ret := (some .int)) (by decide) rfl ?_
  intro p e s m args below meth c s₁ B hml hv
  obtain ⟨rfl, hM, hK⟩ := hv
  have hx := B.exec
  have hb := B.bytes
  have hret := B.returns
  have hts := atoms_spec (ws := wsX8_truthOf) B.pre
  have hown : s.vm.findClass RX8 = some m.cls := findClass_of_methodNamed B.named
  have hlocks := B.notSynchronized
  have hsz : s.heap.size = E.1 + 610 := hM.1
  have hS : va_S (AE E) s.heap s.heap [] := va_S.rf
  have inw8 : ∀ w ∈ u_ws RX8 TX8 42, w ∈ wsX8_truthOf := by decide +kernel
  have k87 := hts (.fieldLink RX8 87 "LimitTokensModel" "asked" "[I") (by decide +kernel)
  have hl := lv_entry ([.ref (E.1 + 580), .ref (E.1 + ca), .int (nI b), .int (nI lt.length)]) (n := 15) (Nat.le_of_ble_eq_true rfl)
  rw [lg_entry_eq]
  generalize (lg_sl ([.ref (E.1 + 580), .ref (E.1 + ca), .int (nI b), .int (nI lt.length)]) ++ List.replicate (15 - (lg_sl ([.ref (E.1 + 580), .ref (E.1 + ca), .int (nI b), .int (nI lt.length)])).length) Slot.unset).toArray = ls at hl ⊢
  have hl : lv_has ls 15 [(0, .ref (E.1 + 580)), (1, .ref (E.1 + ca)), (2, .int (nI b)), (3, .int (nI lt.length))] := hl
  have hna := ha.c
  refine lv_iload_n hx hb dX8_truthOf_0 rfl (lv_at hl 2 rfl) ?_
  refine lv_iload_n hx hb dX8_truthOf_1 rfl (lv_at hl 3 rfl) ?_
  refine lv_iadd hx hb dX8_truthOf_2 ?_
  have q : ((nI b) + (nI lt.length) : Int32) = nI (b + lt.length) := (nAdd rfl rfl)
  refine lv_eqi q ?_
  refine lv_topi (fun x4_3 ex4_3 => ?_)
  refine lv_istore (lv' := [(4, .int x4_3), (0, .ref (E.1 + 580)), (1, .ref (E.1 + ca)), (2, .int (nI b)), (3, .int (nI lt.length))]) hx hb dX8_truthOf_3 hl (by decide) rfl (fun ls hl => ?_)
  refine lv_iload_n hx hb dX8_truthOf_5 rfl (lv_at hl 3 rfl) ?_
  refine lv_topi (fun x5_6 ex5_6 => ?_)
  refine lv_istore (lv' := [(5, .int x5_6), (4, .int x4_3), (0, .ref (E.1 + 580)), (1, .ref (E.1 + ca)), (2, .int (nI b)), (3, .int (nI lt.length))]) hx hb dX8_truthOf_6 hl (by decide) rfl (fun ls hl => ?_)
  refine lv_iconst (v := 0) hx hb dX8_truthOf_8 (by decide) ?_
  refine lv_istore (lv' := [(6, .int 0), (5, .int x5_6), (4, .int x4_3), (0, .ref (E.1 + 580)), (1, .ref (E.1 + ca)), (2, .int (nI b)), (3, .int (nI lt.length))]) hx hb dX8_truthOf_9 hl (by decide) rfl (fun ls hl => ?_)
  refine lv_iconst (v := 1) hx hb dX8_truthOf_11 (by decide) ?_
  refine lv_istore (lv' := [(7, .int 1), (6, .int 0), (5, .int x5_6), (4, .int x4_3), (0, .ref (E.1 + 580)), (1, .ref (E.1 + ca)), (2, .int (nI b)), (3, .int (nI lt.length))]) hx hb dX8_truthOf_12 hl (by decide) rfl (fun ls hl => ?_)
  refine lv_iconst (v := 1) hx hb dX8_truthOf_14 (by decide) ?_
  refine lv_istore (lv' := [(8, .int 1), (7, .int 1), (6, .int 0), (5, .int x5_6), (4, .int x4_3), (0, .ref (E.1 + 580)), (1, .ref (E.1 + ca)), (2, .int (nI b)), (3, .int (nI lt.length))]) hx hb dX8_truthOf_15 hl (by decide) rfl (fun ls hl => ?_)
  have loop17 : ∀ (fu : Nat) (Vw : Vt) (H : Heap) (locs : List Loc) (ls : Array Slot) (pp : Nat) (f : Nat) (one : Bool) (al : Bool) (mo : Bool) (v6 : Int32) (v7 : Int32) (v8 : Int32) (e6 : v6 = b2i one) (e7 : v7 = b2i al) (e8 : v8 = b2i mo) (hm : (mo = true ∧ truth qq lt = txt qq lt f pp one al ∧ lt.length + 1 ≤ f + pp) ∨ (mo = false ∧ truth qq lt = b2i one)) (hpp : pp ≤ lt.length + 1) (heV : Vw = V), lt.length + 2 - pp < fu → Wd E Vw H → va_S (AE E) s.heap H locs → lv_has ls 15 [(0, .ref (E.1 + 580)), (1, .ref (E.1 + ca)), (4, .int (nI (b + lt.length))), (5, .int (nI (b + pp))), (6, .int v6), (7, .int v7), (8, .int v8)] → W p l e (headSpec wsX8_truthOf (rmD 2)).room s m ([.ref (E.1 + 580), .ref (E.1 + ca), .int (nI b), .int (nI lt.length)] : List Value).toArray below meth c H locs 0 0 (MQ below (QI E (fun V' => Wd E V') (fun v V' => v = truth qq lt ∧ V' = V)) ([.ref (E.1 + 580), .ref (E.1 + ca), .int (nI b), .int (nI lt.length)] : List Value).toArray s 0 0 (AE E)) (F0 m 17 ls []) := by
    intro fu
    induction fu with
    | zero => intros; omega
    | succ fu ih17 =>
      intro Vw H locs ls pp f one al mo v6 v7 v8 e6 e7 e8 hm hpp heV hfu hM hS hl
      refine lv_iload hx hb dX8_truthOf_17 (lv_at hl 6 rfl) ?_
      refine lv_if_eq (tgt := 402) hx hb dX8_truthOf_19 (by decide) (fun c_19 => ?_) (fun c_19 => ?_)
      · have hmo : mo = false := b2i_eq0 (e8.symm.trans c_19)
        have hT : truth qq lt = b2i one := by rcases hm with ⟨h1, _⟩ | ⟨_, h1⟩; (rw [hmo] at h1; cases h1); (exact h1)
        refine lv_iload hx hb dX8_truthOf_402 (lv_at hl 4 rfl) ?_
        refine lv_if_eq (tgt := 411) hx hb dX8_truthOf_404 (by decide) (fun c_404 => ?_) (fun c_404 => ?_)
        · have one0 := b2i_eq0 (e6.symm.trans c_404)
          refine lv_iconst (v := 0) hx hb dX8_truthOf_411 (by decide) ?_
          exact w_iret Vw hx hb hret hK hS hM (⟨by rw [hT, one0]; rfl, heV⟩) hlocks dX8_truthOf_412
        · have one0 := b2i_ne0 (by rw [← e6]; exact c_404)
          refine lv_iconst (v := 1) hx hb dX8_truthOf_407 (by decide) ?_
          refine lv_goto (tgt := 412) hx hb dX8_truthOf_408 (by decide) ?_
          exact w_iret Vw hx hb hret hK hS hM (⟨by rw [hT, one0]; rfl, heV⟩) hlocks dX8_truthOf_412
      · have hmo : mo = true := b2i_ne0 (by rw [← e8]; exact c_19)
        obtain ⟨hT, hfu2⟩ : truth qq lt = txt qq lt f pp one al ∧ lt.length + 1 ≤ f + pp := by rcases hm with ⟨_, h1, h2⟩ | ⟨h1, _⟩; (exact ⟨h1, h2⟩); (rw [hmo] at h1; cases h1)
        have join45 : ∀ (Vw : Vt) (H : Heap) (locs : List Loc) (ls : Array Slot) (nt : Bool) (w9 : Int32) (hnt : decide (Bt lt pp = 33) = nt) (e9 : w9 = b2i nt) (heV : Vw = V), Wd E Vw H → va_S (AE E) s.heap H locs → lv_has ls 15 [(0, .ref (E.1 + 580)), (1, .ref (E.1 + ca)), (4, .int (nI (b + lt.length))), (5, .int (nI (b + pp))), (6, .int v6), (7, .int v7), (9, .int w9)] → W p l e (headSpec wsX8_truthOf (rmD 2)).room s m ([.ref (E.1 + 580), .ref (E.1 + ca), .int (nI b), .int (nI lt.length)] : List Value).toArray below meth c H locs 0 0 (MQ below (QI E (fun V' => Wd E V') (fun v V' => v = truth qq lt ∧ V' = V)) ([.ref (E.1 + 580), .ref (E.1 + ca), .int (nI b), .int (nI lt.length)] : List Value).toArray s 0 0 (AE E)) (F0 m 45 ls []) := by
          intro Vw H locs ls nt w9 hnt e9 heV hM hS hl
          have join60 : ∀ (Vw : Vt) (H : Heap) (locs : List Loc) (ls : Array Slot) (pl : Nat) (hpl : pl = p1 lt pp) (heV : Vw = V), Wd E Vw H → va_S (AE E) s.heap H locs → lv_has ls 15 [(0, .ref (E.1 + 580)), (1, .ref (E.1 + ca)), (4, .int (nI (b + lt.length))), (5, .int (nI (b + pl))), (6, .int v6), (7, .int v7), (9, .int w9)] → W p l e (headSpec wsX8_truthOf (rmD 2)).room s m ([.ref (E.1 + 580), .ref (E.1 + ca), .int (nI b), .int (nI lt.length)] : List Value).toArray below meth c H locs 0 0 (MQ below (QI E (fun V' => Wd E V') (fun v V' => v = truth qq lt ∧ V' = V)) ([.ref (E.1 + 580), .ref (E.1 + ca), .int (nI b), .int (nI lt.length)] : List Value).toArray s 0 0 (AE E)) (F0 m 60 ls []) := by
            intro Vw H locs ls pl hpl heV hM hS hl
            have hplb : pl ≤ pp + 1 ∧ pp ≤ pl := by rw [hpl]; unfold p1; split <;> omega
            refine lv_iload hx hb dX8_truthOf_60 (lv_at hl 3 rfl) ?_
            refine lv_iconst (v := 2) hx hb dX8_truthOf_62 (by decide) ?_
            refine lv_iadd hx hb dX8_truthOf_63 ?_
            have q : ((nI (b + pl)) + 2 : Int32) = nI ((b + pl) + 2) := (nAdd rfl rfl)
            refine lv_eqi q ?_
            refine lv_iload hx hb dX8_truthOf_64 (lv_at hl 2 rfl) ?_
            refine lv_icmp_ge (tgt := 83) hx hb dX8_truthOf_66 (by decide) (fun c_66 => ?_) (fun c_66 => ?_)
            · have n_66 : (b + lt.length) ≤ ((b + pl) + 2) := (nLe (a := (b + lt.length)) (b := ((b + pl) + 2)) rfl rfl (by omega) (by omega)).mp c_66
              refine lv_iconst (v := (-1)) hx hb dX8_truthOf_83 (by decide) ?_
              have hpost : (fun v V' => v = truth qq lt ∧ V' = V) (-1) Vw := by
                refine ⟨?_, heV⟩
                rw [hT, txt_none (tst_no1 (by rw [← hpl]; omega))]
              exact w_iret Vw hx hb hret hK hS hM (hpost) hlocks dX8_truthOf_84
            · have n_66 : ¬ (b + lt.length) ≤ ((b + pl) + 2) := fun q9 => c_66 ((nLe (a := (b + lt.length)) (b := ((b + pl) + 2)) rfl rfl (by omega) (by omega)).mpr q9)
              refine lv_aload_n hx hb dX8_truthOf_69 rfl (lv_at hl 1 rfl) ?_
              refine lv_iload hx hb dX8_truthOf_70 (lv_at hl 3 rfl) ?_
              have i_72 : (nI (b + pl) : Int32) = nI (b + pl) := rfl
              refine w_ild (N := na) hx hb hK.1 hM ha.lt ha.k ha.n (by rw [i_72]; exact vp_in_nI (by omega) (by omega)) dX8_truthOf_72 ?_
              have j_72 : (nI (b + pl)).toNatClampNeg = b + pl := (congrArg Int32.toNatClampNeg i_72).trans (nI_clamp (by omega))
              have q : (Vw ca (nI (b + pl)).toNatClampNeg : Int32) = Vw ca (b + pl) := by rw [j_72]
              refine lv_eqi q ?_
              have q : (Vw ca (b + pl) : Int32) = lt.getD (pl) 0 := by rw [heV]; exact hs (pl) (by omega)
              refine lv_eqi q ?_
              refine lv_bipush (v := 97) hx hb dX8_truthOf_73 (by decide) ?_
              refine lv_bipush (v := 104) hx hb dX8_truthOf_75 (by decide) ?_
              refine w_cSi (As := [.int (lt.getD (pl) 0), .int 97, .int 104]) (rest := []) ⟨hx, hb, hml, hown, hts⟩ (c_X8_within l (lt.getD (pl) 0) 97 104) (va_cwS 3 hts gX8_truthOf_X8_within rfl rfl rfl (by decide +kernel) ⟨Nat.le_of_ble_eq_true rfl, Nat.le_of_ble_eq_true rfl⟩) hM hK hS rfl hl.1 rfl (lv_room (Nat.le_of_ble_eq_true rfl)) dX8_truthOf_77 ⟨Nat.le_of_ble_eq_true rfl, Nat.le_of_ble_eq_true rfl⟩ (fun r77 V77 H locs hp77 hM hS => ?_)
              obtain ⟨er77, eV⟩ := hp77
              rw [eV] at hM; clear eV
              refine lv_if_ne (tgt := 85) hx hb dX8_truthOf_80 (by decide) (fun c_80 => ?_) (fun c_80 => ?_)
              · have i80 : inR (lt.getD (pl) 0) 97 104 = true := b2i_ne0 (by rw [← er77]; exact c_80)
                obtain ⟨lol, hil, enl⟩ := inR_j i80 (m := 97) (n := 104) rfl rfl (by omega) (by omega)
                refine lv_aload_n hx hb dX8_truthOf_85 rfl (lv_at hl 0 rfl) ?_
                refine w_gr 8 30 605 (T := TX8) (N := 42) hx hb hts inw8 hown hK.1 hM (by decide) (by decide) (by decide) (by decide) (by decide) rfl (by decide) k87 rfl dX8_truthOf_86 ?_
                refine lv_aload_n hx hb dX8_truthOf_89 rfl (lv_at hl 1 rfl) ?_
                refine lv_iload hx hb dX8_truthOf_90 (lv_at hl 3 rfl) ?_
                have i_92 : (nI (b + pl) : Int32) = nI (b + pl) := rfl
                refine w_ild (N := na) hx hb hK.1 hM ha.lt ha.k ha.n (by rw [i_92]; exact vp_in_nI (by omega) (by omega)) dX8_truthOf_92 ?_
                have j_92 : (nI (b + pl)).toNatClampNeg = b + pl := (congrArg Int32.toNatClampNeg i_92).trans (nI_clamp (by omega))
                have q : (Vw ca (nI (b + pl)).toNatClampNeg : Int32) = Vw ca (b + pl) := by rw [j_92]
                refine lv_eqi q ?_
                have q : (Vw ca (b + pl) : Int32) = lt.getD (pl) 0 := by rw [heV]; exact hs _ (by omega)
                refine lv_eqi q ?_
                refine lv_bipush (v := 97) hx hb dX8_truthOf_93 (by decide) ?_
                refine lv_isub hx hb dX8_truthOf_95 ?_
                have i_96 : ((lt.getD (pl) 0) - 97 : Int32) = nI ((rj (lt.getD (pl) 0)) - 97) := (nSub enl rfl (by omega))
                refine w_ild (N := 8) hx hb hK.1 hM (by decide) (by decide) (by decide) (by rw [i_96]; exact vp_in_nI (by omega) (by omega)) dX8_truthOf_96 ?_
                have j_96 : ((lt.getD (pl) 0) - 97).toNatClampNeg = (rj (lt.getD (pl) 0)) - 97 := (congrArg Int32.toNatClampNeg i_96).trans (nI_clamp (by omega))
                have q : (Vw 605 ((lt.getD (pl) 0) - 97).toNatClampNeg : Int32) = Vw 605 ((rj (lt.getD (pl) 0)) - 97) := by rw [j_96]
                refine lv_eqi q ?_
                have q : (Vw 605 ((rj (lt.getD (pl) 0)) - 97) : Int32) = qq (rj (lt.getD (pl) 0) - 97) := by rw [heV]; exact cQ _ (by omega)
                refine lv_eqi q ?_
                refine lv_topi (fun x10_97 ex10_97 => ?_)
                refine lv_istore (lv' := [(10, .int x10_97), (0, .ref (E.1 + 580)), (1, .ref (E.1 + ca)), (4, .int (nI (b + lt.length))), (5, .int (nI (b + pl))), (6, .int v6), (7, .int v7), (9, .int w9)]) hx hb dX8_truthOf_97 hl (by decide) rfl (fun ls hl => ?_)
                refine lv_aload_n hx hb dX8_truthOf_99 rfl (lv_at hl 2 rfl) ?_
                refine lv_iload hx hb dX8_truthOf_100 (lv_at hl 4 rfl) ?_
                refine lv_iconst (v := 1) hx hb dX8_truthOf_102 (by decide) ?_
                refine lv_iadd hx hb dX8_truthOf_103 ?_
                have q : ((nI (b + pl)) + 1 : Int32) = nI ((b + pl) + 1) := (nAdd rfl rfl)
                refine lv_eqi q ?_
                have i_104 : (nI ((b + pl) + 1) : Int32) = nI ((b + pl) + 1) := rfl
                refine w_ild (N := na) hx hb hK.1 hM ha.lt ha.k ha.n (by rw [i_104]; exact vp_in_nI (by omega) (by omega)) dX8_truthOf_104 ?_
                have j_104 : (nI ((b + pl) + 1)).toNatClampNeg = (b + pl) + 1 := (congrArg Int32.toNatClampNeg i_104).trans (nI_clamp (by omega))
                have q : (Vw ca (nI ((b + pl) + 1)).toNatClampNeg : Int32) = Vw ca ((b + pl) + 1) := by rw [j_104]
                refine lv_eqi q ?_
                have q : (Vw ca ((b + pl) + 1) : Int32) = lt.getD (pl + 1) 0 := by rw [heV]; exact hs (pl + 1) (by omega)
                refine lv_eqi q ?_
                refine lv_topi (fun x11_105 ex11_105 => ?_)
                refine lv_istore (lv' := [(11, .int x11_105), (10, .int x10_97), (0, .ref (E.1 + 580)), (1, .ref (E.1 + ca)), (4, .int (nI (b + lt.length))), (5, .int (nI (b + pl))), (6, .int v6), (7, .int v7), (9, .int w9)]) hx hb dX8_truthOf_105 hl (by decide) rfl (fun ls hl => ?_)
                obtain ⟨x5_107, ex5_107⟩ : ∃ y : Int32, y = (nI (b + pl)) + 2 := ⟨_, rfl⟩
                refine lv_iinc (v := x5_107) (lv' := [(5, .int x5_107), (11, .int x11_105), (10, .int x10_97), (0, .ref (E.1 + 580)), (1, .ref (E.1 + ca)), (4, .int (nI (b + lt.length))), (6, .int v6), (7, .int v7), (9, .int w9)]) hx hb dX8_truthOf_107 hl (k := 5) rfl (by rw [ex5_107]; rfl) (by decide) rfl (fun ls hl => ?_)
                refine lv_iconst (v := 0) hx hb dX8_truthOf_110 (by decide) ?_
                refine lv_istore (lv' := [(12, .int 0), (5, .int x5_107), (11, .int x11_105), (10, .int x10_97), (0, .ref (E.1 + 580)), (1, .ref (E.1 + ca)), (4, .int (nI (b + lt.length))), (6, .int v6), (7, .int v7), (9, .int w9)]) hx hb dX8_truthOf_111 hl (by decide) rfl (fun ls hl => ?_)
                have join164 : ∀ (Vw : Vt) (H : Heap) (locs : List Loc) (ls : Array Slot) (d : Nat) (nv : Nat) (hd7 : d ≤ 7) (env : nv = nvS lt (pl + 2) d) (hdl : pl + 2 + d ≤ lt.length) (hdd : ∀ z, z < d → isDg (Bt lt (pl + 2 + z)) = true) (hde : d < 7 → isDg (Bt lt (pl + 2 + d)) = false) (heV : Vw = V), Wd E Vw H → va_S (AE E) s.heap H locs → lv_has ls 15 [(0, .ref (E.1 + 580)), (1, .ref (E.1 + ca)), (4, .int (nI (b + lt.length))), (5, .int (nI (b + (pl + 2 + d)))), (6, .int v6), (7, .int v7), (9, .int w9), (10, .int x10_97), (11, .int x11_105), (12, .int (nI d)), (13, .int (nI nv))] → W p l e (headSpec wsX8_truthOf (rmD 2)).room s m ([.ref (E.1 + 580), .ref (E.1 + ca), .int (nI b), .int (nI lt.length)] : List Value).toArray below meth c H locs 0 0 (MQ below (QI E (fun V' => Wd E V') (fun v V' => v = truth qq lt ∧ V' = V)) ([.ref (E.1 + 580), .ref (E.1 + ca), .int (nI b), .int (nI lt.length)] : List Value).toArray s 0 0 (AE E)) (F0 m 164 ls []) := by
                  intro Vw H locs ls d nv hd7 env hdl hdd hde heV hM hS hl
                  have hnv := nvS_7 hd7 hdd
                  have join192 : ∀ (Vw : Vt) (H : Heap) (locs : List Loc) (ls : Array Slot)  (hkd : isKd x11_105 = true) (heV : Vw = V), Wd E Vw H → va_S (AE E) s.heap H locs → lv_has ls 15 [(0, .ref (E.1 + 580)), (1, .ref (E.1 + ca)), (4, .int (nI (b + lt.length))), (5, .int (nI (b + (pl + 2 + d)))), (6, .int v6), (7, .int v7), (9, .int w9), (10, .int x10_97), (11, .int x11_105), (12, .int (nI d)), (13, .int (nI nv))] → W p l e (headSpec wsX8_truthOf (rmD 2)).room s m ([.ref (E.1 + 580), .ref (E.1 + ca), .int (nI b), .int (nI lt.length)] : List Value).toArray below meth c H locs 0 0 (MQ below (QI E (fun V' => Wd E V') (fun v V' => v = truth qq lt ∧ V' = V)) ([.ref (E.1 + 580), .ref (E.1 + ca), .int (nI b), .int (nI lt.length)] : List Value).toArray s 0 0 (AE E)) (F0 m 192 ls []) := by
                    intro Vw H locs ls  hkd heV hM hS hl
                    refine lv_iload hx hb dX8_truthOf_192 (lv_at hl 9 rfl) ?_
                    refine lv_iconst (v := 1) hx hb dX8_truthOf_194 (by decide) ?_
                    refine lv_bipush (v := 6) hx hb dX8_truthOf_195 (by decide) ?_
                    refine w_cSi (As := [.int (nI d), .int 1, .int 6]) (rest := []) ⟨hx, hb, hml, hown, hts⟩ (c_X8_within l (nI d) 1 6) (va_cwS 3 hts gX8_truthOf_X8_within rfl rfl rfl (by decide +kernel) ⟨Nat.le_of_ble_eq_true rfl, Nat.le_of_ble_eq_true rfl⟩) hM hK hS rfl hl.1 rfl (lv_room (Nat.le_of_ble_eq_true rfl)) dX8_truthOf_197 ⟨Nat.le_of_ble_eq_true rfl, Nat.le_of_ble_eq_true rfl⟩ (fun r197 V197 H locs hp197 hM hS => ?_)
                    obtain ⟨er197, eV⟩ := hp197
                    rw [eV] at hM; clear eV
                    refine lv_if_ne (tgt := 205) hx hb dX8_truthOf_200 (by decide) (fun c_200 => ?_) (fun c_200 => ?_)
                    · have i200 : inR (nI d) 1 6 = true := b2i_ne0 (by rw [← er197]; exact c_200)
                      rw [show inR (nI d) 1 6 = (decide (1 ≤ d) && decide (d ≤ 6)) from inR_n (a := 1) (b := 6) (by omega) (by omega) (by omega), Bool.and_eq_true, decide_eq_true_eq, decide_eq_true_eq] at i200
                      have hnd : nd lt 6 (pl + 2) = d := nd_eq d 6 _ (by omega) hdd (fun _ => hde (by omega))
                      have htst : tst qq lt pp = some ((hold x10_97 x11_105 (nI nv) != nt), pl + 2 + d) := by have h := tst_yesm (q := qq) (lt := lt) (i := pp) (d := d) (by rw [← hpl, Bt_in (by omega)]; exact okt.gd _) (by rw [← hpl, Bt_in (by omega)]; exact i80) (by rw [← hpl, Bt_in (by omega), ← ex11_105]; exact hkd) (by rw [← hpl]; exact hnd) i200.1; rw [← hpl, Bt_in (show pl < lt.length by omega), Bt_in (show pl + 1 < lt.length by omega), ← ex11_105, ← ex10_97, ← env, hnt] at h; exact h
                      have ht9 := hT.trans (txt_some htst (f := f) (by omega) one al)
                      have join302 : ∀ (Vw : Vt) (H : Heap) (locs : List Loc) (ls : Array Slot) (v0 : Int32) (e0 : v0 = b2i (hold x10_97 x11_105 (nI nv))) (heV : Vw = V), Wd E Vw H → va_S (AE E) s.heap H locs → lv_has ls 15 [(0, .ref (E.1 + 580)), (1, .ref (E.1 + ca)), (4, .int (nI (b + lt.length))), (5, .int (nI (b + (pl + 2 + d)))), (6, .int v6), (7, .int v7), (9, .int w9)] → W p l e (headSpec wsX8_truthOf (rmD 2)).room s m ([.ref (E.1 + 580), .ref (E.1 + ca), .int (nI b), .int (nI lt.length)] : List Value).toArray below meth c H locs 0 0 (MQ below (QI E (fun V' => Wd E V') (fun v V' => v = truth qq lt ∧ V' = V)) ([.ref (E.1 + 580), .ref (E.1 + ca), .int (nI b), .int (nI lt.length)] : List Value).toArray s 0 0 (AE E)) (F0 m 302 ls [.int v0]) := by
                        intro Vw H locs ls v0 e0 heV hM hS hl
                        have join323 : ∀ (Vw : Vt) (H : Heap) (locs : List Loc) (ls : Array Slot) (w7 : Int32) (ew7 : w7 = b2i (al && (hold x10_97 x11_105 (nI nv) != nt))) (heV : Vw = V), Wd E Vw H → va_S (AE E) s.heap H locs → lv_has ls 15 [(0, .ref (E.1 + 580)), (1, .ref (E.1 + ca)), (4, .int (nI (b + lt.length))), (5, .int (nI (b + (pl + 2 + d)))), (6, .int v6), (7, .int w7)] → W p l e (headSpec wsX8_truthOf (rmD 2)).room s m ([.ref (E.1 + 580), .ref (E.1 + ca), .int (nI b), .int (nI lt.length)] : List Value).toArray below meth c H locs 0 0 (MQ below (QI E (fun V' => Wd E V') (fun v V' => v = truth qq lt ∧ V' = V)) ([.ref (E.1 + 580), .ref (E.1 + ca), .int (nI b), .int (nI lt.length)] : List Value).toArray s 0 0 (AE E)) (F0 m 323 ls []) := by
                          intro Vw H locs ls w7 ew7 heV hM hS hl
                          refine lv_iload hx hb dX8_truthOf_323 (lv_at hl 3 rfl) ?_
                          refine lv_iload hx hb dX8_truthOf_325 (lv_at hl 2 rfl) ?_
                          refine lv_icmp_ge (tgt := 334) hx hb dX8_truthOf_327 (by decide) (fun c_327 => ?_) (fun c_327 => ?_)
                          · have n_327 : (b + lt.length) ≤ (b + (pl + 2 + d)) := (nLe (a := (b + lt.length)) (b := (b + (pl + 2 + d))) rfl rfl (by omega) (by omega)).mp c_327
                            have Bend : Bt lt (pl + 2 + d) = -1 := Bt_out (by omega)
                            refine lv_iconst (v := 0) hx hb dX8_truthOf_334 (by decide) ?_
                            refine lv_istore (lv' := [(8, .int 0), (0, .ref (E.1 + 580)), (1, .ref (E.1 + ca)), (4, .int (nI (b + lt.length))), (5, .int (nI (b + (pl + 2 + d)))), (6, .int v6), (7, .int w7)]) hx hb dX8_truthOf_335 hl (by decide) rfl (fun ls hl => ?_)
                            refine lv_iload hx hb dX8_truthOf_337 (lv_at hl 0 rfl) ?_
                            refine lv_if_eq (tgt := 362) hx hb dX8_truthOf_339 (by decide) (fun c_339 => ?_) (fun c_339 => ?_)
                            · refine lv_iload hx hb dX8_truthOf_362 (lv_at hl 0 rfl) ?_
                              refine lv_if_eq (tgt := 376) hx hb dX8_truthOf_364 (by decide) (fun c_364 => ?_) (fun c_364 => ?_)
                              · refine lv_iload hx hb dX8_truthOf_376 (lv_at hl 5 rfl) ?_
                                refine lv_if_ne (tgt := 386) hx hb dX8_truthOf_378 (by decide) (fun c_378 => ?_) (fun c_378 => ?_)
                                · have o1 := b2i_ne0 (by rw [← e6]; exact c_378)
                                  refine lv_iconst (v := 1) hx hb dX8_truthOf_386 (by decide) ?_
                                  refine lv_goto (tgt := 391) hx hb dX8_truthOf_387 (by decide) ?_
                                  refine lv_istore (lv' := [(6, .int 1), (8, .int 0), (0, .ref (E.1 + 580)), (1, .ref (E.1 + ca)), (4, .int (nI (b + lt.length))), (5, .int (nI (b + (pl + 2 + d)))), (7, .int w7)]) hx hb dX8_truthOf_391 hl (by decide) rfl (fun ls hl => ?_)
                                  refine lv_iconst (v := 1) hx hb dX8_truthOf_393 (by decide) ?_
                                  refine lv_istore (lv' := [(7, .int 1), (6, .int 1), (8, .int 0), (0, .ref (E.1 + 580)), (1, .ref (E.1 + ca)), (4, .int (nI (b + lt.length))), (5, .int (nI (b + (pl + 2 + d))))]) hx hb dX8_truthOf_394 hl (by decide) rfl (fun ls hl => ?_)
                                  obtain ⟨x5_396, ex5_396⟩ : ∃ y : Int32, y = (nI (b + (pl + 2 + d))) + 1 := ⟨_, rfl⟩
                                  refine lv_iinc (v := x5_396) (lv' := [(5, .int x5_396), (7, .int 1), (6, .int 1), (8, .int 0), (0, .ref (E.1 + 580)), (1, .ref (E.1 + ca)), (4, .int (nI (b + lt.length)))]) hx hb dX8_truthOf_396 hl (k := 6) rfl (by rw [ex5_396]; rfl) (by decide) rfl (fun ls hl => ?_)
                                  refine lv_goto (tgt := 17) hx hb dX8_truthOf_399 (by decide) ?_
                                  rw [show x5_396 = nI ((b + (pl + 2 + d)) + 1) from (ex5_396.trans (nAdd rfl rfl))] at hl
                                  exact ih17 Vw _ _ _ (pl + 2 + d + 1) f (one || (al && (hold x10_97 x11_105 (nI nv) != nt))) true false _ _ _ (by rw [o1, Bool.true_or]; rfl) rfl rfl (Or.inr ⟨rfl, ht9.trans ((if_neg (by rw [Bend]; decide)).trans (if_pos Bend))⟩) (by omega) heV (by omega) hM hS (lv_sub hl [4, 5, 6, 0, 2, 1, 3] rfl)
                                · have o0 := b2i_eq0 (e6.symm.trans c_378)
                                  refine lv_iload hx hb dX8_truthOf_381 (lv_at hl 6 rfl) ?_
                                  refine lv_if_eq (tgt := 390) hx hb dX8_truthOf_383 (by decide) (fun c_383 => ?_) (fun c_383 => ?_)
                                  · have o2 := b2i_eq0 (ew7.symm.trans c_383)
                                    refine lv_iconst (v := 0) hx hb dX8_truthOf_390 (by decide) ?_
                                    refine lv_istore (lv' := [(6, .int 0), (8, .int 0), (0, .ref (E.1 + 580)), (1, .ref (E.1 + ca)), (4, .int (nI (b + lt.length))), (5, .int (nI (b + (pl + 2 + d)))), (7, .int w7)]) hx hb dX8_truthOf_391 hl (by decide) rfl (fun ls hl => ?_)
                                    refine lv_iconst (v := 1) hx hb dX8_truthOf_393 (by decide) ?_
                                    refine lv_istore (lv' := [(7, .int 1), (6, .int 0), (8, .int 0), (0, .ref (E.1 + 580)), (1, .ref (E.1 + ca)), (4, .int (nI (b + lt.length))), (5, .int (nI (b + (pl + 2 + d))))]) hx hb dX8_truthOf_394 hl (by decide) rfl (fun ls hl => ?_)
                                    obtain ⟨x5_396, ex5_396⟩ : ∃ y : Int32, y = (nI (b + (pl + 2 + d))) + 1 := ⟨_, rfl⟩
                                    refine lv_iinc (v := x5_396) (lv' := [(5, .int x5_396), (7, .int 1), (6, .int 0), (8, .int 0), (0, .ref (E.1 + 580)), (1, .ref (E.1 + ca)), (4, .int (nI (b + lt.length)))]) hx hb dX8_truthOf_396 hl (k := 6) rfl (by rw [ex5_396]; rfl) (by decide) rfl (fun ls hl => ?_)
                                    refine lv_goto (tgt := 17) hx hb dX8_truthOf_399 (by decide) ?_
                                    rw [show x5_396 = nI ((b + (pl + 2 + d)) + 1) from (ex5_396.trans (nAdd rfl rfl))] at hl
                                    exact ih17 Vw _ _ _ (pl + 2 + d + 1) f (one || (al && (hold x10_97 x11_105 (nI nv) != nt))) true false _ _ _ (by rw [o0, Bool.false_or, o2]; rfl) rfl rfl (Or.inr ⟨rfl, ht9.trans ((if_neg (by rw [Bend]; decide)).trans (if_pos Bend))⟩) (by omega) heV (by omega) hM hS (lv_sub hl [4, 5, 6, 0, 2, 1, 3] rfl)
                                  · have o2 := b2i_ne0 (by rw [← ew7]; exact c_383)
                                    refine lv_iconst (v := 1) hx hb dX8_truthOf_386 (by decide) ?_
                                    refine lv_goto (tgt := 391) hx hb dX8_truthOf_387 (by decide) ?_
                                    refine lv_istore (lv' := [(6, .int 1), (8, .int 0), (0, .ref (E.1 + 580)), (1, .ref (E.1 + ca)), (4, .int (nI (b + lt.length))), (5, .int (nI (b + (pl + 2 + d)))), (7, .int w7)]) hx hb dX8_truthOf_391 hl (by decide) rfl (fun ls hl => ?_)
                                    refine lv_iconst (v := 1) hx hb dX8_truthOf_393 (by decide) ?_
                                    refine lv_istore (lv' := [(7, .int 1), (6, .int 1), (8, .int 0), (0, .ref (E.1 + 580)), (1, .ref (E.1 + ca)), (4, .int (nI (b + lt.length))), (5, .int (nI (b + (pl + 2 + d))))]) hx hb dX8_truthOf_394 hl (by decide) rfl (fun ls hl => ?_)
                                    obtain ⟨x5_396, ex5_396⟩ : ∃ y : Int32, y = (nI (b + (pl + 2 + d))) + 1 := ⟨_, rfl⟩
                                    refine lv_iinc (v := x5_396) (lv' := [(5, .int x5_396), (7, .int 1), (6, .int 1), (8, .int 0), (0, .ref (E.1 + 580)), (1, .ref (E.1 + ca)), (4, .int (nI (b + lt.length)))]) hx hb dX8_truthOf_396 hl (k := 6) rfl (by rw [ex5_396]; rfl) (by decide) rfl (fun ls hl => ?_)
                                    refine lv_goto (tgt := 17) hx hb dX8_truthOf_399 (by decide) ?_
                                    rw [show x5_396 = nI ((b + (pl + 2 + d)) + 1) from (ex5_396.trans (nAdd rfl rfl))] at hl
                                    exact ih17 Vw _ _ _ (pl + 2 + d + 1) f (one || (al && (hold x10_97 x11_105 (nI nv) != nt))) true false _ _ _ (by rw [o0, Bool.false_or, o2]; rfl) rfl rfl (Or.inr ⟨rfl, ht9.trans ((if_neg (by rw [Bend]; decide)).trans (if_pos Bend))⟩) (by omega) heV (by omega) hM hS (lv_sub hl [4, 5, 6, 0, 2, 1, 3] rfl)
                              · exact absurd rfl c_364
                            · exact absurd rfl c_339
                          · have n_327 : ¬ (b + lt.length) ≤ (b + (pl + 2 + d)) := fun q9 => c_327 ((nLe (a := (b + lt.length)) (b := (b + (pl + 2 + d))) rfl rfl (by omega) (by omega)).mpr q9)
                            refine lv_iconst (v := 1) hx hb dX8_truthOf_330 (by decide) ?_
                            refine lv_goto (tgt := 335) hx hb dX8_truthOf_331 (by decide) ?_
                            refine lv_istore (lv' := [(8, .int 1), (0, .ref (E.1 + 580)), (1, .ref (E.1 + ca)), (4, .int (nI (b + lt.length))), (5, .int (nI (b + (pl + 2 + d)))), (6, .int v6), (7, .int w7)]) hx hb dX8_truthOf_335 hl (by decide) rfl (fun ls hl => ?_)
                            refine lv_iload hx hb dX8_truthOf_337 (lv_at hl 0 rfl) ?_
                            refine lv_if_eq (tgt := 362) hx hb dX8_truthOf_339 (by decide) (fun c_339 => ?_) (fun c_339 => ?_)
                            · exact absurd c_339 (by decide)
                            · refine lv_aload_n hx hb dX8_truthOf_342 rfl (lv_at hl 2 rfl) ?_
                              refine lv_iload hx hb dX8_truthOf_343 (lv_at hl 4 rfl) ?_
                              have i_345 : (nI (b + (pl + 2 + d)) : Int32) = nI (b + (pl + 2 + d)) := rfl
                              refine w_ild (N := na) hx hb hK.1 hM ha.lt ha.k ha.n (by rw [i_345]; exact vp_in_nI (by omega) (by omega)) dX8_truthOf_345 ?_
                              have j_345 : (nI (b + (pl + 2 + d))).toNatClampNeg = b + (pl + 2 + d) := (congrArg Int32.toNatClampNeg i_345).trans (nI_clamp (by omega))
                              have q : (Vw ca (nI (b + (pl + 2 + d))).toNatClampNeg : Int32) = Vw ca (b + (pl + 2 + d)) := by rw [j_345]
                              refine lv_eqi q ?_
                              have q : (Vw ca (b + (pl + 2 + d)) : Int32) = lt.getD (pl + 2 + d) 0 := by rw [heV]; exact hs (pl + 2 + d) (by omega)
                              refine lv_eqi q ?_
                              refine lv_bipush (v := 124) hx hb dX8_truthOf_346 (by decide) ?_
                              refine lv_icmp_eq (tgt := 362) hx hb dX8_truthOf_348 (by decide) (fun c_348 => ?_) (fun c_348 => ?_)
                              · have B124 : Bt lt (pl + 2 + d) = 124 := (Bt_in (by omega)).trans c_348
                                refine lv_iload hx hb dX8_truthOf_362 (lv_at hl 0 rfl) ?_
                                refine lv_if_eq (tgt := 376) hx hb dX8_truthOf_364 (by decide) (fun c_364 => ?_) (fun c_364 => ?_)
                                · exact absurd c_364 (by decide)
                                · refine lv_aload_n hx hb dX8_truthOf_367 rfl (lv_at hl 2 rfl) ?_
                                  refine lv_iload hx hb dX8_truthOf_368 (lv_at hl 4 rfl) ?_
                                  have i_370 : (nI (b + (pl + 2 + d)) : Int32) = nI (b + (pl + 2 + d)) := rfl
                                  refine w_ild (N := na) hx hb hK.1 hM ha.lt ha.k ha.n (by rw [i_370]; exact vp_in_nI (by omega) (by omega)) dX8_truthOf_370 ?_
                                  have j_370 : (nI (b + (pl + 2 + d))).toNatClampNeg = b + (pl + 2 + d) := (congrArg Int32.toNatClampNeg i_370).trans (nI_clamp (by omega))
                                  have q : (Vw ca (nI (b + (pl + 2 + d))).toNatClampNeg : Int32) = Vw ca (b + (pl + 2 + d)) := by rw [j_370]
                                  refine lv_eqi q ?_
                                  have q : (Vw ca (b + (pl + 2 + d)) : Int32) = lt.getD (pl + 2 + d) 0 := by rw [heV]; exact hs (pl + 2 + d) (by omega)
                                  refine lv_eqi q ?_
                                  refine lv_bipush (v := 124) hx hb dX8_truthOf_371 (by decide) ?_
                                  refine lv_icmp_ne (tgt := 396) hx hb dX8_truthOf_373 (by decide) (fun c_373 => ?_) (fun c_373 => ?_)
                                  · exact absurd c_348 c_373
                                  · refine lv_iload hx hb dX8_truthOf_376 (lv_at hl 5 rfl) ?_
                                    refine lv_if_ne (tgt := 386) hx hb dX8_truthOf_378 (by decide) (fun c_378 => ?_) (fun c_378 => ?_)
                                    · have o1 := b2i_ne0 (by rw [← e6]; exact c_378)
                                      refine lv_iconst (v := 1) hx hb dX8_truthOf_386 (by decide) ?_
                                      refine lv_goto (tgt := 391) hx hb dX8_truthOf_387 (by decide) ?_
                                      refine lv_istore (lv' := [(6, .int 1), (8, .int 1), (0, .ref (E.1 + 580)), (1, .ref (E.1 + ca)), (4, .int (nI (b + lt.length))), (5, .int (nI (b + (pl + 2 + d)))), (7, .int w7)]) hx hb dX8_truthOf_391 hl (by decide) rfl (fun ls hl => ?_)
                                      refine lv_iconst (v := 1) hx hb dX8_truthOf_393 (by decide) ?_
                                      refine lv_istore (lv' := [(7, .int 1), (6, .int 1), (8, .int 1), (0, .ref (E.1 + 580)), (1, .ref (E.1 + ca)), (4, .int (nI (b + lt.length))), (5, .int (nI (b + (pl + 2 + d))))]) hx hb dX8_truthOf_394 hl (by decide) rfl (fun ls hl => ?_)
                                      obtain ⟨x5_396, ex5_396⟩ : ∃ y : Int32, y = (nI (b + (pl + 2 + d))) + 1 := ⟨_, rfl⟩
                                      refine lv_iinc (v := x5_396) (lv' := [(5, .int x5_396), (7, .int 1), (6, .int 1), (8, .int 1), (0, .ref (E.1 + 580)), (1, .ref (E.1 + ca)), (4, .int (nI (b + lt.length)))]) hx hb dX8_truthOf_396 hl (k := 6) rfl (by rw [ex5_396]; rfl) (by decide) rfl (fun ls hl => ?_)
                                      refine lv_goto (tgt := 17) hx hb dX8_truthOf_399 (by decide) ?_
                                      rw [show x5_396 = nI ((b + (pl + 2 + d)) + 1) from (ex5_396.trans (nAdd rfl rfl))] at hl
                                      exact ih17 Vw _ _ _ (pl + 2 + d + 1) (f - 1) (one || (al && (hold x10_97 x11_105 (nI nv) != nt))) true true _ _ _ (by rw [o1, Bool.true_or]; rfl) rfl rfl (Or.inl ⟨rfl, ht9.trans ((if_neg (by rw [B124]; decide)).trans ((if_neg (by rw [B124]; decide)).trans (if_pos B124))), by omega⟩) (by omega) heV (by omega) hM hS (lv_sub hl [4, 5, 6, 0, 2, 1, 3] rfl)
                                    · have o0 := b2i_eq0 (e6.symm.trans c_378)
                                      refine lv_iload hx hb dX8_truthOf_381 (lv_at hl 6 rfl) ?_
                                      refine lv_if_eq (tgt := 390) hx hb dX8_truthOf_383 (by decide) (fun c_383 => ?_) (fun c_383 => ?_)
                                      · have o2 := b2i_eq0 (ew7.symm.trans c_383)
                                        refine lv_iconst (v := 0) hx hb dX8_truthOf_390 (by decide) ?_
                                        refine lv_istore (lv' := [(6, .int 0), (8, .int 1), (0, .ref (E.1 + 580)), (1, .ref (E.1 + ca)), (4, .int (nI (b + lt.length))), (5, .int (nI (b + (pl + 2 + d)))), (7, .int w7)]) hx hb dX8_truthOf_391 hl (by decide) rfl (fun ls hl => ?_)
                                        refine lv_iconst (v := 1) hx hb dX8_truthOf_393 (by decide) ?_
                                        refine lv_istore (lv' := [(7, .int 1), (6, .int 0), (8, .int 1), (0, .ref (E.1 + 580)), (1, .ref (E.1 + ca)), (4, .int (nI (b + lt.length))), (5, .int (nI (b + (pl + 2 + d))))]) hx hb dX8_truthOf_394 hl (by decide) rfl (fun ls hl => ?_)
                                        obtain ⟨x5_396, ex5_396⟩ : ∃ y : Int32, y = (nI (b + (pl + 2 + d))) + 1 := ⟨_, rfl⟩
                                        refine lv_iinc (v := x5_396) (lv' := [(5, .int x5_396), (7, .int 1), (6, .int 0), (8, .int 1), (0, .ref (E.1 + 580)), (1, .ref (E.1 + ca)), (4, .int (nI (b + lt.length)))]) hx hb dX8_truthOf_396 hl (k := 6) rfl (by rw [ex5_396]; rfl) (by decide) rfl (fun ls hl => ?_)
                                        refine lv_goto (tgt := 17) hx hb dX8_truthOf_399 (by decide) ?_
                                        rw [show x5_396 = nI ((b + (pl + 2 + d)) + 1) from (ex5_396.trans (nAdd rfl rfl))] at hl
                                        exact ih17 Vw _ _ _ (pl + 2 + d + 1) (f - 1) (one || (al && (hold x10_97 x11_105 (nI nv) != nt))) true true _ _ _ (by rw [o0, Bool.false_or, o2]; rfl) rfl rfl (Or.inl ⟨rfl, ht9.trans ((if_neg (by rw [B124]; decide)).trans ((if_neg (by rw [B124]; decide)).trans (if_pos B124))), by omega⟩) (by omega) heV (by omega) hM hS (lv_sub hl [4, 5, 6, 0, 2, 1, 3] rfl)
                                      · have o2 := b2i_ne0 (by rw [← ew7]; exact c_383)
                                        refine lv_iconst (v := 1) hx hb dX8_truthOf_386 (by decide) ?_
                                        refine lv_goto (tgt := 391) hx hb dX8_truthOf_387 (by decide) ?_
                                        refine lv_istore (lv' := [(6, .int 1), (8, .int 1), (0, .ref (E.1 + 580)), (1, .ref (E.1 + ca)), (4, .int (nI (b + lt.length))), (5, .int (nI (b + (pl + 2 + d)))), (7, .int w7)]) hx hb dX8_truthOf_391 hl (by decide) rfl (fun ls hl => ?_)
                                        refine lv_iconst (v := 1) hx hb dX8_truthOf_393 (by decide) ?_
                                        refine lv_istore (lv' := [(7, .int 1), (6, .int 1), (8, .int 1), (0, .ref (E.1 + 580)), (1, .ref (E.1 + ca)), (4, .int (nI (b + lt.length))), (5, .int (nI (b + (pl + 2 + d))))]) hx hb dX8_truthOf_394 hl (by decide) rfl (fun ls hl => ?_)
                                        obtain ⟨x5_396, ex5_396⟩ : ∃ y : Int32, y = (nI (b + (pl + 2 + d))) + 1 := ⟨_, rfl⟩
                                        refine lv_iinc (v := x5_396) (lv' := [(5, .int x5_396), (7, .int 1), (6, .int 1), (8, .int 1), (0, .ref (E.1 + 580)), (1, .ref (E.1 + ca)), (4, .int (nI (b + lt.length)))]) hx hb dX8_truthOf_396 hl (k := 6) rfl (by rw [ex5_396]; rfl) (by decide) rfl (fun ls hl => ?_)
                                        refine lv_goto (tgt := 17) hx hb dX8_truthOf_399 (by decide) ?_
                                        rw [show x5_396 = nI ((b + (pl + 2 + d)) + 1) from (ex5_396.trans (nAdd rfl rfl))] at hl
                                        exact ih17 Vw _ _ _ (pl + 2 + d + 1) (f - 1) (one || (al && (hold x10_97 x11_105 (nI nv) != nt))) true true _ _ _ (by rw [o0, Bool.false_or, o2]; rfl) rfl rfl (Or.inl ⟨rfl, ht9.trans ((if_neg (by rw [B124]; decide)).trans ((if_neg (by rw [B124]; decide)).trans (if_pos B124))), by omega⟩) (by omega) heV (by omega) hM hS (lv_sub hl [4, 5, 6, 0, 2, 1, 3] rfl)
                              · refine lv_aload_n hx hb dX8_truthOf_351 rfl (lv_at hl 2 rfl) ?_
                                refine lv_iload hx hb dX8_truthOf_352 (lv_at hl 4 rfl) ?_
                                have i_354 : (nI (b + (pl + 2 + d)) : Int32) = nI (b + (pl + 2 + d)) := rfl
                                refine w_ild (N := na) hx hb hK.1 hM ha.lt ha.k ha.n (by rw [i_354]; exact vp_in_nI (by omega) (by omega)) dX8_truthOf_354 ?_
                                have j_354 : (nI (b + (pl + 2 + d))).toNatClampNeg = b + (pl + 2 + d) := (congrArg Int32.toNatClampNeg i_354).trans (nI_clamp (by omega))
                                have q : (Vw ca (nI (b + (pl + 2 + d))).toNatClampNeg : Int32) = Vw ca (b + (pl + 2 + d)) := by rw [j_354]
                                refine lv_eqi q ?_
                                have q : (Vw ca (b + (pl + 2 + d)) : Int32) = lt.getD (pl + 2 + d) 0 := by rw [heV]; exact hs (pl + 2 + d) (by omega)
                                refine lv_eqi q ?_
                                refine lv_bipush (v := 38) hx hb dX8_truthOf_355 (by decide) ?_
                                refine lv_icmp_eq (tgt := 362) hx hb dX8_truthOf_357 (by decide) (fun c_357 => ?_) (fun c_357 => ?_)
                                · have B38 : Bt lt (pl + 2 + d) = 38 := (Bt_in (by omega)).trans c_357
                                  refine lv_iload hx hb dX8_truthOf_362 (lv_at hl 0 rfl) ?_
                                  refine lv_if_eq (tgt := 376) hx hb dX8_truthOf_364 (by decide) (fun c_364 => ?_) (fun c_364 => ?_)
                                  · exact absurd c_364 (by decide)
                                  · refine lv_aload_n hx hb dX8_truthOf_367 rfl (lv_at hl 2 rfl) ?_
                                    refine lv_iload hx hb dX8_truthOf_368 (lv_at hl 4 rfl) ?_
                                    have i_370 : (nI (b + (pl + 2 + d)) : Int32) = nI (b + (pl + 2 + d)) := rfl
                                    refine w_ild (N := na) hx hb hK.1 hM ha.lt ha.k ha.n (by rw [i_370]; exact vp_in_nI (by omega) (by omega)) dX8_truthOf_370 ?_
                                    have j_370 : (nI (b + (pl + 2 + d))).toNatClampNeg = b + (pl + 2 + d) := (congrArg Int32.toNatClampNeg i_370).trans (nI_clamp (by omega))
                                    have q : (Vw ca (nI (b + (pl + 2 + d))).toNatClampNeg : Int32) = Vw ca (b + (pl + 2 + d)) := by rw [j_370]
                                    refine lv_eqi q ?_
                                    have q : (Vw ca (b + (pl + 2 + d)) : Int32) = lt.getD (pl + 2 + d) 0 := by rw [heV]; exact hs (pl + 2 + d) (by omega)
                                    refine lv_eqi q ?_
                                    refine lv_bipush (v := 124) hx hb dX8_truthOf_371 (by decide) ?_
                                    refine lv_icmp_ne (tgt := 396) hx hb dX8_truthOf_373 (by decide) (fun c_373 => ?_) (fun c_373 => ?_)
                                    · obtain ⟨x5_396, ex5_396⟩ : ∃ y : Int32, y = (nI (b + (pl + 2 + d))) + 1 := ⟨_, rfl⟩
                                      refine lv_iinc (v := x5_396) (lv' := [(5, .int x5_396), (8, .int 1), (0, .ref (E.1 + 580)), (1, .ref (E.1 + ca)), (4, .int (nI (b + lt.length))), (6, .int v6), (7, .int w7)]) hx hb dX8_truthOf_396 hl (k := 4) rfl (by rw [ex5_396]; rfl) (by decide) rfl (fun ls hl => ?_)
                                      refine lv_goto (tgt := 17) hx hb dX8_truthOf_399 (by decide) ?_
                                      rw [show x5_396 = nI ((b + (pl + 2 + d)) + 1) from (ex5_396.trans (nAdd rfl rfl))] at hl
                                      exact ih17 Vw _ _ _ (pl + 2 + d + 1) (f - 1) one (al && (hold x10_97 x11_105 (nI nv) != nt)) true _ _ _ e6 ew7 rfl (Or.inl ⟨rfl, ht9.trans (if_pos B38), by omega⟩) (by omega) heV (by omega) hM hS (lv_sub hl [2, 3, 4, 0, 5, 6, 1] rfl)
                                    · exact absurd c_373 c_348
                                · refine lv_iconst (v := (-1)) hx hb dX8_truthOf_360 (by decide) ?_
                                  have hpost : (fun v V' => v = truth qq lt ∧ V' = V) (-1) Vw := by
                                    refine ⟨?_, heV⟩
                                    have hg0 : 0 ≤ Bt lt (pl + 2 + d) := by rw [Bt_in (by omega)]; exact okt.gd _
                                    rw [ht9, if_neg (fun h => c_357 ((Bt_in (by omega)).symm.trans h)), if_neg (fun h => by rw [h] at hg0; exact absurd hg0 (by decide)), if_neg (fun h => c_348 ((Bt_in (by omega)).symm.trans h))]
                                  exact w_iret Vw hx hb hret hK hS hM (hpost) hlocks dX8_truthOf_361
                        refine lv_istore (lv' := [(14, .int v0), (0, .ref (E.1 + 580)), (1, .ref (E.1 + ca)), (4, .int (nI (b + lt.length))), (5, .int (nI (b + (pl + 2 + d)))), (6, .int v6), (7, .int v7), (9, .int w9)]) hx hb dX8_truthOf_302 hl (by decide) rfl (fun ls hl => ?_)
                        refine lv_iload hx hb dX8_truthOf_304 (lv_at hl 6 rfl) ?_
                        refine lv_if_eq (tgt := 320) hx hb dX8_truthOf_306 (by decide) (fun c_306 => ?_) (fun c_306 => ?_)
                        · have al0 := b2i_eq0 (e7.symm.trans c_306)
                          refine lv_iconst (v := 0) hx hb dX8_truthOf_320 (by decide) ?_
                          refine lv_istore (lv' := [(7, .int 0), (14, .int v0), (0, .ref (E.1 + 580)), (1, .ref (E.1 + ca)), (4, .int (nI (b + lt.length))), (5, .int (nI (b + (pl + 2 + d)))), (6, .int v6), (9, .int w9)]) hx hb dX8_truthOf_321 hl (by decide) rfl (fun ls hl => ?_)
                          exact join323 Vw _ _ _ 0 (by rw [al0]; rfl) heV hM hS (lv_sub hl [2, 3, 4, 5, 6, 0] rfl)
                        · have al1 := b2i_ne0 (by rw [← e7]; exact c_306)
                          refine lv_iload hx hb dX8_truthOf_309 (lv_at hl 0 rfl) ?_
                          refine lv_iload hx hb dX8_truthOf_311 (lv_at hl 7 rfl) ?_
                          refine lv_icmp_eq (tgt := 320) hx hb dX8_truthOf_313 (by decide) (fun c_313 => ?_) (fun c_313 => ?_)
                          · refine lv_iconst (v := 0) hx hb dX8_truthOf_320 (by decide) ?_
                            refine lv_istore (lv' := [(7, .int 0), (14, .int v0), (0, .ref (E.1 + 580)), (1, .ref (E.1 + ca)), (4, .int (nI (b + lt.length))), (5, .int (nI (b + (pl + 2 + d)))), (6, .int v6), (9, .int w9)]) hx hb dX8_truthOf_321 hl (by decide) rfl (fun ls hl => ?_)
                            exact join323 Vw _ _ _ 0 (by rw [al1, Bool.true_and, bne_eq_false_iff_eq.mpr (b2i_inj (e0.symm.trans (c_313.trans e9)))]; rfl) heV hM hS (lv_sub hl [2, 3, 4, 5, 6, 0] rfl)
                          · refine lv_iconst (v := 1) hx hb dX8_truthOf_316 (by decide) ?_
                            refine lv_goto (tgt := 321) hx hb dX8_truthOf_317 (by decide) ?_
                            refine lv_istore (lv' := [(7, .int 1), (14, .int v0), (0, .ref (E.1 + 580)), (1, .ref (E.1 + ca)), (4, .int (nI (b + lt.length))), (5, .int (nI (b + (pl + 2 + d)))), (6, .int v6), (9, .int w9)]) hx hb dX8_truthOf_321 hl (by decide) rfl (fun ls hl => ?_)
                            exact join323 Vw _ _ _ 1 (by rw [al1, Bool.true_and, bne_iff_ne.mpr (fun h => c_313 (e0.trans ((congrArg b2i h).trans e9.symm)))]; rfl) heV hM hS (lv_sub hl [2, 3, 4, 5, 6, 0] rfl)
                      refine lv_iload hx hb dX8_truthOf_205 (lv_at hl 8 rfl) ?_
                      refine lv_bipush (v := 60) hx hb dX8_truthOf_207 (by decide) ?_
                      refine lv_icmp_ne (tgt := 227) hx hb dX8_truthOf_209 (by decide) (fun c_209 => ?_) (fun c_209 => ?_)
                      · refine lv_iload hx hb dX8_truthOf_227 (lv_at hl 8 rfl) ?_
                        refine lv_bipush (v := 61) hx hb dX8_truthOf_229 (by decide) ?_
                        refine lv_icmp_ne (tgt := 249) hx hb dX8_truthOf_231 (by decide) (fun c_231 => ?_) (fun c_231 => ?_)
                        · refine lv_iload hx hb dX8_truthOf_249 (lv_at hl 8 rfl) ?_
                          refine lv_bipush (v := 62) hx hb dX8_truthOf_251 (by decide) ?_
                          refine lv_icmp_ne (tgt := 271) hx hb dX8_truthOf_253 (by decide) (fun c_253 => ?_) (fun c_253 => ?_)
                          · refine lv_iload hx hb dX8_truthOf_271 (lv_at hl 10 rfl) ?_
                            refine lv_if_ne (tgt := 289) hx hb dX8_truthOf_273 (by decide) (fun c_273 => ?_) (fun c_273 => ?_)
                            · have n_273 : ¬ nv = 0 := fun q9 => c_273 ((nEq (a := nv) (b := 0) rfl rfl (by omega) (by omega)).mpr q9)
                              refine lv_iload hx hb dX8_truthOf_289 (lv_at hl 7 rfl) ?_
                              refine lv_iload hx hb dX8_truthOf_291 (lv_at hl 10 rfl) ?_
                              refine lv_irem hx hb dX8_truthOf_293 (c_273) ?_
                              refine lv_if_ne (tgt := 301) hx hb dX8_truthOf_294 (by decide) (fun c_294 => ?_) (fun c_294 => ?_)
                              · refine lv_iconst (v := 0) hx hb dX8_truthOf_301 (by decide) ?_
                                exact join302 Vw _ _ _ 0 (by rw [hold, if_neg c_209, if_neg c_231, if_neg c_253, if_neg c_273, decide_eq_false c_294]; rfl) heV hM hS (lv_sub hl [0, 1, 2, 3, 4, 5, 6] rfl)
                              · refine lv_iconst (v := 1) hx hb dX8_truthOf_297 (by decide) ?_
                                refine lv_goto (tgt := 302) hx hb dX8_truthOf_298 (by decide) ?_
                                exact join302 Vw _ _ _ 1 (by rw [hold, if_neg c_209, if_neg c_231, if_neg c_253, if_neg c_273, decide_eq_true c_294]; rfl) heV hM hS (lv_sub hl [0, 1, 2, 3, 4, 5, 6] rfl)
                            · have n_273 : nv = 0 := (nEq (a := nv) (b := 0) rfl rfl (by omega) (by omega)).mp c_273
                              refine lv_iload hx hb dX8_truthOf_276 (lv_at hl 7 rfl) ?_
                              refine lv_if_ne (tgt := 285) hx hb dX8_truthOf_278 (by decide) (fun c_278 => ?_) (fun c_278 => ?_)
                              · refine lv_iconst (v := 0) hx hb dX8_truthOf_285 (by decide) ?_
                                refine lv_goto (tgt := 302) hx hb dX8_truthOf_286 (by decide) ?_
                                exact join302 Vw _ _ _ 0 (by rw [hold, if_neg c_209, if_neg c_231, if_neg c_253, if_pos c_273, decide_eq_false c_278]; rfl) heV hM hS (lv_sub hl [0, 1, 2, 3, 4, 5, 6] rfl)
                              · refine lv_iconst (v := 1) hx hb dX8_truthOf_281 (by decide) ?_
                                refine lv_goto (tgt := 302) hx hb dX8_truthOf_282 (by decide) ?_
                                exact join302 Vw _ _ _ 1 (by rw [hold, if_neg c_209, if_neg c_231, if_neg c_253, if_pos c_273, decide_eq_true c_278]; rfl) heV hM hS (lv_sub hl [0, 1, 2, 3, 4, 5, 6] rfl)
                          · refine lv_iload hx hb dX8_truthOf_256 (lv_at hl 7 rfl) ?_
                            refine lv_iload hx hb dX8_truthOf_258 (lv_at hl 10 rfl) ?_
                            refine lv_icmp_le (tgt := 267) hx hb dX8_truthOf_260 (by decide) (fun c_260 => ?_) (fun c_260 => ?_)
                            · refine lv_iconst (v := 0) hx hb dX8_truthOf_267 (by decide) ?_
                              refine lv_goto (tgt := 302) hx hb dX8_truthOf_268 (by decide) ?_
                              exact join302 Vw _ _ _ 0 (by rw [hold, if_neg c_209, if_neg c_231, if_pos c_253, decide_eq_false (Int32.not_lt.mpr c_260)]; rfl) heV hM hS (lv_sub hl [0, 1, 2, 3, 4, 5, 6] rfl)
                            · refine lv_iconst (v := 1) hx hb dX8_truthOf_263 (by decide) ?_
                              refine lv_goto (tgt := 302) hx hb dX8_truthOf_264 (by decide) ?_
                              exact join302 Vw _ _ _ 1 (by rw [hold, if_neg c_209, if_neg c_231, if_pos c_253, decide_eq_true (Int32.not_le.mp c_260)]; rfl) heV hM hS (lv_sub hl [0, 1, 2, 3, 4, 5, 6] rfl)
                        · refine lv_iload hx hb dX8_truthOf_234 (lv_at hl 7 rfl) ?_
                          refine lv_iload hx hb dX8_truthOf_236 (lv_at hl 10 rfl) ?_
                          refine lv_icmp_ne (tgt := 245) hx hb dX8_truthOf_238 (by decide) (fun c_238 => ?_) (fun c_238 => ?_)
                          · refine lv_iconst (v := 0) hx hb dX8_truthOf_245 (by decide) ?_
                            refine lv_goto (tgt := 302) hx hb dX8_truthOf_246 (by decide) ?_
                            exact join302 Vw _ _ _ 0 (by rw [hold, if_neg c_209, if_pos c_231, decide_eq_false c_238]; rfl) heV hM hS (lv_sub hl [0, 1, 2, 3, 4, 5, 6] rfl)
                          · refine lv_iconst (v := 1) hx hb dX8_truthOf_241 (by decide) ?_
                            refine lv_goto (tgt := 302) hx hb dX8_truthOf_242 (by decide) ?_
                            exact join302 Vw _ _ _ 1 (by rw [hold, if_neg c_209, if_pos c_231, decide_eq_true c_238]; rfl) heV hM hS (lv_sub hl [0, 1, 2, 3, 4, 5, 6] rfl)
                      · refine lv_iload hx hb dX8_truthOf_212 (lv_at hl 7 rfl) ?_
                        refine lv_iload hx hb dX8_truthOf_214 (lv_at hl 10 rfl) ?_
                        refine lv_icmp_ge (tgt := 223) hx hb dX8_truthOf_216 (by decide) (fun c_216 => ?_) (fun c_216 => ?_)
                        · refine lv_iconst (v := 0) hx hb dX8_truthOf_223 (by decide) ?_
                          refine lv_goto (tgt := 302) hx hb dX8_truthOf_224 (by decide) ?_
                          exact join302 Vw _ _ _ 0 (by rw [hold, if_pos c_209, decide_eq_false (Int32.not_lt.mpr c_216)]; rfl) heV hM hS (lv_sub hl [0, 1, 2, 3, 4, 5, 6] rfl)
                        · refine lv_iconst (v := 1) hx hb dX8_truthOf_219 (by decide) ?_
                          refine lv_goto (tgt := 302) hx hb dX8_truthOf_220 (by decide) ?_
                          exact join302 Vw _ _ _ 1 (by rw [hold, if_pos c_209, decide_eq_true (Int32.not_le.mp c_216)]; rfl) heV hM hS (lv_sub hl [0, 1, 2, 3, 4, 5, 6] rfl)
                    · have i200 : inR (nI d) 1 6 = false := b2i_eq0 (er197.symm.trans c_200)
                      rw [show inR (nI d) 1 6 = (decide (1 ≤ d) && decide (d ≤ 6)) from inR_n (a := 1) (b := 6) (by omega) (by omega) (by omega)] at i200
                      refine lv_iconst (v := (-1)) hx hb dX8_truthOf_203 (by decide) ?_
                      have hpost : (fun v V' => v = truth qq lt ∧ V' = V) (-1) Vw := by
                        refine ⟨?_, heV⟩
                        by_cases hd0 : d = 0
                        · rw [hT, txt_none (tst_no4 (by rw [← hpl]; exact nd_eq 0 6 _ (by omega) (fun z hz => absurd hz (by omega)) (fun _ => by rw [show pl + 2 + 0 = pl + 2 + d by omega]; exact hde (by omega))))]
                        · have hd77 : d = 7 := by by_cases q6 : d ≤ 6; (rw [decide_eq_true (show 1 ≤ d by omega), decide_eq_true q6] at i200; cases i200); omega
                          have hnd : nd lt 6 (pl + 2) = 6 := nd_eq 6 6 _ (by omega) (fun z hz => hdd z (by omega)) (fun q => absurd q (by omega))
                          have h := tst_yesm (q := qq) (lt := lt) (i := pp) (d := 6) (by rw [← hpl, Bt_in (by omega)]; exact okt.gd _) (by rw [← hpl, Bt_in (by omega)]; exact i80) (by rw [← hpl, Bt_in (by omega), ← ex11_105]; exact hkd) (by rw [← hpl]; exact hnd) (by omega)
                          have h6 := dg_ne (hdd 6 (by omega))
                          rw [← hpl] at h
                          rw [hT, txt_some h (f := f) (by omega), if_neg h6.1, if_neg h6.2.1, if_neg h6.2.2]
                      exact w_iret Vw hx hb hret hK hS hM (hpost) hlocks dX8_truthOf_204
                  refine lv_iload hx hb dX8_truthOf_164 (lv_at hl 8 rfl) ?_
                  refine lv_bipush (v := 60) hx hb dX8_truthOf_166 (by decide) ?_
                  refine lv_icmp_eq (tgt := 192) hx hb dX8_truthOf_168 (by decide) (fun c_168 => ?_) (fun c_168 => ?_)
                  · exact join192 Vw _ _ _ (by rw [show x11_105 = 60 from c_168]; rfl) heV hM hS (lv_sub hl [0, 1, 2, 3, 4, 5, 6, 7, 8, 9, 10] rfl)
                  · refine lv_iload hx hb dX8_truthOf_171 (lv_at hl 8 rfl) ?_
                    refine lv_bipush (v := 61) hx hb dX8_truthOf_173 (by decide) ?_
                    refine lv_icmp_eq (tgt := 192) hx hb dX8_truthOf_175 (by decide) (fun c_175 => ?_) (fun c_175 => ?_)
                    · exact join192 Vw _ _ _ (by rw [show x11_105 = 61 from c_175]; rfl) heV hM hS (lv_sub hl [0, 1, 2, 3, 4, 5, 6, 7, 8, 9, 10] rfl)
                    · refine lv_iload hx hb dX8_truthOf_178 (lv_at hl 8 rfl) ?_
                      refine lv_bipush (v := 62) hx hb dX8_truthOf_180 (by decide) ?_
                      refine lv_icmp_eq (tgt := 192) hx hb dX8_truthOf_182 (by decide) (fun c_182 => ?_) (fun c_182 => ?_)
                      · exact join192 Vw _ _ _ (by rw [show x11_105 = 62 from c_182]; rfl) heV hM hS (lv_sub hl [0, 1, 2, 3, 4, 5, 6, 7, 8, 9, 10] rfl)
                      · refine lv_iload hx hb dX8_truthOf_185 (lv_at hl 8 rfl) ?_
                        refine lv_bipush (v := 35) hx hb dX8_truthOf_187 (by decide) ?_
                        refine lv_icmp_ne (tgt := 203) hx hb dX8_truthOf_189 (by decide) (fun c_189 => ?_) (fun c_189 => ?_)
                        · have hkd : isKd x11_105 = false := by simp [isKd, c_168, c_175, c_182, c_189]
                          refine lv_iconst (v := (-1)) hx hb dX8_truthOf_203 (by decide) ?_
                          have hpost : (fun v V' => v = truth qq lt ∧ V' = V) (-1) Vw := by
                            refine ⟨?_, heV⟩
                            rw [hT, txt_none (tst_no3 (by rw [← hpl, Bt_in (by omega), ← ex11_105]; exact hkd))]
                          exact w_iret Vw hx hb hret hK hS hM (hpost) hlocks dX8_truthOf_204
                        · exact join192 Vw _ _ _ (by rw [show x11_105 = 35 from c_189]; rfl) heV hM hS (lv_sub hl [0, 1, 2, 3, 4, 5, 6, 7, 8, 9, 10] rfl)
                refine lv_iconst (v := 0) hx hb dX8_truthOf_113 (by decide) ?_
                refine lv_istore (lv' := [(13, .int 0), (12, .int 0), (5, .int x5_107), (11, .int x11_105), (10, .int x10_97), (0, .ref (E.1 + 580)), (1, .ref (E.1 + ca)), (4, .int (nI (b + lt.length))), (6, .int v6), (7, .int v7), (9, .int w9)]) hx hb dX8_truthOf_114 hl (by decide) rfl (fun ls hl => ?_)
                have loop116 : ∀ (fu : Nat) (Vw : Vt) (H : Heap) (locs : List Loc) (ls : Array Slot) (d : Nat) (nv : Nat) (hd7 : d ≤ 7) (env : nv = nvS lt (pl + 2) d) (hdl : pl + 2 + d ≤ lt.length) (hdd : ∀ z, z < d → isDg (Bt lt (pl + 2 + z)) = true) (heV : Vw = V), 7 - d < fu → Wd E Vw H → va_S (AE E) s.heap H locs → lv_has ls 15 [(0, .ref (E.1 + 580)), (1, .ref (E.1 + ca)), (4, .int (nI (b + lt.length))), (5, .int (nI (b + (pl + 2 + d)))), (6, .int v6), (7, .int v7), (9, .int w9), (10, .int x10_97), (11, .int x11_105), (12, .int (nI d)), (13, .int (nI nv))] → W p l e (headSpec wsX8_truthOf (rmD 2)).room s m ([.ref (E.1 + 580), .ref (E.1 + ca), .int (nI b), .int (nI lt.length)] : List Value).toArray below meth c H locs 0 0 (MQ below (QI E (fun V' => Wd E V') (fun v V' => v = truth qq lt ∧ V' = V)) ([.ref (E.1 + 580), .ref (E.1 + ca), .int (nI b), .int (nI lt.length)] : List Value).toArray s 0 0 (AE E)) (F0 m 116 ls []) := by
                  intro fu
                  induction fu with
                  | zero => intros; omega
                  | succ fu ih116 =>
                    intro Vw H locs ls d nv hd7 env hdl hdd heV hfu hM hS hl
                    have hnv := nvS_7 hd7 hdd
                    refine lv_iload hx hb dX8_truthOf_116 (lv_at hl 3 rfl) ?_
                    refine lv_iload hx hb dX8_truthOf_118 (lv_at hl 2 rfl) ?_
                    refine lv_icmp_ge (tgt := 164) hx hb dX8_truthOf_120 (by decide) (fun c_120 => ?_) (fun c_120 => ?_)
                    · have n_120 : (b + lt.length) ≤ (b + (pl + 2 + d)) := (nLe (a := (b + lt.length)) (b := (b + (pl + 2 + d))) rfl rfl (by omega) (by omega)).mp c_120
                      exact join164 Vw _ _ _ d nv hd7 env hdl hdd (fun _ => by rw [Bt_out (by omega)]; exact dg_neg) heV hM hS (lv_sub hl [0, 1, 2, 3, 4, 5, 6, 7, 8, 9, 10] rfl)
                    · have n_120 : ¬ (b + lt.length) ≤ (b + (pl + 2 + d)) := fun q9 => c_120 ((nLe (a := (b + lt.length)) (b := (b + (pl + 2 + d))) rfl rfl (by omega) (by omega)).mpr q9)
                      refine lv_aload_n hx hb dX8_truthOf_123 rfl (lv_at hl 1 rfl) ?_
                      refine lv_iload hx hb dX8_truthOf_124 (lv_at hl 3 rfl) ?_
                      have i_126 : (nI (b + (pl + 2 + d)) : Int32) = nI (b + (pl + 2 + d)) := rfl
                      refine w_ild (N := na) hx hb hK.1 hM ha.lt ha.k ha.n (by rw [i_126]; exact vp_in_nI (by omega) (by omega)) dX8_truthOf_126 ?_
                      have j_126 : (nI (b + (pl + 2 + d))).toNatClampNeg = b + (pl + 2 + d) := (congrArg Int32.toNatClampNeg i_126).trans (nI_clamp (by omega))
                      have q : (Vw ca (nI (b + (pl + 2 + d))).toNatClampNeg : Int32) = Vw ca (b + (pl + 2 + d)) := by rw [j_126]
                      refine lv_eqi q ?_
                      have q : (Vw ca (b + (pl + 2 + d)) : Int32) = lt.getD (pl + 2 + d) 0 := by rw [heV]; exact hs (pl + 2 + d) (by omega)
                      refine lv_eqi q ?_
                      refine w_cSi (As := [.int (lt.getD (pl + 2 + d) 0)]) (rest := []) ⟨hx, hb, hml, hown, hts⟩ (c_X8_isDigit l (lt.getD (pl + 2 + d) 0)) (va_cwS 1 hts gX8_truthOf_X8_isDigit rfl rfl rfl (by decide +kernel) ⟨Nat.le_of_ble_eq_true rfl, Nat.le_of_ble_eq_true rfl⟩) hM hK hS rfl hl.1 rfl (lv_room (Nat.le_of_ble_eq_true rfl)) dX8_truthOf_127 ⟨Nat.le_of_ble_eq_true rfl, Nat.le_of_ble_eq_true rfl⟩ (fun r127 V127 H locs hp127 hM hS => ?_)
                      obtain ⟨er127, eV⟩ := hp127
                      rw [eV] at hM; clear eV
                      refine lv_if_eq (tgt := 164) hx hb dX8_truthOf_130 (by decide) (fun c_130 => ?_) (fun c_130 => ?_)
                      · exact join164 Vw _ _ _ d nv hd7 env hdl hdd (fun _ => by rw [Bt_in (by omega), dg_in (okt.gd _)]; exact b2i_eq0 (er127.symm.trans c_130)) heV hM hS (lv_sub hl [0, 1, 2, 3, 4, 5, 6, 7, 8, 9, 10] rfl)
                      · have i9 : inR (lt.getD (pl + 2 + d) 0) 48 57 = true := b2i_ne0 (by rw [← er127]; exact c_130)
                        obtain ⟨lo9, hi9, en9⟩ := inR_j i9 (m := 48) (n := 57) rfl rfl (by omega) (by omega)
                        refine lv_iload hx hb dX8_truthOf_133 (lv_at hl 9 rfl) ?_
                        refine lv_bipush (v := 7) hx hb dX8_truthOf_135 (by decide) ?_
                        refine lv_icmp_ge (tgt := 164) hx hb dX8_truthOf_137 (by decide) (fun c_137 => ?_) (fun c_137 => ?_)
                        · have n_137 : 7 ≤ d := (nLe (a := 7) (b := d) rfl rfl (by omega) (by omega)).mp c_137
                          exact join164 Vw _ _ _ d nv hd7 env hdl hdd (fun h => absurd h (by omega)) heV hM hS (lv_sub hl [0, 1, 2, 3, 4, 5, 6, 7, 8, 9, 10] rfl)
                        · have n_137 : ¬ 7 ≤ d := fun q9 => c_137 ((nLe (a := 7) (b := d) rfl rfl (by omega) (by omega)).mpr q9)
                          refine lv_bipush (v := 10) hx hb dX8_truthOf_140 (by decide) ?_
                          refine lv_iload hx hb dX8_truthOf_142 (lv_at hl 10 rfl) ?_
                          refine lv_imul hx hb dX8_truthOf_144 ?_
                          have q : (10 * (nI nv) : Int32) = nI (10 * nv) := (nMul rfl rfl)
                          refine lv_eqi q ?_
                          refine lv_aload_n hx hb dX8_truthOf_145 rfl (lv_at hl 1 rfl) ?_
                          refine lv_iload hx hb dX8_truthOf_146 (lv_at hl 3 rfl) ?_
                          have i_148 : (nI (b + (pl + 2 + d)) : Int32) = nI (b + (pl + 2 + d)) := rfl
                          refine w_ild (N := na) hx hb hK.1 hM ha.lt ha.k ha.n (by rw [i_148]; exact vp_in_nI (by omega) (by omega)) dX8_truthOf_148 ?_
                          have j_148 : (nI (b + (pl + 2 + d))).toNatClampNeg = b + (pl + 2 + d) := (congrArg Int32.toNatClampNeg i_148).trans (nI_clamp (by omega))
                          have q : (Vw ca (nI (b + (pl + 2 + d))).toNatClampNeg : Int32) = Vw ca (b + (pl + 2 + d)) := by rw [j_148]
                          refine lv_eqi q ?_
                          have q : (Vw ca (b + (pl + 2 + d)) : Int32) = lt.getD (pl + 2 + d) 0 := by rw [heV]; exact hs _ (by omega)
                          refine lv_eqi q ?_
                          refine lv_iadd hx hb dX8_truthOf_149 ?_
                          have q : ((nI (10 * nv)) + (lt.getD (pl + 2 + d) 0) : Int32) = nI ((10 * nv) + (rj (lt.getD (pl + 2 + d) 0))) := (nAdd rfl en9)
                          refine lv_eqi q ?_
                          refine lv_bipush (v := 48) hx hb dX8_truthOf_150 (by decide) ?_
                          refine lv_isub hx hb dX8_truthOf_152 ?_
                          refine lv_topi (fun x13_153 ex13_153 => ?_)
                          refine lv_istore (lv' := [(13, .int x13_153), (0, .ref (E.1 + 580)), (1, .ref (E.1 + ca)), (4, .int (nI (b + lt.length))), (5, .int (nI (b + (pl + 2 + d)))), (6, .int v6), (7, .int v7), (9, .int w9), (10, .int x10_97), (11, .int x11_105), (12, .int (nI d))]) hx hb dX8_truthOf_153 hl (by decide) rfl (fun ls hl => ?_)
                          obtain ⟨x12_155, ex12_155⟩ : ∃ y : Int32, y = (nI d) + 1 := ⟨_, rfl⟩
                          refine lv_iinc (v := x12_155) (lv' := [(12, .int x12_155), (13, .int x13_153), (0, .ref (E.1 + 580)), (1, .ref (E.1 + ca)), (4, .int (nI (b + lt.length))), (5, .int (nI (b + (pl + 2 + d)))), (6, .int v6), (7, .int v7), (9, .int w9), (10, .int x10_97), (11, .int x11_105)]) hx hb dX8_truthOf_155 hl (k := 10) rfl (by rw [ex12_155]; rfl) (by decide) rfl (fun ls hl => ?_)
                          obtain ⟨x5_158, ex5_158⟩ : ∃ y : Int32, y = (nI (b + (pl + 2 + d))) + 1 := ⟨_, rfl⟩
                          refine lv_iinc (v := x5_158) (lv' := [(5, .int x5_158), (12, .int x12_155), (13, .int x13_153), (0, .ref (E.1 + 580)), (1, .ref (E.1 + ca)), (4, .int (nI (b + lt.length))), (6, .int v6), (7, .int v7), (9, .int w9), (10, .int x10_97), (11, .int x11_105)]) hx hb dX8_truthOf_158 hl (k := 5) rfl (by rw [ex5_158]; rfl) (by decide) rfl (fun ls hl => ?_)
                          refine lv_goto (tgt := 116) hx hb dX8_truthOf_161 (by decide) ?_
                          rw [show x5_158 = nI ((b + (pl + 2 + d)) + 1) from (ex5_158.trans (nAdd rfl rfl))] at hl
                          rw [show x12_155 = nI (d + 1) from (ex12_155.trans (nAdd rfl rfl))] at hl
                          rw [show x13_153 = nI (((10 * nv) + (rj (lt.getD (pl + 2 + d) 0))) - 48) from (ex13_153.trans (nSub rfl rfl (by omega)))] at hl
                          exact ih116 Vw _ _ _ (d + 1) (10 * nv + rj (lt.getD (pl + 2 + d) 0) - 48) (by omega) (by rw [env]; show _ = 10 * nvS lt (pl + 2) d + dN _; rw [Bt_in (by omega), dN_m en9 lo9 (by omega)]; omega) (by omega) (fun z hz => by by_cases q : z = d; (subst q; rw [Bt_in (by omega), dg_in (okt.gd _)]; exact i9); (exact hdd z (by omega))) heV (by omega) hM hS (lv_sub hl [3, 4, 5, 0, 6, 7, 8, 9, 10, 1, 2] rfl)
                rw [show x5_107 = nI ((b + pl) + 2) from (ex5_107.trans (nAdd rfl rfl))] at hl
                exact loop116 _ Vw _ _ _ 0 0 (by omega) (rfl) (by omega) (fun z hz => absurd hz (by omega)) (heV) (Nat.lt_succ_self _) hM hS (lv_sub hl [5, 6, 7, 2, 8, 9, 10, 4, 3, 1, 0] rfl)
              · have i80 : inR (lt.getD (pl) 0) 97 104 = false := b2i_eq0 (er77.symm.trans c_80)
                refine lv_iconst (v := (-1)) hx hb dX8_truthOf_83 (by decide) ?_
                have hpost : (fun v V' => v = truth qq lt ∧ V' = V) (-1) Vw := by
                  refine ⟨?_, heV⟩
                  rw [hT, txt_none (tst_no2 (by rw [← hpl, Bt_in (by omega)]; exact okt.gd _) (by rw [← hpl, Bt_in (by omega)]; exact i80))]
                exact w_iret Vw hx hb hret hK hS hM (hpost) hlocks dX8_truthOf_84
          refine lv_iload hx hb dX8_truthOf_45 (lv_at hl 3 rfl) ?_
          refine lv_iload hx hb dX8_truthOf_47 (lv_at hl 6 rfl) ?_
          refine lv_if_eq (tgt := 56) hx hb dX8_truthOf_49 (by decide) (fun c_49 => ?_) (fun c_49 => ?_)
          · have nt0 := b2i_eq0 (e9.symm.trans c_49)
            refine lv_iconst (v := 0) hx hb dX8_truthOf_56 (by decide) ?_
            refine lv_iadd hx hb dX8_truthOf_57 ?_
            have q : ((nI (b + pp)) + 0 : Int32) = nI ((b + pp) + 0) := (nAdd rfl rfl)
            refine lv_eqi q ?_
            refine lv_topi (fun x5_58 ex5_58 => ?_)
            refine lv_istore (lv' := [(5, .int x5_58), (0, .ref (E.1 + 580)), (1, .ref (E.1 + ca)), (4, .int (nI (b + lt.length))), (6, .int v6), (7, .int v7), (9, .int w9)]) hx hb dX8_truthOf_58 hl (by decide) rfl (fun ls hl => ?_)
            rw [show x5_58 = nI ((b + pp) + 0) from (ex5_58.trans rfl)] at hl
            exact join60 Vw _ _ _ pp (by unfold p1; rw [if_neg (of_decide_eq_false (hnt.trans nt0))]) heV hM hS (lv_sub hl [1, 2, 3, 0, 4, 5, 6] rfl)
          · have nt1 := b2i_ne0 (by rw [← e9]; exact c_49)
            refine lv_iconst (v := 1) hx hb dX8_truthOf_52 (by decide) ?_
            refine lv_goto (tgt := 57) hx hb dX8_truthOf_53 (by decide) ?_
            refine lv_iadd hx hb dX8_truthOf_57 ?_
            have q : ((nI (b + pp)) + 1 : Int32) = nI ((b + pp) + 1) := (nAdd rfl rfl)
            refine lv_eqi q ?_
            refine lv_topi (fun x5_58 ex5_58 => ?_)
            refine lv_istore (lv' := [(5, .int x5_58), (0, .ref (E.1 + 580)), (1, .ref (E.1 + ca)), (4, .int (nI (b + lt.length))), (6, .int v6), (7, .int v7), (9, .int w9)]) hx hb dX8_truthOf_58 hl (by decide) rfl (fun ls hl => ?_)
            rw [show x5_58 = nI ((b + pp) + 1) from (ex5_58.trans rfl)] at hl
            exact join60 Vw _ _ _ (pp + 1) (by unfold p1; rw [if_pos (of_decide_eq_true (hnt.trans nt1))]) heV hM hS (lv_sub hl [1, 2, 3, 0, 4, 5, 6] rfl)
        refine lv_iload hx hb dX8_truthOf_22 (lv_at hl 3 rfl) ?_
        refine lv_iload hx hb dX8_truthOf_24 (lv_at hl 2 rfl) ?_
        refine lv_icmp_ge (tgt := 42) hx hb dX8_truthOf_26 (by decide) (fun c_26 => ?_) (fun c_26 => ?_)
        · have n_26 : (b + lt.length) ≤ (b + pp) := (nLe (a := (b + lt.length)) (b := (b + pp)) rfl rfl (by omega) (by omega)).mp c_26
          refine lv_iconst (v := 0) hx hb dX8_truthOf_42 (by decide) ?_
          refine lv_istore (lv' := [(9, .int 0), (0, .ref (E.1 + 580)), (1, .ref (E.1 + ca)), (4, .int (nI (b + lt.length))), (5, .int (nI (b + pp))), (6, .int v6), (7, .int v7), (8, .int v8)]) hx hb dX8_truthOf_43 hl (by decide) rfl (fun ls hl => ?_)
          exact join45 Vw _ _ _ false 0 (decide_eq_false (by rw [Bt_out (by omega)]; decide)) rfl heV hM hS (lv_sub hl [1, 2, 3, 4, 5, 6, 0] rfl)
        · have n_26 : ¬ (b + lt.length) ≤ (b + pp) := fun q9 => c_26 ((nLe (a := (b + lt.length)) (b := (b + pp)) rfl rfl (by omega) (by omega)).mpr q9)
          refine lv_aload_n hx hb dX8_truthOf_29 rfl (lv_at hl 1 rfl) ?_
          refine lv_iload hx hb dX8_truthOf_30 (lv_at hl 3 rfl) ?_
          have i_32 : (nI (b + pp) : Int32) = nI (b + pp) := rfl
          refine w_ild (N := na) hx hb hK.1 hM ha.lt ha.k ha.n (by rw [i_32]; exact vp_in_nI (by omega) (by omega)) dX8_truthOf_32 ?_
          have j_32 : (nI (b + pp)).toNatClampNeg = b + pp := (congrArg Int32.toNatClampNeg i_32).trans (nI_clamp (by omega))
          have q : (Vw ca (nI (b + pp)).toNatClampNeg : Int32) = Vw ca (b + pp) := by rw [j_32]
          refine lv_eqi q ?_
          have q : (Vw ca (b + pp) : Int32) = lt.getD (pp) 0 := by rw [heV]; exact hs (pp) (by omega)
          refine lv_eqi q ?_
          refine lv_bipush (v := 33) hx hb dX8_truthOf_33 (by decide) ?_
          refine lv_icmp_ne (tgt := 42) hx hb dX8_truthOf_35 (by decide) (fun c_35 => ?_) (fun c_35 => ?_)
          · refine lv_iconst (v := 0) hx hb dX8_truthOf_42 (by decide) ?_
            refine lv_istore (lv' := [(9, .int 0), (0, .ref (E.1 + 580)), (1, .ref (E.1 + ca)), (4, .int (nI (b + lt.length))), (5, .int (nI (b + pp))), (6, .int v6), (7, .int v7), (8, .int v8)]) hx hb dX8_truthOf_43 hl (by decide) rfl (fun ls hl => ?_)
            exact join45 Vw _ _ _ false 0 (decide_eq_false (fun h => c_35 ((Bt_in (by omega)).symm.trans h))) rfl heV hM hS (lv_sub hl [1, 2, 3, 4, 5, 6, 0] rfl)
          · refine lv_iconst (v := 1) hx hb dX8_truthOf_38 (by decide) ?_
            refine lv_goto (tgt := 43) hx hb dX8_truthOf_39 (by decide) ?_
            refine lv_istore (lv' := [(9, .int 1), (0, .ref (E.1 + 580)), (1, .ref (E.1 + ca)), (4, .int (nI (b + lt.length))), (5, .int (nI (b + pp))), (6, .int v6), (7, .int v7), (8, .int v8)]) hx hb dX8_truthOf_43 hl (by decide) rfl (fun ls hl => ?_)
            exact join45 Vw _ _ _ true 1 (decide_eq_true ((Bt_in (by omega)).trans c_35)) rfl heV hM hS (lv_sub hl [1, 2, 3, 4, 5, 6, 0] rfl)
  rw [show x4_3 = nI (b + lt.length) from (ex4_3.trans rfl)] at hl
  rw [show x5_6 = nI (b) from (ex5_6.trans rfl)] at hl
  exact loop17 _ V _ _ _ 0 (lt.length + 1) false true true _ _ _ (rfl) (rfl) (rfl) (Or.inl ⟨rfl, rfl, by omega⟩) (by omega) (rfl) (Nat.lt_succ_self _) hM hS (lv_sub hl [5, 6, 4, 3, 2, 1, 0] rfl)
