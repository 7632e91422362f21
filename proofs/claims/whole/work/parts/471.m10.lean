-- needs: 44 450 451 452 453 454 455 456 457 460 461 462 463 464 466 469
set_option maxHeartbeats 4000000 in
set_option maxRecDepth 100000 in
theorem c_X8_isNamed (l : Launch) {E : En} {V : Vt} {nm tx : List Int32} {t1 l1 : Nat} (ht9 : t1 < 9) (hl90 : l1 < 90) (n0 : V 597 t1 = nI nm.length) (n1 : seg V 598 (60 * t1) nm) (x0 : V 600 l1 = nI tx.length) (x1 : seg V 601 (60 * l1) tx) (hn60 : nm.length ≤ 60) (hx60 : tx.length ≤ 60) {t lx : Int32} (et : t = nI t1) (el : lx = nI l1) : CI l yX8_isNamed wsX8_isNamed 0 E V [.ref (E.1 + 580), .int t, .int lx] (fun v V' => v = b2i (decide (nm = tx)) ∧ V' = V) := by
  refine Met.ofW (cc := cX8_isNamed) (maxL := 5) (ret := (some .boolean)) (by decide) rfl ?_
  intro p e s m args below meth c s₁ B hml hv
  obtain ⟨rfl, hM, hK⟩ := hv
  have hx := B.exec
  have hb := B.bytes
  have hret := B.returns
  have hts := atoms_spec (ws := wsX8_isNamed) B.pre
  have hown : s.vm.findClass RX8 = some m.cls := findClass_of_methodNamed B.named
  have hlocks := B.notSynchronized
  have hsz : s.heap.size = E.1 + 610 := hM.1
  have hS : va_S (AE E) s.heap s.heap [] := va_S.rf
  have inw8 : ∀ w ∈ u_ws RX8 TX8 42, w ∈ wsX8_isNamed := by decide +kernel
  have k63 := hts (.fieldLink RX8 63 "LimitTokensModel" "nameSize" "[I") (by decide +kernel)
  have k72 := hts (.fieldLink RX8 72 "LimitTokensModel" "textSize" "[I") (by decide +kernel)
  have k66 := hts (.fieldLink RX8 66 "LimitTokensModel" "name" "[I") (by decide +kernel)
  have k75 := hts (.fieldLink RX8 75 "LimitTokensModel" "text" "[I") (by decide +kernel)
  have hl := lv_entry ([.ref (E.1 + 580), .int t, .int lx]) (n := 5) (Nat.le_of_ble_eq_true rfl)
  rw [lg_entry_eq]
  generalize (lg_sl ([.ref (E.1 + 580), .int t, .int lx]) ++ List.replicate (5 - (lg_sl ([.ref (E.1 + 580), .int t, .int lx])).length) Slot.unset).toArray = ls at hl ⊢
  have hl : lv_has ls 5 [(0, .ref (E.1 + 580)), (1, .int t), (2, .int lx)] := hl
  refine lv_aload_n hx hb dX8_isNamed_0 rfl (lv_at hl 0 rfl) ?_
  refine w_gr 8 22 597 (T := TX8) (N := 42) hx hb hts inw8 hown hK.1 hM (by decide) (by decide) (by decide) (by decide) (by decide) rfl (by decide) k63 rfl dX8_isNamed_1 ?_
  refine lv_iload_n hx hb dX8_isNamed_4 rfl (lv_at hl 1 rfl) ?_
  have i_5 : (t : Int32) = nI (t1) := et
  refine w_ild (N := 9) hx hb hK.1 hM (by decide) (by decide) (by decide) (by rw [i_5]; exact vp_in_nI (by omega) (by omega)) dX8_isNamed_5 ?_
  have j_5 : t.toNatClampNeg = t1 := (congrArg Int32.toNatClampNeg i_5).trans (nI_clamp (by omega))
  have q : (V 597 t.toNatClampNeg : Int32) = V 597 t1 := by rw [j_5]
  refine lv_eqi q ?_
  have q : (V 597 t1 : Int32) = nI nm.length := n0
  refine lv_eqi q ?_
  refine lv_aload_n hx hb dX8_isNamed_6 rfl (lv_at hl 0 rfl) ?_
  refine w_gr 8 25 600 (T := TX8) (N := 42) hx hb hts inw8 hown hK.1 hM (by decide) (by decide) (by decide) (by decide) (by decide) rfl (by decide) k72 rfl dX8_isNamed_7 ?_
  refine lv_iload_n hx hb dX8_isNamed_10 rfl (lv_at hl 2 rfl) ?_
  have i_11 : (lx : Int32) = nI (l1) := el
  refine w_ild (N := 90) hx hb hK.1 hM (by decide) (by decide) (by decide) (by rw [i_11]; exact vp_in_nI (by omega) (by omega)) dX8_isNamed_11 ?_
  have j_11 : lx.toNatClampNeg = l1 := (congrArg Int32.toNatClampNeg i_11).trans (nI_clamp (by omega))
  have q : (V 600 lx.toNatClampNeg : Int32) = V 600 l1 := by rw [j_11]
  refine lv_eqi q ?_
  have q : (V 600 l1 : Int32) = nI tx.length := x0
  refine lv_eqi q ?_
  refine lv_icmp_ne (tgt := 19) hx hb dX8_isNamed_12 (by decide) (fun c_12 => ?_) (fun c_12 => ?_)
  · have n_12 : ¬ nm.length = tx.length := fun q9 => c_12 ((nEq (a := nm.length) (b := tx.length) rfl rfl (by omega) (by omega)).mpr q9)
    refine lv_iconst (v := 0) hx hb dX8_isNamed_19 (by decide) ?_
    refine lv_istore_n (lv' := [(3, .int 0), (0, .ref (E.1 + 580)), (1, .int t), (2, .int lx)]) hx hb dX8_isNamed_20 rfl hl (by decide) rfl (fun ls hl => ?_)
    refine lv_iconst (v := 0) hx hb dX8_isNamed_21 (by decide) ?_
    refine lv_istore (lv' := [(4, .int 0), (3, .int 0), (0, .ref (E.1 + 580)), (1, .int t), (2, .int lx)]) hx hb dX8_isNamed_22 hl (by decide) rfl (fun ls hl => ?_)
    have loop24 : ∀ (fu : Nat) (Vw : Vt) (H : Heap) (locs : List Loc) (ls : Array Slot) (j : Nat) (v3 : Int32) (hj : j ≤ tx.length) (ev : v3 = b2i (decide (nm.length = tx.length) && decide (nm.take j = tx.take j))) (heV : Vw = V), tx.length - j < fu → Wd E Vw H → va_S (AE E) s.heap H locs → lv_has ls 5 [(0, .ref (E.1 + 580)), (1, .int t), (2, .int lx), (3, .int v3), (4, .int (nI j))] → W p l e (headSpec wsX8_isNamed (rmD 0)).room s m ([.ref (E.1 + 580), .int t, .int lx] : List Value).toArray below meth c H locs 0 0 (MQ below (QI E (fun V' => Wd E V') (fun v V' => v = b2i (decide (nm = tx)) ∧ V' = V)) ([.ref (E.1 + 580), .int t, .int lx] : List Value).toArray s 0 0 (AE E)) (F0 m 24 ls []) := by
      intro fu
      induction fu with
      | zero => intros; omega
      | succ fu ih24 =>
        intro Vw H locs ls j v3 hj ev heV hfu hM hS hl
        refine lv_iload hx hb dX8_isNamed_24 (lv_at hl 4 rfl) ?_
        refine lv_aload_n hx hb dX8_isNamed_26 rfl (lv_at hl 0 rfl) ?_
        refine w_gr 8 25 600 (T := TX8) (N := 42) hx hb hts inw8 hown hK.1 hM (by decide) (by decide) (by decide) (by decide) (by decide) rfl (by decide) k72 rfl dX8_isNamed_27 ?_
        refine lv_iload_n hx hb dX8_isNamed_30 rfl (lv_at hl 2 rfl) ?_
        have i_31 : (lx : Int32) = nI (l1) := el
        refine w_ild (N := 90) hx hb hK.1 hM (by decide) (by decide) (by decide) (by rw [i_31]; exact vp_in_nI (by omega) (by omega)) dX8_isNamed_31 ?_
        have j_31 : lx.toNatClampNeg = l1 := (congrArg Int32.toNatClampNeg i_31).trans (nI_clamp (by omega))
        have q : (Vw 600 lx.toNatClampNeg : Int32) = Vw 600 l1 := by rw [j_31]
        refine lv_eqi q ?_
        have q : (Vw 600 l1 : Int32) = nI tx.length := by rw [heV]; exact x0
        refine lv_eqi q ?_
        refine lv_icmp_ge (tgt := 78) hx hb dX8_isNamed_32 (by decide) (fun c_32 => ?_) (fun c_32 => ?_)
        · have n_32 : tx.length ≤ j := (nLe (a := tx.length) (b := j) rfl rfl (by omega) (by omega)).mp c_32
          refine lv_iload_n hx hb dX8_isNamed_78 rfl (lv_at hl 3 rfl) ?_
          have hpost : (fun v V' => v = b2i (decide (nm = tx)) ∧ V' = V) v3 Vw := by
            first | exact ⟨ev.trans (nam_e (Or.inl n_32)), heV⟩ | exact ⟨ev.trans (nam_e (Or.inr d1)), heV⟩
          exact w_zret Vw hx hb hret hK hS hM (hpost) (by rw [ev]; exact b2i_nar _) hlocks dX8_isNamed_79
        · have n_32 : ¬ tx.length ≤ j := fun q9 => c_32 ((nLe (a := tx.length) (b := j) rfl rfl (by omega) (by omega)).mpr q9)
          refine lv_iload_n hx hb dX8_isNamed_35 rfl (lv_at hl 3 rfl) ?_
          refine lv_if_eq (tgt := 78) hx hb dX8_isNamed_36 (by decide) (fun c_36 => ?_) (fun c_36 => ?_)
          · have d1 := b2i_eq0 (ev.symm.trans c_36)
            refine lv_iload_n hx hb dX8_isNamed_78 rfl (lv_at hl 3 rfl) ?_
            have hpost : (fun v V' => v = b2i (decide (nm = tx)) ∧ V' = V) v3 Vw := by
              first | exact ⟨ev.trans (nam_e (Or.inl n_32)), heV⟩ | exact ⟨ev.trans (nam_e (Or.inr d1)), heV⟩
            exact w_zret Vw hx hb hret hK hS hM (hpost) (by rw [ev]; exact b2i_nar _) hlocks dX8_isNamed_79
          · have d1 := b2i_ne0 (by rw [← ev]; exact c_36)
            rw [Bool.and_eq_true] at d1
            have hle := of_decide_eq_true d1.1
            refine lv_aload_n hx hb dX8_isNamed_39 rfl (lv_at hl 0 rfl) ?_
            refine w_gr 8 23 598 (T := TX8) (N := 42) hx hb hts inw8 hown hK.1 hM (by decide) (by decide) (by decide) (by decide) (by decide) rfl (by decide) k66 rfl dX8_isNamed_40 ?_
            refine lv_bipush (v := 60) hx hb dX8_isNamed_43 (by decide) ?_
            refine lv_iload_n hx hb dX8_isNamed_45 rfl (lv_at hl 1 rfl) ?_
            refine lv_imul hx hb dX8_isNamed_46 ?_
            have q : (60 * t : Int32) = nI (60 * t1) := (nMul rfl et)
            refine lv_eqi q ?_
            refine lv_iload hx hb dX8_isNamed_47 (lv_at hl 4 rfl) ?_
            refine lv_iadd hx hb dX8_isNamed_49 ?_
            have q : ((nI (60 * t1)) + (nI j) : Int32) = nI ((60 * t1) + j) := (nAdd rfl rfl)
            refine lv_eqi q ?_
            have i_50 : (nI ((60 * t1) + j) : Int32) = nI ((60 * t1) + j) := rfl
            refine w_ild (N := 540) hx hb hK.1 hM (by decide) (by decide) (by decide) (by rw [i_50]; exact vp_in_nI (by omega) (by omega)) dX8_isNamed_50 ?_
            have j_50 : (nI ((60 * t1) + j)).toNatClampNeg = (60 * t1) + j := (congrArg Int32.toNatClampNeg i_50).trans (nI_clamp (by omega))
            have q : (Vw 598 (nI ((60 * t1) + j)).toNatClampNeg : Int32) = Vw 598 ((60 * t1) + j) := by rw [j_50]
            refine lv_eqi q ?_
            have q : (Vw 598 ((60 * t1) + j) : Int32) = nm.getD j 0 := by rw [heV]; exact n1 j (by omega)
            refine lv_eqi q ?_
            refine lv_aload_n hx hb dX8_isNamed_51 rfl (lv_at hl 0 rfl) ?_
            refine w_gr 8 26 601 (T := TX8) (N := 42) hx hb hts inw8 hown hK.1 hM (by decide) (by decide) (by decide) (by decide) (by decide) rfl (by decide) k75 rfl dX8_isNamed_52 ?_
            refine lv_bipush (v := 60) hx hb dX8_isNamed_55 (by decide) ?_
            refine lv_iload_n hx hb dX8_isNamed_57 rfl (lv_at hl 2 rfl) ?_
            refine lv_imul hx hb dX8_isNamed_58 ?_
            have q : (60 * lx : Int32) = nI (60 * l1) := (nMul rfl el)
            refine lv_eqi q ?_
            refine lv_iload hx hb dX8_isNamed_59 (lv_at hl 4 rfl) ?_
            refine lv_iadd hx hb dX8_isNamed_61 ?_
            have q : ((nI (60 * l1)) + (nI j) : Int32) = nI ((60 * l1) + j) := (nAdd rfl rfl)
            refine lv_eqi q ?_
            have i_62 : (nI ((60 * l1) + j) : Int32) = nI ((60 * l1) + j) := rfl
            refine w_ild (N := 5400) hx hb hK.1 hM (by decide) (by decide) (by decide) (by rw [i_62]; exact vp_in_nI (by omega) (by omega)) dX8_isNamed_62 ?_
            have j_62 : (nI ((60 * l1) + j)).toNatClampNeg = (60 * l1) + j := (congrArg Int32.toNatClampNeg i_62).trans (nI_clamp (by omega))
            have q : (Vw 601 (nI ((60 * l1) + j)).toNatClampNeg : Int32) = Vw 601 ((60 * l1) + j) := by rw [j_62]
            refine lv_eqi q ?_
            have q : (Vw 601 ((60 * l1) + j) : Int32) = tx.getD j 0 := by rw [heV]; exact x1 j (by omega)
            refine lv_eqi q ?_
            refine lv_icmp_ne (tgt := 70) hx hb dX8_isNamed_63 (by decide) (fun c_63 => ?_) (fun c_63 => ?_)
            · have d2 := decide_eq_false c_63
              refine lv_iconst (v := 0) hx hb dX8_isNamed_70 (by decide) ?_
              refine lv_istore_n (lv' := [(3, .int 0), (0, .ref (E.1 + 580)), (1, .int t), (2, .int lx), (4, .int (nI j))]) hx hb dX8_isNamed_71 rfl hl (by decide) rfl (fun ls hl => ?_)
              obtain ⟨x4_72, ex4_72⟩ : ∃ y : Int32, y = (nI j) + 1 := ⟨_, rfl⟩
              refine lv_iinc (v := x4_72) (lv' := [(4, .int x4_72), (3, .int 0), (0, .ref (E.1 + 580)), (1, .int t), (2, .int lx)]) hx hb dX8_isNamed_72 hl (k := 4) rfl (by rw [ex4_72]; rfl) (by decide) rfl (fun ls hl => ?_)
              refine lv_goto (tgt := 24) hx hb dX8_isNamed_75 (by decide) ?_
              rw [show x4_72 = nI (j + 1) from (ex4_72.trans (nAdd rfl rfl))] at hl
              exact ih24 Vw _ _ _ (j + 1) _ (by omega) (by rw [nam_s hle (by omega) d1.2, d2]; rfl) heV (by omega) hM hS (lv_sub hl [2, 3, 4, 1, 0] rfl)
            · have d2 := decide_eq_true c_63
              refine lv_iconst (v := 1) hx hb dX8_isNamed_66 (by decide) ?_
              refine lv_goto (tgt := 71) hx hb dX8_isNamed_67 (by decide) ?_
              refine lv_istore_n (lv' := [(3, .int 1), (0, .ref (E.1 + 580)), (1, .int t), (2, .int lx), (4, .int (nI j))]) hx hb dX8_isNamed_71 rfl hl (by decide) rfl (fun ls hl => ?_)
              obtain ⟨x4_72, ex4_72⟩ : ∃ y : Int32, y = (nI j) + 1 := ⟨_, rfl⟩
              refine lv_iinc (v := x4_72) (lv' := [(4, .int x4_72), (3, .int 1), (0, .ref (E.1 + 580)), (1, .int t), (2, .int lx)]) hx hb dX8_isNamed_72 hl (k := 4) rfl (by rw [ex4_72]; rfl) (by decide) rfl (fun ls hl => ?_)
              refine lv_goto (tgt := 24) hx hb dX8_isNamed_75 (by decide) ?_
              rw [show x4_72 = nI (j + 1) from (ex4_72.trans (nAdd rfl rfl))] at hl
              exact ih24 Vw _ _ _ (j + 1) _ (by omega) (by rw [nam_s hle (by omega) d1.2, d2]; rfl) heV (by omega) hM hS (lv_sub hl [2, 3, 4, 1, 0] rfl)
    exact loop24 _ V _ _ _ 0 _ (Nat.zero_le _) (by first | (rw [decide_eq_true n_12]; rfl) | (rw [decide_eq_false n_12]; rfl)) (rfl) (Nat.lt_succ_self _) hM hS (lv_sub hl [2, 3, 4, 1, 0] rfl)
  · have n_12 : nm.length = tx.length := (nEq (a := nm.length) (b := tx.length) rfl rfl (by omega) (by omega)).mp c_12
    refine lv_iconst (v := 1) hx hb dX8_isNamed_15 (by decide) ?_
    refine lv_goto (tgt := 20) hx hb dX8_isNamed_16 (by decide) ?_
    refine lv_istore_n (lv' := [(3, .int 1), (0, .ref (E.1 + 580)), (1, .int t), (2, .int lx)]) hx hb dX8_isNamed_20 rfl hl (by decide) rfl (fun ls hl => ?_)
    refine lv_iconst (v := 0) hx hb dX8_isNamed_21 (by decide) ?_
    refine lv_istore (lv' := [(4, .int 0), (3, .int 1), (0, .ref (E.1 + 580)), (1, .int t), (2, .int lx)]) hx hb dX8_isNamed_22 hl (by decide) rfl (fun ls hl => ?_)
    have loop24 : ∀ (fu : Nat) (Vw : Vt) (H : Heap) (locs : List Loc) (ls : Array Slot) (j : Nat) (v3 : Int32) (hj : j ≤ tx.length) (ev : v3 = b2i (decide (nm.length = tx.length) && decide (nm.take j = tx.take j))) (heV : Vw = V), tx.length - j < fu → Wd E Vw H → va_S (AE E) s.heap H locs → lv_has ls 5 [(0, .ref (E.1 + 580)), (1, .int t), (2, .int lx), (3, .int v3), (4, .int (nI j))] → W p l e (headSpec wsX8_isNamed (rmD 0)).room s m ([.ref (E.1 + 580), .int t, .int lx] : List Value).toArray below meth c H locs 0 0 (MQ below (QI E (fun V' => Wd E V') (fun v V' => v = b2i (decide (nm = tx)) ∧ V' = V)) ([.ref (E.1 + 580), .int t, .int lx] : List Value).toArray s 0 0 (AE E)) (F0 m 24 ls []) := by
      intro fu
      induction fu with
      | zero => intros; omega
      | succ fu ih24 =>
        intro Vw H locs ls j v3 hj ev heV hfu hM hS hl
        refine lv_iload hx hb dX8_isNamed_24 (lv_at hl 4 rfl) ?_
        refine lv_aload_n hx hb dX8_isNamed_26 rfl (lv_at hl 0 rfl) ?_
        refine w_gr 8 25 600 (T := TX8) (N := 42) hx hb hts inw8 hown hK.1 hM (by decide) (by decide) (by decide) (by decide) (by decide) rfl (by decide) k72 rfl dX8_isNamed_27 ?_
        refine lv_iload_n hx hb dX8_isNamed_30 rfl (lv_at hl 2 rfl) ?_
        have i_31 : (lx : Int32) = nI (l1) := el
        refine w_ild (N := 90) hx hb hK.1 hM (by decide) (by decide) (by decide) (by rw [i_31]; exact vp_in_nI (by omega) (by omega)) dX8_isNamed_31 ?_
        have j_31 : lx.toNatClampNeg = l1 := (congrArg Int32.toNatClampNeg i_31).trans (nI_clamp (by omega))
        have q : (Vw 600 lx.toNatClampNeg : Int32) = Vw 600 l1 := by rw [j_31]
        refine lv_eqi q ?_
        have q : (Vw 600 l1 : Int32) = nI tx.length := by rw [heV]; exact x0
        refine lv_eqi q ?_
        refine lv_icmp_ge (tgt := 78) hx hb dX8_isNamed_32 (by decide) (fun c_32 => ?_) (fun c_32 => ?_)
        · have n_32 : tx.length ≤ j := (nLe (a := tx.length) (b := j) rfl rfl (by omega) (by omega)).mp c_32
          refine lv_iload_n hx hb dX8_isNamed_78 rfl (lv_at hl 3 rfl) ?_
          have hpost : (fun v V' => v = b2i (decide (nm = tx)) ∧ V' = V) v3 Vw := by
            first | exact ⟨ev.trans (nam_e (Or.inl n_32)), heV⟩ | exact ⟨ev.trans (nam_e (Or.inr d1)), heV⟩
          exact w_zret Vw hx hb hret hK hS hM (hpost) (by rw [ev]; exact b2i_nar _) hlocks dX8_isNamed_79
        · have n_32 : ¬ tx.length ≤ j := fun q9 => c_32 ((nLe (a := tx.length) (b := j) rfl rfl (by omega) (by omega)).mpr q9)
          refine lv_iload_n hx hb dX8_isNamed_35 rfl (lv_at hl 3 rfl) ?_
          refine lv_if_eq (tgt := 78) hx hb dX8_isNamed_36 (by decide) (fun c_36 => ?_) (fun c_36 => ?_)
          · have d1 := b2i_eq0 (ev.symm.trans c_36)
            refine lv_iload_n hx hb dX8_isNamed_78 rfl (lv_at hl 3 rfl) ?_
            have hpost : (fun v V' => v = b2i (decide (nm = tx)) ∧ V' = V) v3 Vw := by
              first | exact ⟨ev.trans (nam_e (Or.inl n_32)), heV⟩ | exact ⟨ev.trans (nam_e (Or.inr d1)), heV⟩
            exact w_zret Vw hx hb hret hK hS hM (hpost) (by rw [ev]; exact b2i_nar _) hlocks dX8_isNamed_79
          · have d1 := b2i_ne0 (by rw [← ev]; exact c_36)
            rw [Bool.and_eq_true] at d1
            have hle := of_decide_eq_true d1.1
            refine lv_aload_n hx hb dX8_isNamed_39 rfl (lv_at hl 0 rfl) ?_
            refine w_gr 8 23 598 (T := TX8) (N := 42) hx hb hts inw8 hown hK.1 hM (by decide) (by decide) (by decide) (by decide) (by decide) rfl (by decide) k66 rfl dX8_isNamed_40 ?_
            refine lv_bipush (v := 60) hx hb dX8_isNamed_43 (by decide) ?_
            refine lv_iload_n hx hb dX8_isNamed_45 rfl (lv_at hl 1 rfl) ?_
            refine lv_imul hx hb dX8_isNamed_46 ?_
            have q : (60 * t : Int32) = nI (60 * t1) := (nMul rfl et)
            refine lv_eqi q ?_
            refine lv_iload hx hb dX8_isNamed_47 (lv_at hl 4 rfl) ?_
            refine lv_iadd hx hb dX8_isNamed_49 ?_
            have q : ((nI (60 * t1)) + (nI j) : Int32) = nI ((60 * t1) + j) := (nAdd rfl rfl)
            refine lv_eqi q ?_
            have i_50 : (nI ((60 * t1) + j) : Int32) = nI ((60 * t1) + j) := rfl
            refine w_ild (N := 540) hx hb hK.1 hM (by decide) (by decide) (by decide) (by rw [i_50]; exact vp_in_nI (by omega) (by omega)) dX8_isNamed_50 ?_
            have j_50 : (nI ((60 * t1) + j)).toNatClampNeg = (60 * t1) + j := (congrArg Int32.toNatClampNeg i_50).trans (nI_clamp (by omega))
            have q : (Vw 598 (nI ((60 * t1) + j)).toNatClampNeg : Int32) = Vw 598 ((60 * t1) + j) := by rw [j_50]
            refine lv_eqi q ?_
            have q : (Vw 598 ((60 * t1) + j) : Int32) = nm.getD j 0 := by rw [heV]; exact n1 j (by omega)
            refine lv_eqi q ?_
            refine lv_aload_n hx hb dX8_isNamed_51 rfl (lv_at hl 0 rfl) ?_
            refine w_gr 8 26 601 (T := TX8) (N := 42) hx hb hts inw8 hown hK.1 hM (by decide) (by decide) (by decide) (by decide) (by decide) rfl (by decide) k75 rfl dX8_isNamed_52 ?_
            refine lv_bipush (v := 60) hx hb dX8_isNamed_55 (by decide) ?_
            refine lv_iload_n hx hb dX8_isNamed_57 rfl (lv_at hl 2 rfl) ?_
            refine lv_imul hx hb dX8_isNamed_58 ?_
            have q : (60 * lx : Int32) = nI (60 * l1) := (nMul rfl el)
            refine lv_eqi q ?_
            refine lv_iload hx hb dX8_isNamed_59 (lv_at hl 4 rfl) ?_
            refine lv_iadd hx hb dX8_isNamed_61 ?_
            have q : ((nI (60 * l1)) + (nI j) : Int32) = nI ((60 * l1) + j) := (nAdd rfl rfl)
            refine lv_eqi q ?_
            have i_62 : (nI ((60 * l1) + j) : Int32) = nI ((60 * l1) + j) := rfl
            refine w_ild (N := 5400) hx hb hK.1 hM (by decide) (by decide) (by decide) (by rw [i_62]; exact vp_in_nI (by omega) (by omega)) dX8_isNamed_62 ?_
            have j_62 : (nI ((60 * l1) + j)).toNatClampNeg = (60 * l1) + j := (congrArg Int32.toNatClampNeg i_62).trans (nI_clamp (by omega))
            have q : (Vw 601 (nI ((60 * l1) + j)).toNatClampNeg : Int32) = Vw 601 ((60 * l1) + j) := by rw [j_62]
            refine lv_eqi q ?_
            have q : (Vw 601 ((60 * l1) + j) : Int32) = tx.getD j 0 := by rw [heV]; exact x1 j (by omega)
            refine lv_eqi q ?_
            refine lv_icmp_ne (tgt := 70) hx hb dX8_isNamed_63 (by decide) (fun c_63 => ?_) (fun c_63 => ?_)
            · have d2 := decide_eq_false c_63
              refine lv_iconst (v := 0) hx hb dX8_isNamed_70 (by decide) ?_
              refine lv_istore_n (lv' := [(3, .int 0), (0, .ref (E.1 + 580)), (1, .int t), (2, .int lx), (4, .int (nI j))]) hx hb dX8_isNamed_71 rfl hl (by decide) rfl (fun ls hl => ?_)
              obtain ⟨x4_72, ex4_72⟩ : ∃ y : Int32, y = (nI j) + 1 := ⟨_, rfl⟩
              refine lv_iinc (v := x4_72) (lv' := [(4, .int x4_72), (3, .int 0), (0, .ref (E.1 + 580)), (1, .int t), (2, .int lx)]) hx hb dX8_isNamed_72 hl (k := 4) rfl (by rw [ex4_72]; rfl) (by decide) rfl (fun ls hl => ?_)
              refine lv_goto (tgt := 24) hx hb dX8_isNamed_75 (by decide) ?_
              rw [show x4_72 = nI (j + 1) from (ex4_72.trans (nAdd rfl rfl))] at hl
              exact ih24 Vw _ _ _ (j + 1) _ (by omega) (by rw [nam_s hle (by omega) d1.2, d2]; rfl) heV (by omega) hM hS (lv_sub hl [2, 3, 4, 1, 0] rfl)
            · have d2 := decide_eq_true c_63
              refine lv_iconst (v := 1) hx hb dX8_isNamed_66 (by decide) ?_
              refine lv_goto (tgt := 71) hx hb dX8_isNamed_67 (by decide) ?_
              refine lv_istore_n (lv' := [(3, .int 1), (0, .ref (E.1 + 580)), (1, .int t), (2, .int lx), (4, .int (nI j))]) hx hb dX8_isNamed_71 rfl hl (by decide) rfl (fun ls hl => ?_)
              obtain ⟨x4_72, ex4_72⟩ : ∃ y : Int32, y = (nI j) + 1 := ⟨_, rfl⟩
              refine lv_iinc (v := x4_72) (lv' := [(4, .int x4_72), (3, .int 1), (0, .ref (E.1 + 580)), (1, .int t), (2, .int lx)]) hx hb dX8_isNamed_72 hl (k := 4) rfl (by rw [ex4_72]; rfl) (by decide) rfl (fun ls hl => ?_)
              refine lv_goto (tgt := 24) hx hb dX8_isNamed_75 (by decide) ?_
              rw [show x4_72 = nI (j + 1) from (ex4_72.trans (nAdd rfl rfl))] at hl
              exact ih24 Vw _ _ _ (j + 1) _ (by omega) (by rw [nam_s hle (by omega) d1.2, d2]; rfl) heV (by omega) hM hS (lv_sub hl [2, 3, 4, 1, 0] rfl)
    exact loop24 _ V _ _ _ 0 _ (Nat.zero_le _) (by first | (rw [decide_eq_true n_12]; rfl) | (rw [decide_eq_false n_12]; rfl)) (rfl) (Nat.lt_succ_self _) hM hS (lv_sub hl [2, 3, 4, 1, 0] rfl)

set_option maxHeartbeats 4000000 in
set_option maxRecDepth 100000 in
theorem c_X8_bind (l : Launch) {E : En} {V : Vt} {σ : St} (hC : repM V σ) (t u : Int32) : CI l yX8_bind wsX8_bind 4 E V [.ref (E.1 + 580), .int t, .int u] (fun v V' => v = (opBind σ t u).1 ∧ repM V' (opBind σ t u).2 ∧ frC V V') := by
  refine Met.ofW (cc := cX8_bind) (maxL := 3) (ret := (some .int)) (by decide) rfl ?_
  intro p e s m args below meth c s₁ B hml hv
  obtain ⟨rfl, hM, hK⟩ := hv
  have hx := B.exec
  have hb := B.bytes
  have hret := B.returns
  have hts := atoms_spec (ws := wsX8_bind) B.pre
  have hown : s.vm.findClass RX8 = some m.cls := findClass_of_methodNamed B.named
  have hlocks := B.notSynchronized
  have hsz : s.heap.size = E.1 + 610 := hM.1
  have hS : va_S (AE E) s.heap s.heap [] := va_S.rf
  have inw8 : ∀ w ∈ u_ws RX8 TX8 42, w ∈ wsX8_bind := by decide +kernel
  have k112 := hts (.fieldLink RX8 112 "LimitTokensModel" "thrown" "I") (by decide +kernel)
  have k43 := hts (.fieldLink RX8 43 "LimitTokensModel" "zeros" "[I") (by decide +kernel)
  have k84 := hts (.fieldLink RX8 84 "LimitTokensModel" "sign" "[I") (by decide +kernel)
  have k37 := hts (.fieldLink RX8 37 "LimitTokensModel" "out" "[I") (by decide +kernel)
  have hl := lv_entry ([.ref (E.1 + 580), .int t, .int u]) (n := 3) (Nat.le_of_ble_eq_true rfl)
  rw [lg_entry_eq]
  generalize (lg_sl ([.ref (E.1 + 580), .int t, .int u]) ++ List.replicate (3 - (lg_sl ([.ref (E.1 + 580), .int t, .int u])).length) Slot.unset).toArray = ls at hl ⊢
  have hl : lv_has ls 3 [(0, .ref (E.1 + 580)), (1, .int t), (2, .int u)] := hl
  refine lv_aload_n hx hb dX8_bind_0 rfl (lv_at hl 0 rfl) ?_
  refine lv_iconst (v := 0) hx hb dX8_bind_1 (by decide) ?_
  refine w_pi 8 0 (T := TX8) (N := 42) hx hb hts inw8 tyX8 tyX8_ok nmX8 hown hK.1 hM hS (by decide) (by decide) (by decide) (by decide) (by decide) rfl (by decide) k112 rfl rfl rfl rfl dX8_bind_2 (fun H locs hM hS => ?_)
  generalize hV2 : up2 V 580 0 0 = V2 at hM
  have hC2 := hC.fr (pFr.th hV2).1
  have fC2 := (pFr.th hV2).2
  obtain ⟨⟨oR, oT, oP⟩, cN, cR, cT, cP, cQ, cF, cL⟩ := id hC2
  refine lv_aload_n hx hb dX8_bind_5 rfl (lv_at hl 0 rfl) ?_
  refine lv_iload_n hx hb dX8_bind_6 rfl (lv_at hl 1 rfl) ?_
  refine w_cVi (C := RX8) (As := [.int t]) (rest := []) ⟨hx, hb, hml, hown, hts⟩ (c_X8_isToken l cT t) (cwV 1 hts gX8_bind_X8_isToken rfl rfl rfl (by decide +kernel) ⟨Nat.le_of_ble_eq_true rfl, Nat.le_of_ble_eq_true rfl⟩) (w_recv (ci := 8) hK hM (by decide) (by decide) (by decide) rfl) hM hK hS rfl hl.1 rfl (lv_room (Nat.le_of_ble_eq_true rfl)) dX8_bind_7 ⟨Nat.le_of_ble_eq_true rfl, Nat.le_of_ble_eq_true rfl⟩ (fun r7 V7 H locs hp7 hM hS => ?_)
  obtain ⟨er7, eV⟩ := hp7
  rw [eV] at hM; clear eV
  refine lv_if_eq (tgt := 21) hx hb dX8_bind_10 (by decide) (fun c_10 => ?_) (fun c_10 => ?_)
  · have hN : thr σ t = none := by have q9 := b2i_eq0 (er7.symm.trans c_10); cases q8 : thr σ t with | none => rfl | some x => rw [q8] at q9; cases q9
    refine lv_bipush (v := (-2)) hx hb dX8_bind_21 (by decide) ?_
    have hpost : (fun v V' => v = (opBind σ t u).1 ∧ repM V' (opBind σ t u).2 ∧ frC V V') (-2) V2 := by
      have hq : opBind σ t u = (-2, σ) := by first | (simp [opBind, hT, hNu]; done) | (simp [opBind, hN]; done)
      rw [hq]; exact ⟨rfl, hC2, fC2⟩
    exact w_iret V2 hx hb hret hK hS hM (hpost) hlocks dX8_bind_23
  · obtain ⟨T, hT⟩ : ∃ T, thr σ t = some T := Option.isSome_iff_exists.mp (b2i_ne0 (by rw [← er7]; exact c_10))
    obtain ⟨i1, ht, et, hTt⟩ := thr_some hT
    obtain ⟨hth, htk⟩ := (cT (rj t) ht).s hTt
    have hok := oT (rj t) ht T hTt
    refine lv_aload_n hx hb dX8_bind_13 rfl (lv_at hl 0 rfl) ?_
    refine lv_iload_n hx hb dX8_bind_14 rfl (lv_at hl 2 rfl) ?_
    refine w_cVi (C := RX8) (As := [.int u]) (rest := []) ⟨hx, hb, hml, hown, hts⟩ (c_X8_isToken l cT u) (cwV 1 hts gX8_bind_X8_isToken rfl rfl rfl (by decide +kernel) ⟨Nat.le_of_ble_eq_true rfl, Nat.le_of_ble_eq_true rfl⟩) (w_recv (ci := 8) hK hM (by decide) (by decide) (by decide) rfl) hM hK hS rfl hl.1 rfl (lv_room (Nat.le_of_ble_eq_true rfl)) dX8_bind_15 ⟨Nat.le_of_ble_eq_true rfl, Nat.le_of_ble_eq_true rfl⟩ (fun r15 V15 H locs hp15 hM hS => ?_)
    obtain ⟨er15, eV⟩ := hp15
    rw [eV] at hM; clear eV
    refine lv_if_ne (tgt := 24) hx hb dX8_bind_18 (by decide) (fun c_18 => ?_) (fun c_18 => ?_)
    · obtain ⟨U, hU⟩ : ∃ T, thr σ u = some T := Option.isSome_iff_exists.mp (b2i_ne0 (by rw [← er15]; exact c_18))
      obtain ⟨i2, htu, etu, hTtu⟩ := thr_some hU
      obtain ⟨hthu, htku⟩ := (cT (rj u) htu).s hTtu
      have hoku := oT (rj u) htu U hTtu
      refine lv_aload_n hx hb dX8_bind_24 rfl (lv_at hl 0 rfl) ?_
      refine lv_aload_n hx hb dX8_bind_25 rfl (lv_at hl 0 rfl) ?_
      refine w_gr 8 15 592 (T := TX8) (N := 42) hx hb hts inw8 hown hK.1 hM (by decide) (by decide) (by decide) (by decide) (by decide) rfl (by decide) k43 rfl dX8_bind_26 ?_
      refine lv_iconst (v := 0) hx hb dX8_bind_29 (by decide) ?_
      refine lv_bipush (v := 32) hx hb dX8_bind_30 (by decide) ?_
      refine w_cVv (C := RX8) (As := [.ref (E.1 + 592), .int 0, .int 32]) (rest := []) ⟨hx, hb, hml, hown, hts⟩ (m_keyIs l a592 (by decide) (b := 0) (n := 32) (l0 := zr) (cN.2.2) (by omega) (by omega) (by simp [zr])) (cwV 3 hts gX8_bind_X8_keyIs rfl rfl rfl (by decide +kernel) ⟨Nat.le_of_ble_eq_true rfl, Nat.le_of_ble_eq_true rfl⟩) (w_recv (ci := 8) hK hM (by decide) (by decide) (by decide) rfl) hM hK hS rfl hl.1 rfl (lv_room (Nat.le_of_ble_eq_true rfl)) dX8_bind_32 ⟨Nat.le_of_ble_eq_true rfl, Nat.le_of_ble_eq_true rfl⟩ (fun V32 H locs hp32 hM hS => ?_)
      have F32 : frS V2 V32 583 591 := (frS.rf).trans (⟨fun k a b => hp32.2.2.1 k (by omega) b, fun i _ a b => hp32.2.2.2 i a b⟩)
      have hk32 := hp32.1
      have hm32 := hp32.2.1
      refine lv_aload_n hx hb dX8_bind_35 rfl (lv_at hl 0 rfl) ?_
      refine lv_aload_n hx hb dX8_bind_36 rfl (lv_at hl 0 rfl) ?_
      refine w_gr 8 29 604 (T := TX8) (N := 42) hx hb hts inw8 hown hK.1 hM (by decide) (by decide) (by decide) (by decide) (by decide) rfl (by decide) k84 rfl dX8_bind_37 ?_
      refine lv_bipush (v := 32) hx hb dX8_bind_40 (by decide) ?_
      refine lv_iload_n hx hb dX8_bind_42 rfl (lv_at hl 2 rfl) ?_
      refine lv_imul hx hb dX8_bind_43 ?_
      have q : (32 * u : Int32) = nI (32 * (rj u)) := (nMul rfl etu)
      refine lv_eqi q ?_
      refine lv_bipush (v := 32) hx hb dX8_bind_44 (by decide) ?_
      refine w_cVv (C := RX8) (As := [.ref (E.1 + 604), .int (nI (32 * (rj u))), .int 32]) (rest := []) ⟨hx, hb, hml, hown, hts⟩ (m_add l a604 (by decide) hm32 (b := 32 * rj u) (n := 32) (l0 := U.2.1) (F32.seg htku.2.2.2.1 (by omega) (by omega)) (by omega) (by simp <;> omega) (hoku.2.1.1)) (cwV 3 hts gX8_bind_X8_add rfl rfl rfl (by decide +kernel) ⟨Nat.le_of_ble_eq_true rfl, Nat.le_of_ble_eq_true rfl⟩) (w_recv (ci := 8) hK hM (by decide) (by decide) (by decide) rfl) hM hK hS rfl hl.1 rfl (lv_room (Nat.le_of_ble_eq_true rfl)) dX8_bind_46 ⟨Nat.le_of_ble_eq_true rfl, Nat.le_of_ble_eq_true rfl⟩ (fun V46 H locs hp46 hM hS => ?_)
      have F46 : frS V2 V46 583 591 := (F32).trans (hp46.2.toS (by omega) (by decide))
      have hk46 := hk32.keep (hp46.2.2 10 (by decide)) (hp46.2.1 588 (by decide) (by decide))
      have hm46 := hp46.1
      refine lv_aload_n hx hb dX8_bind_49 rfl (lv_at hl 0 rfl) ?_
      refine lv_aload_n hx hb dX8_bind_50 rfl (lv_at hl 0 rfl) ?_
      refine w_gr 8 29 604 (T := TX8) (N := 42) hx hb hts inw8 hown hK.1 hM (by decide) (by decide) (by decide) (by decide) (by decide) rfl (by decide) k84 rfl dX8_bind_51 ?_
      refine lv_bipush (v := 32) hx hb dX8_bind_54 (by decide) ?_
      refine lv_iload_n hx hb dX8_bind_56 rfl (lv_at hl 1 rfl) ?_
      refine lv_imul hx hb dX8_bind_57 ?_
      have q : (32 * t : Int32) = nI (32 * (rj t)) := (nMul rfl et)
      refine lv_eqi q ?_
      refine lv_bipush (v := 32) hx hb dX8_bind_58 (by decide) ?_
      refine w_cVv (C := RX8) (As := [.ref (E.1 + 604), .int (nI (32 * (rj t))), .int 32]) (rest := []) ⟨hx, hb, hml, hown, hts⟩ (m_add l a604 (by decide) hm46 (b := 32 * rj t) (n := 32) (l0 := T.2.1) (F46.seg htk.2.2.2.1 (by omega) (by omega)) (by omega) (by simp [hoku.2.1.1]) (hok.2.1.1)) (cwV 3 hts gX8_bind_X8_add rfl rfl rfl (by decide +kernel) ⟨Nat.le_of_ble_eq_true rfl, Nat.le_of_ble_eq_true rfl⟩) (w_recv (ci := 8) hK hM (by decide) (by decide) (by decide) rfl) hM hK hS rfl hl.1 rfl (lv_room (Nat.le_of_ble_eq_true rfl)) dX8_bind_60 ⟨Nat.le_of_ble_eq_true rfl, Nat.le_of_ble_eq_true rfl⟩ (fun V60 H locs hp60 hM hS => ?_)
      have F60 : frS V2 V60 583 591 := (F46).trans (hp60.2.toS (by omega) (by decide))
      have hk60 := hk46.keep (hp60.2.2 10 (by decide)) (hp60.2.1 588 (by decide) (by decide))
      have hm60 := hp60.1
      refine lv_aload_n hx hb dX8_bind_63 rfl (lv_at hl 0 rfl) ?_
      refine w_cVv (C := RX8) (As := []) (rest := []) ⟨hx, hb, hml, hown, hts⟩ (c_X8_sealNow l (fun i hi => by rw [(F60).1 582 (by omega) (by decide)]; exact cN.1 i hi) (fun i hi => by rw [(F60).1 581 (by omega) (by decide)]; exact cN.2.1 i hi) hk60 hm60 (by simp [zr]) (by simp [hoku.2.1.1, hok.2.1.1])) (cwV 0 hts gX8_bind_X8_sealNow rfl rfl rfl (by decide +kernel) ⟨Nat.le_of_ble_eq_true rfl, Nat.le_of_ble_eq_true rfl⟩) (w_recv (ci := 8) hK hM (by decide) (by decide) (by decide) rfl) hM hK hS rfl hl.1 rfl (lv_room (Nat.le_of_ble_eq_true rfl)) dX8_bind_64 ⟨Nat.le_of_ble_eq_true rfl, Nat.le_of_ble_eq_true rfl⟩ (fun V64 H locs hp64 hM hS => ?_)
      rw [List.nil_append] at hp64
      have F64 : frS V2 V64 583 591 := (F60).trans (hp64.2.wide (by decide))
      refine lv_aload_n hx hb dX8_bind_67 rfl (lv_at hl 0 rfl) ?_
      refine w_gr 8 13 590 (T := TX8) (N := 42) hx hb hts inw8 hown hK.1 hM (by decide) (by decide) (by decide) (by decide) (by decide) rfl (by decide) k37 rfl dX8_bind_68 ?_
      refine lv_aload_n hx hb dX8_bind_71 rfl (lv_at hl 0 rfl) ?_
      refine w_gr 8 29 604 (T := TX8) (N := 42) hx hb hts inw8 hown hK.1 hM (by decide) (by decide) (by decide) (by decide) (by decide) rfl (by decide) k84 rfl dX8_bind_72 ?_
      refine lv_bipush (v := 32) hx hb dX8_bind_75 (by decide) ?_
      refine lv_iload_n hx hb dX8_bind_77 rfl (lv_at hl 1 rfl) ?_
      refine lv_imul hx hb dX8_bind_78 ?_
      have q : (32 * t : Int32) = nI (32 * (rj t)) := (nMul rfl et)
      refine lv_eqi q ?_
      refine w_cSv (As := [.ref (E.1 + 590), .ref (E.1 + 604), .int (nI (32 * (rj t)))]) (rest := []) ⟨hx, hb, hml, hown, hts⟩ (c_X8_copyTo l a590 a604 (by decide) (by omega) (b := 32 * rj t) (by omega)) (va_cwS 3 hts gX8_bind_X8_copyTo rfl rfl rfl (by decide +kernel) ⟨Nat.le_of_ble_eq_true rfl, Nat.le_of_ble_eq_true rfl⟩) hM hK hS rfl hl.1 rfl (lv_room (Nat.le_of_ble_eq_true rfl)) dX8_bind_79 ⟨Nat.le_of_ble_eq_true rfl, Nat.le_of_ble_eq_true rfl⟩ (fun V79 H locs hp79 hM hS => ?_)
      refine lv_iconst (v := 0) hx hb dX8_bind_82 (by decide) ?_
      have hpost : (fun v V' => v = (opBind σ t u).1 ∧ repM V' (opBind σ t u).2 ∧ frC V V') 0 V79 := by
        have hq : opBind σ t u = (0, sTok σ (rj t) (some (T.1, hmac zr (U.2.1 ++ T.2.1), T.2.2))) := by simp [opBind, hT, hU]
        have hC64 := hC2.fr (F64.p (by decide))
        have h9 := hC64.sgn ht hTt (hmac_len _ _) (hmac_ok _ _) hp64.1 hp79
        rw [hq]; exact ⟨rfl, h9.1, (fC2.trans (F64.C (by decide))).trans h9.2⟩
      exact w_iret V79 hx hb hret hK hS hM (hpost) hlocks dX8_bind_83
    · have hNu : thr σ u = none := by have q9 := b2i_eq0 (er15.symm.trans c_18); cases q8 : thr σ u with | none => rfl | some x => rw [q8] at q9; cases q9
      refine lv_bipush (v := (-2)) hx hb dX8_bind_21 (by decide) ?_
      have hpost : (fun v V' => v = (opBind σ t u).1 ∧ repM V' (opBind σ t u).2 ∧ frC V V') (-2) V2 := by
        have hq : opBind σ t u = (-2, σ) := by first | (simp [opBind, hT, hNu]; done) | (simp [opBind, hN]; done)
        rw [hq]; exact ⟨rfl, hC2, fC2⟩
      exact w_iret V2 hx hb hret hK hS hM (hpost) hlocks dX8_bind_23

set_option maxHeartbeats 4000000 in
set_option maxRecDepth 100000 in
theorem c_X8_make (l : Launch) {E : En} {V : Vt} {σ : St} (hC : repM V σ) (t k n : Int32) : CI l yX8_make wsX8_make 4 E V [.ref (E.1 + 580), .int t, .int k, .int n] (fun v V' => v = (opMake σ t k n).1 ∧ repM V' (opMake σ t k n).2 ∧ frC V V') := by
  refine Met.ofW (cc := cX8_make) (maxL := 5) (ret := (some .int)) (by decide) rfl ?_
  intro p e s m args below meth c s₁ B hml hv
  obtain ⟨rfl, hM, hK⟩ := hv
  have hx := B.exec
  have hb := B.bytes
  have hret := B.returns
  have hts := atoms_spec (ws := wsX8_make) B.pre
  have hown : s.vm.findClass RX8 = some m.cls := findClass_of_methodNamed B.named
  have hlocks := B.notSynchronized
  have hsz : s.heap.size = E.1 + 610 := hM.1
  have hS : va_S (AE E) s.heap s.heap [] := va_S.rf
  have inw8 : ∀ w ∈ u_ws RX8 TX8 42, w ∈ wsX8_make := by decide +kernel
  have k112 := hts (.fieldLink RX8 112 "LimitTokensModel" "thrown" "I") (by decide +kernel)
  have k46 := hts (.fieldLink RX8 46 "LimitTokensModel" "register" "[I") (by decide +kernel)
  have k49 := hts (.fieldLink RX8 49 "LimitTokensModel" "registerSize" "[I") (by decide +kernel)
  have k37 := hts (.fieldLink RX8 37 "LimitTokensModel" "out" "[I") (by decide +kernel)
  have k84 := hts (.fieldLink RX8 84 "LimitTokensModel" "sign" "[I") (by decide +kernel)
  have k59 := hts (.fieldLink RX8 59 "LimitTokensModel" "there" "[Z") (by decide +kernel)
  have k69 := hts (.fieldLink RX8 69 "LimitTokensModel" "limits" "[I") (by decide +kernel)
  have k63 := hts (.fieldLink RX8 63 "LimitTokensModel" "nameSize" "[I") (by decide +kernel)
  have k66 := hts (.fieldLink RX8 66 "LimitTokensModel" "name" "[I") (by decide +kernel)
  have hl := lv_entry ([.ref (E.1 + 580), .int t, .int k, .int n]) (n := 5) (Nat.le_of_ble_eq_true rfl)
  rw [lg_entry_eq]
  generalize (lg_sl ([.ref (E.1 + 580), .int t, .int k, .int n]) ++ List.replicate (5 - (lg_sl ([.ref (E.1 + 580), .int t, .int k, .int n])).length) Slot.unset).toArray = ls at hl ⊢
  have hl : lv_has ls 5 [(0, .ref (E.1 + 580)), (1, .int t), (2, .int k), (3, .int n)] := hl
  refine lv_aload_n hx hb dX8_make_0 rfl (lv_at hl 0 rfl) ?_
  refine lv_iconst (v := 0) hx hb dX8_make_1 (by decide) ?_
  refine w_pi 8 0 (T := TX8) (N := 42) hx hb hts inw8 tyX8 tyX8_ok nmX8 hown hK.1 hM hS (by decide) (by decide) (by decide) (by decide) (by decide) rfl (by decide) k112 rfl rfl rfl rfl dX8_make_2 (fun H locs hM hS => ?_)
  generalize hV2 : up2 V 580 0 0 = V2 at hM
  have hC2 := hC.fr (pFr.th hV2).1
  have fC2 := (pFr.th hV2).2
  obtain ⟨⟨oR, oT, oP⟩, cN, cR, cT, cP, cQ, cF, cL⟩ := id hC2
  refine lv_iload_n hx hb dX8_make_5 rfl (lv_at hl 1 rfl) ?_
  refine w_cSi (As := [.int t]) (rest := []) ⟨hx, hb, hml, hown, hts⟩ (c_X8_is l t) (va_cwS 1 hts gX8_make_X8_is rfl rfl rfl (by decide +kernel) ⟨Nat.le_of_ble_eq_true rfl, Nat.le_of_ble_eq_true rfl⟩) hM hK hS rfl hl.1 rfl (lv_room (Nat.le_of_ble_eq_true rfl)) dX8_make_6 ⟨Nat.le_of_ble_eq_true rfl, Nat.le_of_ble_eq_true rfl⟩ (fun r6 V6 H locs hp6 hM hS => ?_)
  obtain ⟨er6, eV⟩ := hp6
  rw [eV] at hM; clear eV
  refine lv_if_eq (tgt := 26) hx hb dX8_make_9 (by decide) (fun c_9 => ?_) (fun c_9 => ?_)
  · have i1 : in8 t = false := b2i_eq0 (by rw [← er6]; exact c_9)
    refine lv_bipush (v := (-2)) hx hb dX8_make_26 (by decide) ?_
    have hpost : (fun v V' => v = (opMake σ t k n).1 ∧ repM V' (opMake σ t k n).2 ∧ frC V V') (-2) V2 := by
      have hq : opMake σ t k n = (-2, σ) := by first | (simp [opMake, i1, i2, i3]; done) | (simp [opMake, i1, i2]; done) | (simp [opMake, i1]; done)
      rw [hq]; exact ⟨rfl, hC2, fC2⟩
    exact w_iret V2 hx hb hret hK hS hM (hpost) hlocks dX8_make_28
  · have i1 : in8 t = true := b2i_ne0 (by rw [← er6]; exact c_9)
    obtain ⟨h8t, ent⟩ := in8_r i1
    refine lv_iload_n hx hb dX8_make_12 rfl (lv_at hl 2 rfl) ?_
    refine w_cSi (As := [.int k]) (rest := []) ⟨hx, hb, hml, hown, hts⟩ (c_X8_is l k) (va_cwS 1 hts gX8_make_X8_is rfl rfl rfl (by decide +kernel) ⟨Nat.le_of_ble_eq_true rfl, Nat.le_of_ble_eq_true rfl⟩) hM hK hS rfl hl.1 rfl (lv_room (Nat.le_of_ble_eq_true rfl)) dX8_make_13 ⟨Nat.le_of_ble_eq_true rfl, Nat.le_of_ble_eq_true rfl⟩ (fun r13 V13 H locs hp13 hM hS => ?_)
    obtain ⟨er13, eV⟩ := hp13
    rw [eV] at hM; clear eV
    refine lv_if_eq (tgt := 26) hx hb dX8_make_16 (by decide) (fun c_16 => ?_) (fun c_16 => ?_)
    · have i2 : in8 k = false := b2i_eq0 (by rw [← er13]; exact c_16)
      refine lv_bipush (v := (-2)) hx hb dX8_make_26 (by decide) ?_
      have hpost : (fun v V' => v = (opMake σ t k n).1 ∧ repM V' (opMake σ t k n).2 ∧ frC V V') (-2) V2 := by
        have hq : opMake σ t k n = (-2, σ) := by first | (simp [opMake, i1, i2, i3]; done) | (simp [opMake, i1, i2]; done) | (simp [opMake, i1]; done)
        rw [hq]; exact ⟨rfl, hC2, fC2⟩
      exact w_iret V2 hx hb hret hK hS hM (hpost) hlocks dX8_make_28
    · have i2 : in8 k = true := b2i_ne0 (by rw [← er13]; exact c_16)
      obtain ⟨h8k, enk⟩ := in8_r i2
      refine lv_iload_n hx hb dX8_make_19 rfl (lv_at hl 3 rfl) ?_
      refine w_cSi (As := [.int n]) (rest := []) ⟨hx, hb, hml, hown, hts⟩ (c_X8_is l n) (va_cwS 1 hts gX8_make_X8_is rfl rfl rfl (by decide +kernel) ⟨Nat.le_of_ble_eq_true rfl, Nat.le_of_ble_eq_true rfl⟩) hM hK hS rfl hl.1 rfl (lv_room (Nat.le_of_ble_eq_true rfl)) dX8_make_20 ⟨Nat.le_of_ble_eq_true rfl, Nat.le_of_ble_eq_true rfl⟩ (fun r20 V20 H locs hp20 hM hS => ?_)
      obtain ⟨er20, eV⟩ := hp20
      rw [eV] at hM; clear eV
      refine lv_if_ne (tgt := 29) hx hb dX8_make_23 (by decide) (fun c_23 => ?_) (fun c_23 => ?_)
      · have i3 : in8 n = true := b2i_ne0 (by rw [← er20]; exact c_23)
        obtain ⟨h8n, enn⟩ := in8_r i3
        have olk := (oR _ h8k).1
        have oln := (oR _ h8n).1
        refine lv_aload_n hx hb dX8_make_29 rfl (lv_at hl 0 rfl) ?_
        refine lv_iload_n hx hb dX8_make_30 rfl (lv_at hl 3 rfl) ?_
        refine w_cVi (C := RX8) (As := [.int n]) (rest := []) ⟨hx, hb, hml, hown, hts⟩ (c_X8_isText l cR oR n i3) (cwV 1 hts gX8_make_X8_isText rfl rfl rfl (by decide +kernel) ⟨Nat.le_of_ble_eq_true rfl, Nat.le_of_ble_eq_true rfl⟩) (w_recv (ci := 8) hK hM (by decide) (by decide) (by decide) rfl) hM hK hS rfl hl.1 rfl (lv_room (Nat.le_of_ble_eq_true rfl)) dX8_make_31 ⟨Nat.le_of_ble_eq_true rfl, Nat.le_of_ble_eq_true rfl⟩ (fun r31 V31 H locs hp31 hM hS => ?_)
        obtain ⟨er31, eV⟩ := hp31
        rw [eV] at hM; clear eV
        refine lv_if_ne (tgt := 40) hx hb dX8_make_34 (by decide) (fun c_34 => ?_) (fun c_34 => ?_)
        · have i4 : okW1 (σ.1 (rj n)) = true := b2i_ne0 (by rw [← er31]; exact c_34)
          have ow := okW1_j i4
          refine lv_aload_n hx hb dX8_make_40 rfl (lv_at hl 0 rfl) ?_
          refine lv_aload_n hx hb dX8_make_41 rfl (lv_at hl 0 rfl) ?_
          refine w_gr 8 16 593 (T := TX8) (N := 42) hx hb hts inw8 hown hK.1 hM (by decide) (by decide) (by decide) (by decide) (by decide) rfl (by decide) k46 rfl dX8_make_42 ?_
          refine lv_bipush (v := 100) hx hb dX8_make_45 (by decide) ?_
          refine lv_iload_n hx hb dX8_make_47 rfl (lv_at hl 2 rfl) ?_
          refine lv_imul hx hb dX8_make_48 ?_
          have q : (100 * k : Int32) = nI (100 * (rj k)) := (nMul rfl enk)
          refine lv_eqi q ?_
          refine lv_aload_n hx hb dX8_make_49 rfl (lv_at hl 0 rfl) ?_
          refine w_gr 8 17 594 (T := TX8) (N := 42) hx hb hts inw8 hown hK.1 hM (by decide) (by decide) (by decide) (by decide) (by decide) rfl (by decide) k49 rfl dX8_make_50 ?_
          refine lv_iload_n hx hb dX8_make_53 rfl (lv_at hl 2 rfl) ?_
          have i_54 : (k : Int32) = nI (rj k) := enk
          refine w_ild (N := 8) hx hb hK.1 hM (by decide) (by decide) (by decide) (by rw [i_54]; exact vp_in_nI (by omega) (by omega)) dX8_make_54 ?_
          have j_54 : k.toNatClampNeg = rj k := (congrArg Int32.toNatClampNeg i_54).trans (nI_clamp (by omega))
          have q : (V2 594 k.toNatClampNeg : Int32) = V2 594 (rj k) := by rw [j_54]
          refine lv_eqi q ?_
          have q : (V2 594 (rj k) : Int32) = nI (σ.1 (rj k)).length := (cR _ h8k).1
          refine lv_eqi q ?_
          refine w_cVv (C := RX8) (As := [.ref (E.1 + 593), .int (nI (100 * (rj k))), .int (nI (σ.1 (rj k)).length)]) (rest := []) ⟨hx, hb, hml, hown, hts⟩ (m_keyIs l a593 (by decide) (b := 100 * rj k) (n := (σ.1 (rj k)).length) (l0 := σ.1 (rj k)) ((cR _ h8k).2) (by omega) (by omega) (rfl)) (cwV 3 hts gX8_make_X8_keyIs rfl rfl rfl (by decide +kernel) ⟨Nat.le_of_ble_eq_true rfl, Nat.le_of_ble_eq_true rfl⟩) (w_recv (ci := 8) hK hM (by decide) (by decide) (by decide) rfl) hM hK hS rfl hl.1 rfl (lv_room (Nat.le_of_ble_eq_true rfl)) dX8_make_55 ⟨Nat.le_of_ble_eq_true rfl, Nat.le_of_ble_eq_true rfl⟩ (fun V55 H locs hp55 hM hS => ?_)
          have F55 : frS V2 V55 583 591 := (frS.rf).trans (⟨fun k a b => hp55.2.2.1 k (by omega) b, fun i _ a b => hp55.2.2.2 i a b⟩)
          have hk55 := hp55.1
          have hm55 := hp55.2.1
          refine lv_aload_n hx hb dX8_make_58 rfl (lv_at hl 0 rfl) ?_
          refine lv_aload_n hx hb dX8_make_59 rfl (lv_at hl 0 rfl) ?_
          refine w_gr 8 16 593 (T := TX8) (N := 42) hx hb hts inw8 hown hK.1 hM (by decide) (by decide) (by decide) (by decide) (by decide) rfl (by decide) k46 rfl dX8_make_60 ?_
          refine lv_bipush (v := 100) hx hb dX8_make_63 (by decide) ?_
          refine lv_iload_n hx hb dX8_make_65 rfl (lv_at hl 3 rfl) ?_
          refine lv_imul hx hb dX8_make_66 ?_
          have q : (100 * n : Int32) = nI (100 * (rj n)) := (nMul rfl enn)
          refine lv_eqi q ?_
          refine lv_aload_n hx hb dX8_make_67 rfl (lv_at hl 0 rfl) ?_
          refine w_gr 8 17 594 (T := TX8) (N := 42) hx hb hts inw8 hown hK.1 hM (by decide) (by decide) (by decide) (by decide) (by decide) rfl (by decide) k49 rfl dX8_make_68 ?_
          refine lv_iload_n hx hb dX8_make_71 rfl (lv_at hl 3 rfl) ?_
          have i_72 : (n : Int32) = nI (rj n) := enn
          refine w_ild (N := 8) hx hb hK.1 hM (by decide) (by decide) (by decide) (by rw [i_72]; exact vp_in_nI (by omega) (by omega)) dX8_make_72 ?_
          have j_72 : n.toNatClampNeg = rj n := (congrArg Int32.toNatClampNeg i_72).trans (nI_clamp (by omega))
          have q : (V55 594 n.toNatClampNeg : Int32) = V55 594 (rj n) := by rw [j_72]
          refine lv_eqi q ?_
          have q : (V55 594 (rj n) : Int32) = nI (σ.1 (rj n)).length := by rw [F55.1 594 (by omega) (by decide)]; exact (cR _ h8n).1
          refine lv_eqi q ?_
          refine w_cVv (C := RX8) (As := [.ref (E.1 + 593), .int (nI (100 * (rj n))), .int (nI (σ.1 (rj n)).length)]) (rest := []) ⟨hx, hb, hml, hown, hts⟩ (m_add l a593 (by decide) hm55 (b := 100 * rj n) (n := (σ.1 (rj n)).length) (l0 := σ.1 (rj n)) (F55.seg (cR _ h8n).2 (by omega) (by omega)) (by omega) (by simp <;> omega) (rfl)) (cwV 3 hts gX8_make_X8_add rfl rfl rfl (by decide +kernel) ⟨Nat.le_of_ble_eq_true rfl, Nat.le_of_ble_eq_true rfl⟩) (w_recv (ci := 8) hK hM (by decide) (by decide) (by decide) rfl) hM hK hS rfl hl.1 rfl (lv_room (Nat.le_of_ble_eq_true rfl)) dX8_make_73 ⟨Nat.le_of_ble_eq_true rfl, Nat.le_of_ble_eq_true rfl⟩ (fun V73 H locs hp73 hM hS => ?_)
          have F73 : frS V2 V73 583 591 := (F55).trans (hp73.2.toS (by omega) (by decide))
          have hk73 := hk55.keep (hp73.2.2 10 (by decide)) (hp73.2.1 588 (by decide) (by decide))
          have hm73 := hp73.1
          refine lv_aload_n hx hb dX8_make_76 rfl (lv_at hl 0 rfl) ?_
          refine w_cVv (C := RX8) (As := []) (rest := []) ⟨hx, hb, hml, hown, hts⟩ (c_X8_sealNow l (fun i hi => by rw [(F73).1 582 (by omega) (by decide)]; exact cN.1 i hi) (fun i hi => by rw [(F73).1 581 (by omega) (by decide)]; exact cN.2.1 i hi) hk73 hm73 (by omega) (by simp <;> omega)) (cwV 0 hts gX8_make_X8_sealNow rfl rfl rfl (by decide +kernel) ⟨Nat.le_of_ble_eq_true rfl, Nat.le_of_ble_eq_true rfl⟩) (w_recv (ci := 8) hK hM (by decide) (by decide) (by decide) rfl) hM hK hS rfl hl.1 rfl (lv_room (Nat.le_of_ble_eq_true rfl)) dX8_make_77 ⟨Nat.le_of_ble_eq_true rfl, Nat.le_of_ble_eq_true rfl⟩ (fun V77 H locs hp77 hM hS => ?_)
          rw [List.nil_append] at hp77
          have F77 : frS V2 V77 583 591 := (F73).trans (hp77.2.wide (by decide))
          refine lv_aload_n hx hb dX8_make_80 rfl (lv_at hl 0 rfl) ?_
          refine w_gr 8 13 590 (T := TX8) (N := 42) hx hb hts inw8 hown hK.1 hM (by decide) (by decide) (by decide) (by decide) (by decide) rfl (by decide) k37 rfl dX8_make_81 ?_
          refine lv_aload_n hx hb dX8_make_84 rfl (lv_at hl 0 rfl) ?_
          refine w_gr 8 29 604 (T := TX8) (N := 42) hx hb hts inw8 hown hK.1 hM (by decide) (by decide) (by decide) (by decide) (by decide) rfl (by decide) k84 rfl dX8_make_85 ?_
          refine lv_bipush (v := 32) hx hb dX8_make_88 (by decide) ?_
          refine lv_iload_n hx hb dX8_make_90 rfl (lv_at hl 1 rfl) ?_
          refine lv_imul hx hb dX8_make_91 ?_
          have q : (32 * t : Int32) = nI (32 * (rj t)) := (nMul rfl ent)
          refine lv_eqi q ?_
          refine w_cSv (As := [.ref (E.1 + 590), .ref (E.1 + 604), .int (nI (32 * (rj t)))]) (rest := []) ⟨hx, hb, hml, hown, hts⟩ (c_X8_copyTo l a590 a604 (by decide) (by omega) (b := 32 * rj t) (by omega)) (va_cwS 3 hts gX8_make_X8_copyTo rfl rfl rfl (by decide +kernel) ⟨Nat.le_of_ble_eq_true rfl, Nat.le_of_ble_eq_true rfl⟩) hM hK hS rfl hl.1 rfl (lv_room (Nat.le_of_ble_eq_true rfl)) dX8_make_92 ⟨Nat.le_of_ble_eq_true rfl, Nat.le_of_ble_eq_true rfl⟩ (fun V92 H locs hp92 hM hS => ?_)
          refine lv_aload_n hx hb dX8_make_95 rfl (lv_at hl 0 rfl) ?_
          refine w_gr 8 21 596 (T := TX8) (N := 42) hx hb hts inw8 hown hK.1 hM (by decide) (by decide) (by decide) (by decide) (by decide) rfl (by decide) k59 rfl dX8_make_96 ?_
          refine lv_iload_n hx hb dX8_make_99 rfl (lv_at hl 1 rfl) ?_
          refine lv_iconst (v := 1) hx hb dX8_make_100 (by decide) ?_
          have i_101 : (t : Int32) = nI (rj t) := ent
          have j_101 : t.toNatClampNeg = rj t := (congrArg Int32.toNatClampNeg i_101).trans (nI_clamp (by omega))
          refine w_zst (N := 9) hx hb hK.1 hM hS (by decide) (by decide) (by decide) (by rw [i_101]; exact vp_in_nI (by omega) (by omega)) (by decide) dX8_make_101 (fun H locs hM hS => ?_)
          rw [j_101] at hM
          generalize hV101 : up2 V92 596 (rj t) 1 = V101 at hM
          refine lv_aload_n hx hb dX8_make_102 rfl (lv_at hl 0 rfl) ?_
          refine w_gr 8 24 599 (T := TX8) (N := 42) hx hb hts inw8 hown hK.1 hM (by decide) (by decide) (by decide) (by decide) (by decide) rfl (by decide) k69 rfl dX8_make_103 ?_
          refine lv_iload_n hx hb dX8_make_106 rfl (lv_at hl 1 rfl) ?_
          refine lv_iconst (v := 0) hx hb dX8_make_107 (by decide) ?_
          have i_108 : (t : Int32) = nI (rj t) := ent
          have j_108 : t.toNatClampNeg = rj t := (congrArg Int32.toNatClampNeg i_108).trans (nI_clamp (by omega))
          refine w_ist (N := 9) hx hb hK.1 hM hS (by decide) (by decide) (by decide) (by rw [i_108]; exact vp_in_nI (by omega) (by omega)) dX8_make_108 (fun H locs hM hS => ?_)
          rw [j_108] at hM
          generalize hV108 : up2 V101 599 (rj t) 0 = V108 at hM
          have e108 : ∀ k, k ≠ 596 → k ≠ 599 → k ≠ 604 → V108 k = V77 k := fun k a b c => by rw [← hV108, up2_k _ _ b, ← hV101, up2_k _ _ a]; exact hp92.2.2 k c
          refine lv_aload_n hx hb dX8_make_109 rfl (lv_at hl 0 rfl) ?_
          refine w_gr 8 22 597 (T := TX8) (N := 42) hx hb hts inw8 hown hK.1 hM (by decide) (by decide) (by decide) (by decide) (by decide) rfl (by decide) k63 rfl dX8_make_110 ?_
          refine lv_iload_n hx hb dX8_make_113 rfl (lv_at hl 1 rfl) ?_
          refine lv_aload_n hx hb dX8_make_114 rfl (lv_at hl 0 rfl) ?_
          refine w_gr 8 17 594 (T := TX8) (N := 42) hx hb hts inw8 hown hK.1 hM (by decide) (by decide) (by decide) (by decide) (by decide) rfl (by decide) k49 rfl dX8_make_115 ?_
          refine lv_iload_n hx hb dX8_make_118 rfl (lv_at hl 3 rfl) ?_
          have i_119 : (n : Int32) = nI (rj n) := enn
          refine w_ild (N := 8) hx hb hK.1 hM (by decide) (by decide) (by decide) (by rw [i_119]; exact vp_in_nI (by omega) (by omega)) dX8_make_119 ?_
          have j_119 : n.toNatClampNeg = rj n := (congrArg Int32.toNatClampNeg i_119).trans (nI_clamp (by omega))
          have q : (V108 594 n.toNatClampNeg : Int32) = V108 594 (rj n) := by rw [j_119]
          refine lv_eqi q ?_
          have q : (V108 594 (rj n) : Int32) = nI (σ.1 (rj n)).length := by rw [e108 594 (by decide) (by decide) (by decide), F77.1 594 (by omega) (by decide)]; exact (cR _ h8n).1
          refine lv_eqi q ?_
          have i_120 : (t : Int32) = nI (rj t) := ent
          have j_120 : t.toNatClampNeg = rj t := (congrArg Int32.toNatClampNeg i_120).trans (nI_clamp (by omega))
          refine w_ist (N := 9) hx hb hK.1 hM hS (by decide) (by decide) (by decide) (by rw [i_120]; exact vp_in_nI (by omega) (by omega)) dX8_make_120 (fun H locs hM hS => ?_)
          rw [j_120] at hM
          generalize hV120 : up2 V108 597 (rj t) (nI (σ.1 (rj n)).length) = V120 at hM
          have e120 : ∀ k, k ≠ 597 → V120 k = V108 k := fun k a => by rw [← hV120, up2_k _ _ a]
          refine lv_iconst (v := 0) hx hb dX8_make_121 (by decide) ?_
          refine lv_istore (lv' := [(4, .int 0), (0, .ref (E.1 + 580)), (1, .int t), (2, .int k), (3, .int n)]) hx hb dX8_make_122 hl (by decide) rfl (fun ls hl => ?_)
          have loop124 : ∀ (fu : Nat) (Vw : Vt) (H : Heap) (locs : List Loc) (ls : Array Slot) (j : Nat) (hj : j ≤ (σ.1 (rj n)).length) (hw : cpx Vw V120 598 (60 * rj t) j (fun i => (σ.1 (rj n)).getD i 0)), (σ.1 (rj n)).length - j < fu → Wd E Vw H → va_S (AE E) s.heap H locs → lv_has ls 5 [(0, .ref (E.1 + 580)), (1, .int t), (3, .int n), (4, .int (nI j))] → W p l e (headSpec wsX8_make (rmD 4)).room s m ([.ref (E.1 + 580), .int t, .int k, .int n] : List Value).toArray below meth c H locs 0 0 (MQ below (QI E (fun V' => Wd E V') (fun v V' => v = (opMake σ t k n).1 ∧ repM V' (opMake σ t k n).2 ∧ frC V V')) ([.ref (E.1 + 580), .int t, .int k, .int n] : List Value).toArray s 0 0 (AE E)) (F0 m 124 ls []) := by
            intro fu
            induction fu with
            | zero => intros; omega
            | succ fu ih124 =>
              intro Vw H locs ls j hj hw hfu hM hS hl
              refine lv_iload hx hb dX8_make_124 (lv_at hl 3 rfl) ?_
              refine lv_aload_n hx hb dX8_make_126 rfl (lv_at hl 0 rfl) ?_
              refine w_gr 8 22 597 (T := TX8) (N := 42) hx hb hts inw8 hown hK.1 hM (by decide) (by decide) (by decide) (by decide) (by decide) rfl (by decide) k63 rfl dX8_make_127 ?_
              refine lv_iload_n hx hb dX8_make_130 rfl (lv_at hl 1 rfl) ?_
              have i_131 : (t : Int32) = nI (rj t) := ent
              refine w_ild (N := 9) hx hb hK.1 hM (by decide) (by decide) (by decide) (by rw [i_131]; exact vp_in_nI (by omega) (by omega)) dX8_make_131 ?_
              have j_131 : t.toNatClampNeg = rj t := (congrArg Int32.toNatClampNeg i_131).trans (nI_clamp (by omega))
              have q : (Vw 597 t.toNatClampNeg : Int32) = Vw 597 (rj t) := by rw [j_131]
              refine lv_eqi q ?_
              have q : (Vw 597 (rj t) : Int32) = nI (σ.1 (rj n)).length := by rw [hw.2.2 597 (by decide), ← hV120, up2_s]
              refine lv_eqi q ?_
              refine lv_icmp_ge (tgt := 165) hx hb dX8_make_132 (by decide) (fun c_132 => ?_) (fun c_132 => ?_)
              · have n_132 : ((σ.1 (rj n)).length) ≤ j := (nLe (a := ((σ.1 (rj n)).length)) (b := j) rfl rfl (by omega) (by omega)).mp c_132
                refine lv_iconst (v := 0) hx hb dX8_make_165 (by decide) ?_
                have hpost : (fun v V' => v = (opMake σ t k n).1 ∧ repM V' (opMake σ t k n).2 ∧ frC V V') 0 Vw := by
                  have hq : opMake σ t k n = (0, sTok σ (rj t) (some (σ.1 (rj n), hmac (σ.1 (rj k)) (σ.1 (rj n)), []))) := by simp [opMake, i1, i2, i3, i4]
                  have hC77 := hC2.fr (F77.p (by decide))
                  have g6 : Vw 596 = V101 596 := by rw [hw.2.2 596 (by decide), e120 596 (by decide), ← hV108, up2_k _ _ (by decide)]
                  have g7 : Vw 597 = V120 597 := hw.2.2 597 (by decide)
                  have g9 : Vw 599 = V108 599 := by rw [hw.2.2 599 (by decide), e120 599 (by decide)]
                  have g4 : Vw 604 = V92 604 := by rw [hw.2.2 604 (by decide), e120 604 (by decide), ← hV108, up2_k _ _ (by decide), ← hV101, up2_k _ _ (by decide)]
                  have gk : ∀ k, k ≠ 596 → k ≠ 597 → k ≠ 598 → k ≠ 599 → k ≠ 604 → Vw k = V77 k := fun k a b c d f => by rw [hw.2.2 k c, e120 k b, e108 k a d f]
                  have h9 := hC77.newTok h8t ow.1 ow.2 (oR _ h8n).2 (hmac_len _ _) (hmac_ok _ _) (V' := Vw) (by rw [g6, ← hV101, up2_s]) (by rw [g7, ← hV120, up2_s]) (hw.seg (by omega) (fun _ _ => rfl)) (by rw [g9, ← hV108, up2_s]) ((cpx_seg2 hp92 (hmac_len _ _) hp77.1).keep g4) (fun i a => by rw [g6, ← hV101, up2_o _ _ a, hp92.2.2 596 (by decide)]) (fun i a => by rw [g7, ← hV120, up2_o _ _ a, e108 597 (by decide) (by decide) (by decide)]) (fun i a => by rw [g9, ← hV108, up2_o _ _ a, ← hV101, up2_k _ _ (by decide), hp92.2.2 599 (by decide)]) (fun i a => by rw [hw.2.1 i (by omega), e120 598 (by decide), e108 598 (by decide) (by decide) (by decide)]) (fun i a => by rw [g4]; exact hp92.2.1 i a) (fun k a => gk k (by omega) (by omega) (by omega) (by omega) (by omega)) (fun i a => by rw [gk 580 (by decide) (by decide) (by decide) (by decide) (by decide)])
                  rw [hq]; exact ⟨rfl, h9, (fC2.trans (F77.C (by decide))).trans (fun k a => gk k (by omega) (by omega) (by omega) (by omega) (by omega))⟩
                exact w_iret Vw hx hb hret hK hS hM (hpost) hlocks dX8_make_166
              · have n_132 : ¬ ((σ.1 (rj n)).length) ≤ j := fun q9 => c_132 ((nLe (a := ((σ.1 (rj n)).length)) (b := j) rfl rfl (by omega) (by omega)).mpr q9)
                refine lv_aload_n hx hb dX8_make_135 rfl (lv_at hl 0 rfl) ?_
                refine w_gr 8 23 598 (T := TX8) (N := 42) hx hb hts inw8 hown hK.1 hM (by decide) (by decide) (by decide) (by decide) (by decide) rfl (by decide) k66 rfl dX8_make_136 ?_
                refine lv_bipush (v := 60) hx hb dX8_make_139 (by decide) ?_
                refine lv_iload_n hx hb dX8_make_141 rfl (lv_at hl 1 rfl) ?_
                refine lv_imul hx hb dX8_make_142 ?_
                have q : (60 * t : Int32) = nI (60 * (rj t)) := (nMul rfl ent)
                refine lv_eqi q ?_
                refine lv_iload hx hb dX8_make_143 (lv_at hl 3 rfl) ?_
                refine lv_iadd hx hb dX8_make_145 ?_
                have q : ((nI (60 * (rj t))) + (nI j) : Int32) = nI ((60 * (rj t)) + j) := (nAdd rfl rfl)
                refine lv_eqi q ?_
                refine lv_aload_n hx hb dX8_make_146 rfl (lv_at hl 0 rfl) ?_
                refine w_gr 8 16 593 (T := TX8) (N := 42) hx hb hts inw8 hown hK.1 hM (by decide) (by decide) (by decide) (by decide) (by decide) rfl (by decide) k46 rfl dX8_make_147 ?_
                refine lv_bipush (v := 100) hx hb dX8_make_150 (by decide) ?_
                refine lv_iload_n hx hb dX8_make_152 rfl (lv_at hl 2 rfl) ?_
                refine lv_imul hx hb dX8_make_153 ?_
                have q : (100 * n : Int32) = nI (100 * (rj n)) := (nMul rfl enn)
                refine lv_eqi q ?_
                refine lv_iload hx hb dX8_make_154 (lv_at hl 3 rfl) ?_
                refine lv_iadd hx hb dX8_make_156 ?_
                have q : ((nI (100 * (rj n))) + (nI j) : Int32) = nI ((100 * (rj n)) + j) := (nAdd rfl rfl)
                refine lv_eqi q ?_
                have i_157 : (nI ((100 * (rj n)) + j) : Int32) = nI ((100 * (rj n)) + j) := rfl
                refine w_ild (N := 800) hx hb hK.1 hM (by decide) (by decide) (by decide) (by rw [i_157]; exact vp_in_nI (by omega) (by omega)) dX8_make_157 ?_
                have j_157 : (nI ((100 * (rj n)) + j)).toNatClampNeg = (100 * (rj n)) + j := (congrArg Int32.toNatClampNeg i_157).trans (nI_clamp (by omega))
                have q : (Vw 593 (nI ((100 * (rj n)) + j)).toNatClampNeg : Int32) = Vw 593 ((100 * (rj n)) + j) := by rw [j_157]
                refine lv_eqi q ?_
                have q : (Vw 593 ((100 * (rj n)) + j) : Int32) = (σ.1 (rj n)).getD j 0 := by rw [hw.2.2 593 (by decide), e120 593 (by decide), e108 593 (by decide) (by decide) (by decide), F77.1 593 (by omega) (by decide)]; exact (cR _ h8n).2 j (by omega)
                refine lv_eqi q ?_
                have i_158 : (nI ((60 * (rj t)) + j) : Int32) = nI ((60 * (rj t)) + j) := rfl
                have j_158 : (nI ((60 * (rj t)) + j)).toNatClampNeg = (60 * (rj t)) + j := (congrArg Int32.toNatClampNeg i_158).trans (nI_clamp (by omega))
                refine w_ist (N := 540) hx hb hK.1 hM hS (by decide) (by decide) (by decide) (by rw [i_158]; exact vp_in_nI (by omega) (by omega)) dX8_make_158 (fun H locs hM hS => ?_)
                rw [j_158] at hM
                generalize hV158 : up2 Vw 598 ((60 * (rj t)) + j) ((σ.1 (rj n)).getD j 0) = V158 at hM
                obtain ⟨x4_159, ex4_159⟩ : ∃ y : Int32, y = (nI j) + 1 := ⟨_, rfl⟩
                refine lv_iinc (v := x4_159) (lv' := [(4, .int x4_159), (0, .ref (E.1 + 580)), (1, .int t), (3, .int n)]) hx hb dX8_make_159 hl (k := 3) rfl (by rw [ex4_159]; rfl) (by decide) rfl (fun ls hl => ?_)
                refine lv_goto (tgt := 124) hx hb dX8_make_162 (by decide) ?_
                rw [show x4_159 = nI (j + 1) from (ex4_159.trans (nAdd rfl rfl))] at hl
                exact ih124 V158 _ _ _ (j + 1) (by omega) (hw.s hV158 rfl rfl) (by omega) hM hS (lv_sub hl [1, 2, 3, 0] rfl)
          exact loop124 _ V120 _ _ _ 0 (Nat.zero_le _) (cpx.z _ _ _ _) (Nat.lt_succ_self _) hM hS (lv_sub hl [1, 2, 4, 0] rfl)
        · have i4 : okW1 (σ.1 (rj n)) = false := b2i_eq0 (by rw [← er31]; exact c_34)
          refine lv_bipush (v := (-3)) hx hb dX8_make_37 (by decide) ?_
          have hpost : (fun v V' => v = (opMake σ t k n).1 ∧ repM V' (opMake σ t k n).2 ∧ frC V V') (-3) V2 := by
            have hq : opMake σ t k n = (-3, σ) := by first | (simp [opMake, i1, i2, i3, i4]; done)
            rw [hq]; exact ⟨rfl, hC2, fC2⟩
          exact w_iret V2 hx hb hret hK hS hM (hpost) hlocks dX8_make_39
      · have i3 : in8 n = false := b2i_eq0 (by rw [← er20]; exact c_23)
        refine lv_bipush (v := (-2)) hx hb dX8_make_26 (by decide) ?_
        have hpost : (fun v V' => v = (opMake σ t k n).1 ∧ repM V' (opMake σ t k n).2 ∧ frC V V') (-2) V2 := by
          have hq : opMake σ t k n = (-2, σ) := by first | (simp [opMake, i1, i2, i3]; done) | (simp [opMake, i1, i2]; done) | (simp [opMake, i1]; done)
          rw [hq]; exact ⟨rfl, hC2, fC2⟩
        exact w_iret V2 hx hb hret hK hS hM (hpost) hlocks dX8_make_28

set_option maxHeartbeats 4000000 in
set_option maxRecDepth 100000 in
theorem c_X8_copyToken (l : Launch) {E : En} {V : Vt} {ta tb : Nat} (hta : ta < 9) (htb : tb < 9) {t u : Int32} (et : t = nI ta) (eu : u = nI tb) : CV l yX8_copyToken wsX8_copyToken 0 E V [.ref (E.1 + 580), .int t, .int u] (fun V' => cpT V V' ta tb) := by
  refine Met.ofW (cc := cX8_copyToken) (maxL := 4) (ret := none) (by decide) rfl ?_
  intro p e s m args below meth c s₁ B hml hv
  obtain ⟨rfl, hM, hK⟩ := hv
  have hx := B.exec
  have hb := B.bytes
  have hret := B.returns
  have hts := atoms_spec (ws := wsX8_copyToken) B.pre
  have hown : s.vm.findClass RX8 = some m.cls := findClass_of_methodNamed B.named
  have hlocks := B.notSynchronized
  have hsz : s.heap.size = E.1 + 610 := hM.1
  have hS : va_S (AE E) s.heap s.heap [] := va_S.rf
  have inw8 : ∀ w ∈ u_ws RX8 TX8 42, w ∈ wsX8_copyToken := by decide +kernel
  have k59 := hts (.fieldLink RX8 59 "LimitTokensModel" "there" "[Z") (by decide +kernel)
  have k63 := hts (.fieldLink RX8 63 "LimitTokensModel" "nameSize" "[I") (by decide +kernel)
  have k69 := hts (.fieldLink RX8 69 "LimitTokensModel" "limits" "[I") (by decide +kernel)
  have k84 := hts (.fieldLink RX8 84 "LimitTokensModel" "sign" "[I") (by decide +kernel)
  have k81 := hts (.fieldLink RX8 81 "LimitTokensModel" "lock" "[I") (by decide +kernel)
  have k75 := hts (.fieldLink RX8 75 "LimitTokensModel" "text" "[I") (by decide +kernel)
  have k72 := hts (.fieldLink RX8 72 "LimitTokensModel" "textSize" "[I") (by decide +kernel)
  have k78 := hts (.fieldLink RX8 78 "LimitTokensModel" "isOthers" "[Z") (by decide +kernel)
  have k66 := hts (.fieldLink RX8 66 "LimitTokensModel" "name" "[I") (by decide +kernel)
  have hl := lv_entry ([.ref (E.1 + 580), .int t, .int u]) (n := 4) (Nat.le_of_ble_eq_true rfl)
  rw [lg_entry_eq]
  generalize (lg_sl ([.ref (E.1 + 580), .int t, .int u]) ++ List.replicate (4 - (lg_sl ([.ref (E.1 + 580), .int t, .int u])).length) Slot.unset).toArray = ls at hl ⊢
  have hl : lv_has ls 4 [(0, .ref (E.1 + 580)), (1, .int t), (2, .int u)] := hl
  refine lv_aload_n hx hb dX8_copyToken_0 rfl (lv_at hl 0 rfl) ?_
  refine w_gr 8 21 596 (T := TX8) (N := 42) hx hb hts inw8 hown hK.1 hM (by decide) (by decide) (by decide) (by decide) (by decide) rfl (by decide) k59 rfl dX8_copyToken_1 ?_
  refine lv_iload_n hx hb dX8_copyToken_4 rfl (lv_at hl 2 rfl) ?_
  refine lv_iconst (v := 1) hx hb dX8_copyToken_5 (by decide) ?_
  have i_6 : (u : Int32) = nI (tb) := eu
  have j_6 : u.toNatClampNeg = tb := (congrArg Int32.toNatClampNeg i_6).trans (nI_clamp (by omega))
  refine w_zst (N := 9) hx hb hK.1 hM hS (by decide) (by decide) (by decide) (by rw [i_6]; exact vp_in_nI (by omega) (by omega)) (by decide) dX8_copyToken_6 (fun H locs hM hS => ?_)
  rw [j_6] at hM
  generalize hV6 : up2 V 596 tb 1 = V6 at hM
  refine lv_aload_n hx hb dX8_copyToken_7 rfl (lv_at hl 0 rfl) ?_
  refine w_gr 8 22 597 (T := TX8) (N := 42) hx hb hts inw8 hown hK.1 hM (by decide) (by decide) (by decide) (by decide) (by decide) rfl (by decide) k63 rfl dX8_copyToken_8 ?_
  refine lv_iload_n hx hb dX8_copyToken_11 rfl (lv_at hl 2 rfl) ?_
  refine lv_aload_n hx hb dX8_copyToken_12 rfl (lv_at hl 0 rfl) ?_
  refine w_gr 8 22 597 (T := TX8) (N := 42) hx hb hts inw8 hown hK.1 hM (by decide) (by decide) (by decide) (by decide) (by decide) rfl (by decide) k63 rfl dX8_copyToken_13 ?_
  refine lv_iload_n hx hb dX8_copyToken_16 rfl (lv_at hl 1 rfl) ?_
  have i_17 : (t : Int32) = nI (ta) := et
  refine w_ild (N := 9) hx hb hK.1 hM (by decide) (by decide) (by decide) (by rw [i_17]; exact vp_in_nI (by omega) (by omega)) dX8_copyToken_17 ?_
  have j_17 : t.toNatClampNeg = ta := (congrArg Int32.toNatClampNeg i_17).trans (nI_clamp (by omega))
  have q : (V6 597 t.toNatClampNeg : Int32) = V6 597 ta := by rw [j_17]
  refine lv_eqi q ?_
  have i_18 : (u : Int32) = nI (tb) := eu
  have j_18 : u.toNatClampNeg = tb := (congrArg Int32.toNatClampNeg i_18).trans (nI_clamp (by omega))
  refine w_ist (N := 9) hx hb hK.1 hM hS (by decide) (by decide) (by decide) (by rw [i_18]; exact vp_in_nI (by omega) (by omega)) dX8_copyToken_18 (fun H locs hM hS => ?_)
  rw [j_18] at hM
  generalize hV18 : up2 V6 597 tb (V6 597 ta) = V18 at hM
  refine lv_aload_n hx hb dX8_copyToken_19 rfl (lv_at hl 0 rfl) ?_
  refine w_gr 8 24 599 (T := TX8) (N := 42) hx hb hts inw8 hown hK.1 hM (by decide) (by decide) (by decide) (by decide) (by decide) rfl (by decide) k69 rfl dX8_copyToken_20 ?_
  refine lv_iload_n hx hb dX8_copyToken_23 rfl (lv_at hl 2 rfl) ?_
  refine lv_aload_n hx hb dX8_copyToken_24 rfl (lv_at hl 0 rfl) ?_
  refine w_gr 8 24 599 (T := TX8) (N := 42) hx hb hts inw8 hown hK.1 hM (by decide) (by decide) (by decide) (by decide) (by decide) rfl (by decide) k69 rfl dX8_copyToken_25 ?_
  refine lv_iload_n hx hb dX8_copyToken_28 rfl (lv_at hl 1 rfl) ?_
  have i_29 : (t : Int32) = nI (ta) := et
  refine w_ild (N := 9) hx hb hK.1 hM (by decide) (by decide) (by decide) (by rw [i_29]; exact vp_in_nI (by omega) (by omega)) dX8_copyToken_29 ?_
  have j_29 : t.toNatClampNeg = ta := (congrArg Int32.toNatClampNeg i_29).trans (nI_clamp (by omega))
  have q : (V18 599 t.toNatClampNeg : Int32) = V18 599 ta := by rw [j_29]
  refine lv_eqi q ?_
  have i_30 : (u : Int32) = nI (tb) := eu
  have j_30 : u.toNatClampNeg = tb := (congrArg Int32.toNatClampNeg i_30).trans (nI_clamp (by omega))
  refine w_ist (N := 9) hx hb hK.1 hM hS (by decide) (by decide) (by decide) (by rw [i_30]; exact vp_in_nI (by omega) (by omega)) dX8_copyToken_30 (fun H locs hM hS => ?_)
  rw [j_30] at hM
  generalize hV30 : up2 V18 599 tb (V18 599 ta) = V30 at hM
  have e30 : ∀ k, k ≠ 596 → k ≠ 597 → k ≠ 599 → V30 k = V k := fun k a b c => by rw [← hV30, up2_k _ _ c, ← hV18, up2_k _ _ b, ← hV6, up2_k _ _ a]
  refine lv_iconst (v := 0) hx hb dX8_copyToken_31 (by decide) ?_
  refine lv_istore_n (lv' := [(3, .int 0), (0, .ref (E.1 + 580)), (1, .int t), (2, .int u)]) hx hb dX8_copyToken_32 rfl hl (by decide) rfl (fun ls hl => ?_)
  have loop33 : ∀ (fu : Nat) (Va : Vt) (H : Heap) (locs : List Loc) (ls : Array Slot) (j33 : Nat) (hj33 : j33 ≤ 60) (w33 : cpx Va V30 598 (60 * tb) j33 (fun i => V 598 (60 * ta + i))), 60 - j33 < fu → Wd E Va H → va_S (AE E) s.heap H locs → lv_has ls 4 [(0, .ref (E.1 + 580)), (1, .int t), (2, .int u), (3, .int (nI j33))] → W p l e (headSpec wsX8_copyToken (rmD 0)).room s m ([.ref (E.1 + 580), .int t, .int u] : List Value).toArray below meth c H locs 0 0 (MQ below (QV E (fun V' => Wd E V') (fun V' => cpT V V' ta tb)) ([.ref (E.1 + 580), .int t, .int u] : List Value).toArray s 0 0 (AE E)) (F0 m 33 ls []) := by
    intro fu
    induction fu with
    | zero => intros; omega
    | succ fu ih33 =>
      intro Va H locs ls j33 hj33 w33 hfu hM hS hl
      refine lv_iload_n hx hb dX8_copyToken_33 rfl (lv_at hl 3 rfl) ?_
      refine lv_bipush (v := 60) hx hb dX8_copyToken_34 (by decide) ?_
      refine lv_icmp_ge (tgt := 67) hx hb dX8_copyToken_36 (by decide) (fun c_36 => ?_) (fun c_36 => ?_)
      · have n_36 : 60 ≤ j33 := (nLe (a := 60) (b := j33) rfl rfl (by omega) (by omega)).mp c_36
        refine lv_iconst (v := 0) hx hb dX8_copyToken_67 (by decide) ?_
        refine lv_istore_n (lv' := [(3, .int 0), (0, .ref (E.1 + 580)), (1, .int t), (2, .int u)]) hx hb dX8_copyToken_68 rfl hl (by decide) rfl (fun ls hl => ?_)
        have loop69 : ∀ (fu : Nat) (Vb : Vt) (H : Heap) (locs : List Loc) (ls : Array Slot) (j : Nat) (hj : j ≤ 10) (b1 : ∀ i, i < j → Vb 600 (10 * tb + i) = V 600 (10 * ta + i)) (b2 : ∀ i, (i < 10 * tb ∨ 10 * tb + j ≤ i) → Vb 600 i = V 600 i) (b3 : ∀ i, i < j → Vb 602 (10 * tb + i) = vp_nar .boolean (V 602 (10 * ta + i))) (b4 : ∀ i, (i < 10 * tb ∨ 10 * tb + j ≤ i) → Vb 602 i = V 602 i) (b5 : ∀ k, k ≠ 600 → k ≠ 602 → Vb k = Va k), 10 - j < fu → Wd E Vb H → va_S (AE E) s.heap H locs → lv_has ls 4 [(0, .ref (E.1 + 580)), (1, .int t), (2, .int u), (3, .int (nI j))] → W p l e (headSpec wsX8_copyToken (rmD 0)).room s m ([.ref (E.1 + 580), .int t, .int u] : List Value).toArray below meth c H locs 0 0 (MQ below (QV E (fun V' => Wd E V') (fun V' => cpT V V' ta tb)) ([.ref (E.1 + 580), .int t, .int u] : List Value).toArray s 0 0 (AE E)) (F0 m 69 ls []) := by
          intro fu
          induction fu with
          | zero => intros; omega
          | succ fu ih69 =>
            intro Vb H locs ls j hj b1 b2 b3 b4 b5 hfu hM hS hl
            refine lv_iload_n hx hb dX8_copyToken_69 rfl (lv_at hl 3 rfl) ?_
            refine lv_bipush (v := 10) hx hb dX8_copyToken_70 (by decide) ?_
            refine lv_icmp_ge (tgt := 125) hx hb dX8_copyToken_72 (by decide) (fun c_72 => ?_) (fun c_72 => ?_)
            · have n_72 : 10 ≤ j := (nLe (a := 10) (b := j) rfl rfl (by omega) (by omega)).mp c_72
              refine lv_iconst (v := 0) hx hb dX8_copyToken_125 (by decide) ?_
              refine lv_istore_n (lv' := [(3, .int 0), (0, .ref (E.1 + 580)), (1, .int t), (2, .int u)]) hx hb dX8_copyToken_126 rfl hl (by decide) rfl (fun ls hl => ?_)
              have loop127 : ∀ (fu : Nat) (Vc : Vt) (H : Heap) (locs : List Loc) (ls : Array Slot) (j127 : Nat) (hj127 : j127 ≤ 600) (w127 : cpx Vc Vb 601 (600 * tb) j127 (fun i => V 601 (600 * ta + i))), 600 - j127 < fu → Wd E Vc H → va_S (AE E) s.heap H locs → lv_has ls 4 [(0, .ref (E.1 + 580)), (1, .int t), (2, .int u), (3, .int (nI j127))] → W p l e (headSpec wsX8_copyToken (rmD 0)).room s m ([.ref (E.1 + 580), .int t, .int u] : List Value).toArray below meth c H locs 0 0 (MQ below (QV E (fun V' => Wd E V') (fun V' => cpT V V' ta tb)) ([.ref (E.1 + 580), .int t, .int u] : List Value).toArray s 0 0 (AE E)) (F0 m 127 ls []) := by
                intro fu
                induction fu with
                | zero => intros; omega
                | succ fu ih127 =>
                  intro Vc H locs ls j127 hj127 w127 hfu hM hS hl
                  refine lv_iload_n hx hb dX8_copyToken_127 rfl (lv_at hl 3 rfl) ?_
                  refine lv_sipush (v := 600) hx hb dX8_copyToken_128 (by decide) ?_
                  refine lv_icmp_ge (tgt := 164) hx hb dX8_copyToken_131 (by decide) (fun c_131 => ?_) (fun c_131 => ?_)
                  · have n_131 : 600 ≤ j127 := (nLe (a := 600) (b := j127) rfl rfl (by omega) (by omega)).mp c_131
                    refine lv_iconst (v := 0) hx hb dX8_copyToken_164 (by decide) ?_
                    refine lv_istore_n (lv' := [(3, .int 0), (0, .ref (E.1 + 580)), (1, .int t), (2, .int u)]) hx hb dX8_copyToken_165 rfl hl (by decide) rfl (fun ls hl => ?_)
                    have loop166 : ∀ (fu : Nat) (Vd : Vt) (H : Heap) (locs : List Loc) (ls : Array Slot) (j166 : Nat) (hj166 : j166 ≤ 320) (w166 : cpx Vd Vc 603 (320 * tb) j166 (fun i => V 603 (320 * ta + i))), 320 - j166 < fu → Wd E Vd H → va_S (AE E) s.heap H locs → lv_has ls 4 [(0, .ref (E.1 + 580)), (1, .int t), (2, .int u), (3, .int (nI j166))] → W p l e (headSpec wsX8_copyToken (rmD 0)).room s m ([.ref (E.1 + 580), .int t, .int u] : List Value).toArray below meth c H locs 0 0 (MQ below (QV E (fun V' => Wd E V') (fun V' => cpT V V' ta tb)) ([.ref (E.1 + 580), .int t, .int u] : List Value).toArray s 0 0 (AE E)) (F0 m 166 ls []) := by
                      intro fu
                      induction fu with
                      | zero => intros; omega
                      | succ fu ih166 =>
                        intro Vd H locs ls j166 hj166 w166 hfu hM hS hl
                        refine lv_iload_n hx hb dX8_copyToken_166 rfl (lv_at hl 3 rfl) ?_
                        refine lv_sipush (v := 320) hx hb dX8_copyToken_167 (by decide) ?_
                        refine lv_icmp_ge (tgt := 203) hx hb dX8_copyToken_170 (by decide) (fun c_170 => ?_) (fun c_170 => ?_)
                        · have n_170 : 320 ≤ j166 := (nLe (a := 320) (b := j166) rfl rfl (by omega) (by omega)).mp c_170
                          refine lv_iconst (v := 0) hx hb dX8_copyToken_203 (by decide) ?_
                          refine lv_istore_n (lv' := [(3, .int 0), (0, .ref (E.1 + 580)), (1, .int t), (2, .int u)]) hx hb dX8_copyToken_204 rfl hl (by decide) rfl (fun ls hl => ?_)
                          have loop205 : ∀ (fu : Nat) (Ve : Vt) (H : Heap) (locs : List Loc) (ls : Array Slot) (j205 : Nat) (hj205 : j205 ≤ 32) (w205 : cpx Ve Vd 604 (32 * tb) j205 (fun i => V 604 (32 * ta + i))), 32 - j205 < fu → Wd E Ve H → va_S (AE E) s.heap H locs → lv_has ls 4 [(0, .ref (E.1 + 580)), (1, .int t), (2, .int u), (3, .int (nI j205))] → W p l e (headSpec wsX8_copyToken (rmD 0)).room s m ([.ref (E.1 + 580), .int t, .int u] : List Value).toArray below meth c H locs 0 0 (MQ below (QV E (fun V' => Wd E V') (fun V' => cpT V V' ta tb)) ([.ref (E.1 + 580), .int t, .int u] : List Value).toArray s 0 0 (AE E)) (F0 m 205 ls []) := by
                            intro fu
                            induction fu with
                            | zero => intros; omega
                            | succ fu ih205 =>
                              intro Ve H locs ls j205 hj205 w205 hfu hM hS hl
                              refine lv_iload_n hx hb dX8_copyToken_205 rfl (lv_at hl 3 rfl) ?_
                              refine lv_bipush (v := 32) hx hb dX8_copyToken_206 (by decide) ?_
                              refine lv_icmp_ge (tgt := 239) hx hb dX8_copyToken_208 (by decide) (fun c_208 => ?_) (fun c_208 => ?_)
                              · have n_208 : 32 ≤ j205 := (nLe (a := 32) (b := j205) rfl rfl (by omega) (by omega)).mp c_208
                                have hpost : (fun V' => cpT V V' ta tb) Ve := by
                                  have k0 : j33 = 60 := by omega
                                  have k1 : j = 10 := by omega
                                  have k2 : j127 = 600 := by omega
                                  have k3 : j166 = 320 := by omega
                                  have k4 : j205 = 32 := by omega
                                  subst k0 k1 k2 k3 k4
                                  have c1 : ∀ k, k ≠ 598 → k ≠ 600 → k ≠ 601 → k ≠ 602 → k ≠ 603 → k ≠ 604 → Ve k = V30 k := fun k a b c d f g => by rw [w205.2.2 k g, w166.2.2 k f, w127.2.2 k c, b5 k b d, w33.2.2 k a]
                                  have c598 : Ve 598 = Va 598 := by rw [w205.2.2 598 (by decide), w166.2.2 598 (by decide), w127.2.2 598 (by decide), b5 598 (by decide) (by decide)]
                                  have c600 : Ve 600 = Vb 600 := by rw [w205.2.2 600 (by decide), w166.2.2 600 (by decide), w127.2.2 600 (by decide)]
                                  have c602 : Ve 602 = Vb 602 := by rw [w205.2.2 602 (by decide), w166.2.2 602 (by decide), w127.2.2 602 (by decide)]
                                  have c601 : Ve 601 = Vc 601 := by rw [w205.2.2 601 (by decide), w166.2.2 601 (by decide)]
                                  have c603 : Ve 603 = Vd 603 := by rw [w205.2.2 603 (by decide)]
                                  have d596 : Ve 596 = V6 596 := by rw [c1 596 (by decide) (by decide) (by decide) (by decide) (by decide) (by decide), ← hV30, up2_k _ _ (by decide), ← hV18, up2_k _ _ (by decide)]
                                  have d597 : Ve 597 = V18 597 := by rw [c1 597 (by decide) (by decide) (by decide) (by decide) (by decide) (by decide), ← hV30, up2_k _ _ (by decide)]
                                  have d599 : Ve 599 = V30 599 := c1 599 (by decide) (by decide) (by decide) (by decide) (by decide) (by decide)
                                  refine ⟨⟨by rw [d596, ← hV6, up2_s], by rw [d597, ← hV18, up2_s, ← hV6, up2_k _ _ (by decide)], by rw [d599, ← hV30, up2_s, ← hV18, up2_k _ _ (by decide), ← hV6, up2_k _ _ (by decide)]⟩, fun i hi => by rw [c598]; exact w33.1 i hi, fun i hi => by rw [c600]; exact b1 i hi, fun i hi => by rw [c602]; exact b3 i hi, fun i hi => by rw [c601]; exact w127.1 i hi, fun i hi => by rw [c603]; exact w166.1 i hi, w205.1, fun z hz => ?_, fun k a => by rw [c1 k (by omega) (by omega) (by omega) (by omega) (by omega) (by omega), e30 k (by omega) (by omega) (by omega)]⟩
                                  exact ⟨by rw [d596, ← hV6, up2_o _ _ hz], by rw [d597, ← hV18, up2_o _ _ hz, ← hV6, up2_k _ _ (by decide)], by rw [d599, ← hV30, up2_o _ _ hz, ← hV18, up2_k _ _ (by decide), ← hV6, up2_k _ _ (by decide)], fun i a b => by rw [c598, w33.2.1 i (by omega), e30 598 (by decide) (by decide) (by decide)], fun i a b => by rw [w205.2.1 i (by omega), w166.2.2 604 (by decide), w127.2.2 604 (by decide), b5 604 (by decide) (by decide), w33.2.2 604 (by decide), e30 604 (by decide) (by decide) (by decide)], fun i a b => by rw [c600]; exact b2 i (by omega), fun i a b => by rw [c602]; exact b4 i (by omega), fun i a b => by rw [c601, w127.2.1 i (by omega), b5 601 (by decide) (by decide), w33.2.2 601 (by decide), e30 601 (by decide) (by decide) (by decide)], fun i a b => by rw [c603, w166.2.1 i (by omega), w127.2.2 603 (by decide), b5 603 (by decide) (by decide), w33.2.2 603 (by decide), e30 603 (by decide) (by decide) (by decide)]⟩
                                exact w_vret (free := AE E) Ve hx hb hret hK hS hM (hpost) hlocks dX8_copyToken_239
                              · have n_208 : ¬ 32 ≤ j205 := fun q9 => c_208 ((nLe (a := 32) (b := j205) rfl rfl (by omega) (by omega)).mpr q9)
                                refine lv_aload_n hx hb dX8_copyToken_211 rfl (lv_at hl 0 rfl) ?_
                                refine w_gr 8 29 604 (T := TX8) (N := 42) hx hb hts inw8 hown hK.1 hM (by decide) (by decide) (by decide) (by decide) (by decide) rfl (by decide) k84 rfl dX8_copyToken_212 ?_
                                refine lv_bipush (v := 32) hx hb dX8_copyToken_215 (by decide) ?_
                                refine lv_iload_n hx hb dX8_copyToken_217 rfl (lv_at hl 2 rfl) ?_
                                refine lv_imul hx hb dX8_copyToken_218 ?_
                                have q : (32 * u : Int32) = nI (32 * tb) := (nMul rfl eu)
                                refine lv_eqi q ?_
                                refine lv_iload_n hx hb dX8_copyToken_219 rfl (lv_at hl 3 rfl) ?_
                                refine lv_iadd hx hb dX8_copyToken_220 ?_
                                have q : ((nI (32 * tb)) + (nI j205) : Int32) = nI ((32 * tb) + j205) := (nAdd rfl rfl)
                                refine lv_eqi q ?_
                                refine lv_aload_n hx hb dX8_copyToken_221 rfl (lv_at hl 0 rfl) ?_
                                refine w_gr 8 29 604 (T := TX8) (N := 42) hx hb hts inw8 hown hK.1 hM (by decide) (by decide) (by decide) (by decide) (by decide) rfl (by decide) k84 rfl dX8_copyToken_222 ?_
                                refine lv_bipush (v := 32) hx hb dX8_copyToken_225 (by decide) ?_
                                refine lv_iload_n hx hb dX8_copyToken_227 rfl (lv_at hl 1 rfl) ?_
                                refine lv_imul hx hb dX8_copyToken_228 ?_
                                have q : (32 * t : Int32) = nI (32 * ta) := (nMul rfl et)
                                refine lv_eqi q ?_
                                refine lv_iload_n hx hb dX8_copyToken_229 rfl (lv_at hl 3 rfl) ?_
                                refine lv_iadd hx hb dX8_copyToken_230 ?_
                                have q : ((nI (32 * ta)) + (nI j205) : Int32) = nI ((32 * ta) + j205) := (nAdd rfl rfl)
                                refine lv_eqi q ?_
                                have i_231 : (nI ((32 * ta) + j205) : Int32) = nI ((32 * ta) + j205) := rfl
                                refine w_ild (N := 288) hx hb hK.1 hM (by decide) (by decide) (by decide) (by rw [i_231]; exact vp_in_nI (by omega) (by omega)) dX8_copyToken_231 ?_
                                have j_231 : (nI ((32 * ta) + j205)).toNatClampNeg = (32 * ta) + j205 := (congrArg Int32.toNatClampNeg i_231).trans (nI_clamp (by omega))
                                have q : (Ve 604 (nI ((32 * ta) + j205)).toNatClampNeg : Int32) = Ve 604 ((32 * ta) + j205) := by rw [j_231]
                                refine lv_eqi q ?_
                                have i_232 : (nI ((32 * tb) + j205) : Int32) = nI ((32 * tb) + j205) := rfl
                                have j_232 : (nI ((32 * tb) + j205)).toNatClampNeg = (32 * tb) + j205 := (congrArg Int32.toNatClampNeg i_232).trans (nI_clamp (by omega))
                                refine w_ist (N := 288) hx hb hK.1 hM hS (by decide) (by decide) (by decide) (by rw [i_232]; exact vp_in_nI (by omega) (by omega)) dX8_copyToken_232 (fun H locs hM hS => ?_)
                                rw [j_232] at hM
                                generalize hV232 : up2 Ve 604 ((32 * tb) + j205) (Ve 604 ((32 * ta) + j205)) = V232 at hM
                                obtain ⟨x3_233, ex3_233⟩ : ∃ y : Int32, y = (nI j205) + 1 := ⟨_, rfl⟩
                                refine lv_iinc (v := x3_233) (lv' := [(3, .int x3_233), (0, .ref (E.1 + 580)), (1, .int t), (2, .int u)]) hx hb dX8_copyToken_233 hl (k := 3) rfl (by rw [ex3_233]; rfl) (by decide) rfl (fun ls hl => ?_)
                                refine lv_goto (tgt := 205) hx hb dX8_copyToken_236 (by decide) ?_
                                rw [show x3_233 = nI (j205 + 1) from (ex3_233.trans (nAdd rfl rfl))] at hl
                                exact ih205 V232 _ _ _ (j205 + 1) (by omega) (w205.s hV232 rfl (by rw [w205.2.1 _ (by omega), w166.2.2 604 (by decide), w127.2.2 604 (by decide), b5 604 (by decide) (by decide), w33.2.2 604 (by decide), e30 604 (by decide) (by decide) (by decide)])) (by omega) hM hS (lv_sub hl [1, 2, 3, 0] rfl)
                          exact loop205 _ Vd _ _ _ 0 (Nat.zero_le _) (cpx.z _ _ _ _) (Nat.lt_succ_self _) hM hS (lv_sub hl [1, 2, 3, 0] rfl)
                        · have n_170 : ¬ 320 ≤ j166 := fun q9 => c_170 ((nLe (a := 320) (b := j166) rfl rfl (by omega) (by omega)).mpr q9)
                          refine lv_aload_n hx hb dX8_copyToken_173 rfl (lv_at hl 0 rfl) ?_
                          refine w_gr 8 28 603 (T := TX8) (N := 42) hx hb hts inw8 hown hK.1 hM (by decide) (by decide) (by decide) (by decide) (by decide) rfl (by decide) k81 rfl dX8_copyToken_174 ?_
                          refine lv_sipush (v := 320) hx hb dX8_copyToken_177 (by decide) ?_
                          refine lv_iload_n hx hb dX8_copyToken_180 rfl (lv_at hl 2 rfl) ?_
                          refine lv_imul hx hb dX8_copyToken_181 ?_
                          have q : (320 * u : Int32) = nI (320 * tb) := (nMul rfl eu)
                          refine lv_eqi q ?_
                          refine lv_iload_n hx hb dX8_copyToken_182 rfl (lv_at hl 3 rfl) ?_
                          refine lv_iadd hx hb dX8_copyToken_183 ?_
                          have q : ((nI (320 * tb)) + (nI j166) : Int32) = nI ((320 * tb) + j166) := (nAdd rfl rfl)
                          refine lv_eqi q ?_
                          refine lv_aload_n hx hb dX8_copyToken_184 rfl (lv_at hl 0 rfl) ?_
                          refine w_gr 8 28 603 (T := TX8) (N := 42) hx hb hts inw8 hown hK.1 hM (by decide) (by decide) (by decide) (by decide) (by decide) rfl (by decide) k81 rfl dX8_copyToken_185 ?_
                          refine lv_sipush (v := 320) hx hb dX8_copyToken_188 (by decide) ?_
                          refine lv_iload_n hx hb dX8_copyToken_191 rfl (lv_at hl 1 rfl) ?_
                          refine lv_imul hx hb dX8_copyToken_192 ?_
                          have q : (320 * t : Int32) = nI (320 * ta) := (nMul rfl et)
                          refine lv_eqi q ?_
                          refine lv_iload_n hx hb dX8_copyToken_193 rfl (lv_at hl 3 rfl) ?_
                          refine lv_iadd hx hb dX8_copyToken_194 ?_
                          have q : ((nI (320 * ta)) + (nI j166) : Int32) = nI ((320 * ta) + j166) := (nAdd rfl rfl)
                          refine lv_eqi q ?_
                          have i_195 : (nI ((320 * ta) + j166) : Int32) = nI ((320 * ta) + j166) := rfl
                          refine w_ild (N := 2880) hx hb hK.1 hM (by decide) (by decide) (by decide) (by rw [i_195]; exact vp_in_nI (by omega) (by omega)) dX8_copyToken_195 ?_
                          have j_195 : (nI ((320 * ta) + j166)).toNatClampNeg = (320 * ta) + j166 := (congrArg Int32.toNatClampNeg i_195).trans (nI_clamp (by omega))
                          have q : (Vd 603 (nI ((320 * ta) + j166)).toNatClampNeg : Int32) = Vd 603 ((320 * ta) + j166) := by rw [j_195]
                          refine lv_eqi q ?_
                          have i_196 : (nI ((320 * tb) + j166) : Int32) = nI ((320 * tb) + j166) := rfl
                          have j_196 : (nI ((320 * tb) + j166)).toNatClampNeg = (320 * tb) + j166 := (congrArg Int32.toNatClampNeg i_196).trans (nI_clamp (by omega))
                          refine w_ist (N := 2880) hx hb hK.1 hM hS (by decide) (by decide) (by decide) (by rw [i_196]; exact vp_in_nI (by omega) (by omega)) dX8_copyToken_196 (fun H locs hM hS => ?_)
                          rw [j_196] at hM
                          generalize hV196 : up2 Vd 603 ((320 * tb) + j166) (Vd 603 ((320 * ta) + j166)) = V196 at hM
                          obtain ⟨x3_197, ex3_197⟩ : ∃ y : Int32, y = (nI j166) + 1 := ⟨_, rfl⟩
                          refine lv_iinc (v := x3_197) (lv' := [(3, .int x3_197), (0, .ref (E.1 + 580)), (1, .int t), (2, .int u)]) hx hb dX8_copyToken_197 hl (k := 3) rfl (by rw [ex3_197]; rfl) (by decide) rfl (fun ls hl => ?_)
                          refine lv_goto (tgt := 166) hx hb dX8_copyToken_200 (by decide) ?_
                          rw [show x3_197 = nI (j166 + 1) from (ex3_197.trans (nAdd rfl rfl))] at hl
                          exact ih166 V196 _ _ _ (j166 + 1) (by omega) (w166.s hV196 rfl (by rw [w166.2.1 _ (by omega), w127.2.2 603 (by decide), b5 603 (by decide) (by decide), w33.2.2 603 (by decide), e30 603 (by decide) (by decide) (by decide)])) (by omega) hM hS (lv_sub hl [1, 2, 3, 0] rfl)
                    exact loop166 _ Vc _ _ _ 0 (Nat.zero_le _) (cpx.z _ _ _ _) (Nat.lt_succ_self _) hM hS (lv_sub hl [1, 2, 3, 0] rfl)
                  · have n_131 : ¬ 600 ≤ j127 := fun q9 => c_131 ((nLe (a := 600) (b := j127) rfl rfl (by omega) (by omega)).mpr q9)
                    refine lv_aload_n hx hb dX8_copyToken_134 rfl (lv_at hl 0 rfl) ?_
                    refine w_gr 8 26 601 (T := TX8) (N := 42) hx hb hts inw8 hown hK.1 hM (by decide) (by decide) (by decide) (by decide) (by decide) rfl (by decide) k75 rfl dX8_copyToken_135 ?_
                    refine lv_sipush (v := 600) hx hb dX8_copyToken_138 (by decide) ?_
                    refine lv_iload_n hx hb dX8_copyToken_141 rfl (lv_at hl 2 rfl) ?_
                    refine lv_imul hx hb dX8_copyToken_142 ?_
                    have q : (600 * u : Int32) = nI (600 * tb) := (nMul rfl eu)
                    refine lv_eqi q ?_
                    refine lv_iload_n hx hb dX8_copyToken_143 rfl (lv_at hl 3 rfl) ?_
                    refine lv_iadd hx hb dX8_copyToken_144 ?_
                    have q : ((nI (600 * tb)) + (nI j127) : Int32) = nI ((600 * tb) + j127) := (nAdd rfl rfl)
                    refine lv_eqi q ?_
                    refine lv_aload_n hx hb dX8_copyToken_145 rfl (lv_at hl 0 rfl) ?_
                    refine w_gr 8 26 601 (T := TX8) (N := 42) hx hb hts inw8 hown hK.1 hM (by decide) (by decide) (by decide) (by decide) (by decide) rfl (by decide) k75 rfl dX8_copyToken_146 ?_
                    refine lv_sipush (v := 600) hx hb dX8_copyToken_149 (by decide) ?_
                    refine lv_iload_n hx hb dX8_copyToken_152 rfl (lv_at hl 1 rfl) ?_
                    refine lv_imul hx hb dX8_copyToken_153 ?_
                    have q : (600 * t : Int32) = nI (600 * ta) := (nMul rfl et)
                    refine lv_eqi q ?_
                    refine lv_iload_n hx hb dX8_copyToken_154 rfl (lv_at hl 3 rfl) ?_
                    refine lv_iadd hx hb dX8_copyToken_155 ?_
                    have q : ((nI (600 * ta)) + (nI j127) : Int32) = nI ((600 * ta) + j127) := (nAdd rfl rfl)
                    refine lv_eqi q ?_
                    have i_156 : (nI ((600 * ta) + j127) : Int32) = nI ((600 * ta) + j127) := rfl
                    refine w_ild (N := 5400) hx hb hK.1 hM (by decide) (by decide) (by decide) (by rw [i_156]; exact vp_in_nI (by omega) (by omega)) dX8_copyToken_156 ?_
                    have j_156 : (nI ((600 * ta) + j127)).toNatClampNeg = (600 * ta) + j127 := (congrArg Int32.toNatClampNeg i_156).trans (nI_clamp (by omega))
                    have q : (Vc 601 (nI ((600 * ta) + j127)).toNatClampNeg : Int32) = Vc 601 ((600 * ta) + j127) := by rw [j_156]
                    refine lv_eqi q ?_
                    have i_157 : (nI ((600 * tb) + j127) : Int32) = nI ((600 * tb) + j127) := rfl
                    have j_157 : (nI ((600 * tb) + j127)).toNatClampNeg = (600 * tb) + j127 := (congrArg Int32.toNatClampNeg i_157).trans (nI_clamp (by omega))
                    refine w_ist (N := 5400) hx hb hK.1 hM hS (by decide) (by decide) (by decide) (by rw [i_157]; exact vp_in_nI (by omega) (by omega)) dX8_copyToken_157 (fun H locs hM hS => ?_)
                    rw [j_157] at hM
                    generalize hV157 : up2 Vc 601 ((600 * tb) + j127) (Vc 601 ((600 * ta) + j127)) = V157 at hM
                    obtain ⟨x3_158, ex3_158⟩ : ∃ y : Int32, y = (nI j127) + 1 := ⟨_, rfl⟩
                    refine lv_iinc (v := x3_158) (lv' := [(3, .int x3_158), (0, .ref (E.1 + 580)), (1, .int t), (2, .int u)]) hx hb dX8_copyToken_158 hl (k := 3) rfl (by rw [ex3_158]; rfl) (by decide) rfl (fun ls hl => ?_)
                    refine lv_goto (tgt := 127) hx hb dX8_copyToken_161 (by decide) ?_
                    rw [show x3_158 = nI (j127 + 1) from (ex3_158.trans (nAdd rfl rfl))] at hl
                    exact ih127 V157 _ _ _ (j127 + 1) (by omega) (w127.s hV157 rfl (by rw [w127.2.1 _ (by omega), b5 601 (by decide) (by decide), w33.2.2 601 (by decide), e30 601 (by decide) (by decide) (by decide)])) (by omega) hM hS (lv_sub hl [1, 2, 3, 0] rfl)
              exact loop127 _ Vb _ _ _ 0 (Nat.zero_le _) (cpx.z _ _ _ _) (Nat.lt_succ_self _) hM hS (lv_sub hl [1, 2, 3, 0] rfl)
            · have n_72 : ¬ 10 ≤ j := fun q9 => c_72 ((nLe (a := 10) (b := j) rfl rfl (by omega) (by omega)).mpr q9)
              refine lv_aload_n hx hb dX8_copyToken_75 rfl (lv_at hl 0 rfl) ?_
              refine w_gr 8 25 600 (T := TX8) (N := 42) hx hb hts inw8 hown hK.1 hM (by decide) (by decide) (by decide) (by decide) (by decide) rfl (by decide) k72 rfl dX8_copyToken_76 ?_
              refine lv_bipush (v := 10) hx hb dX8_copyToken_79 (by decide) ?_
              refine lv_iload_n hx hb dX8_copyToken_81 rfl (lv_at hl 2 rfl) ?_
              refine lv_imul hx hb dX8_copyToken_82 ?_
              have q : (10 * u : Int32) = nI (10 * tb) := (nMul rfl eu)
              refine lv_eqi q ?_
              refine lv_iload_n hx hb dX8_copyToken_83 rfl (lv_at hl 3 rfl) ?_
              refine lv_iadd hx hb dX8_copyToken_84 ?_
              have q : ((nI (10 * tb)) + (nI j) : Int32) = nI ((10 * tb) + j) := (nAdd rfl rfl)
              refine lv_eqi q ?_
              refine lv_aload_n hx hb dX8_copyToken_85 rfl (lv_at hl 0 rfl) ?_
              refine w_gr 8 25 600 (T := TX8) (N := 42) hx hb hts inw8 hown hK.1 hM (by decide) (by decide) (by decide) (by decide) (by decide) rfl (by decide) k72 rfl dX8_copyToken_86 ?_
              refine lv_bipush (v := 10) hx hb dX8_copyToken_89 (by decide) ?_
              refine lv_iload_n hx hb dX8_copyToken_91 rfl (lv_at hl 1 rfl) ?_
              refine lv_imul hx hb dX8_copyToken_92 ?_
              have q : (10 * t : Int32) = nI (10 * ta) := (nMul rfl et)
              refine lv_eqi q ?_
              refine lv_iload_n hx hb dX8_copyToken_93 rfl (lv_at hl 3 rfl) ?_
              refine lv_iadd hx hb dX8_copyToken_94 ?_
              have q : ((nI (10 * ta)) + (nI j) : Int32) = nI ((10 * ta) + j) := (nAdd rfl rfl)
              refine lv_eqi q ?_
              have i_95 : (nI ((10 * ta) + j) : Int32) = nI ((10 * ta) + j) := rfl
              refine w_ild (N := 90) hx hb hK.1 hM (by decide) (by decide) (by decide) (by rw [i_95]; exact vp_in_nI (by omega) (by omega)) dX8_copyToken_95 ?_
              have j_95 : (nI ((10 * ta) + j)).toNatClampNeg = (10 * ta) + j := (congrArg Int32.toNatClampNeg i_95).trans (nI_clamp (by omega))
              have q : (Vb 600 (nI ((10 * ta) + j)).toNatClampNeg : Int32) = Vb 600 ((10 * ta) + j) := by rw [j_95]
              refine lv_eqi q ?_
              have i_96 : (nI ((10 * tb) + j) : Int32) = nI ((10 * tb) + j) := rfl
              have j_96 : (nI ((10 * tb) + j)).toNatClampNeg = (10 * tb) + j := (congrArg Int32.toNatClampNeg i_96).trans (nI_clamp (by omega))
              refine w_ist (N := 90) hx hb hK.1 hM hS (by decide) (by decide) (by decide) (by rw [i_96]; exact vp_in_nI (by omega) (by omega)) dX8_copyToken_96 (fun H locs hM hS => ?_)
              rw [j_96] at hM
              generalize hV96 : up2 Vb 600 ((10 * tb) + j) (Vb 600 ((10 * ta) + j)) = V96 at hM
              refine lv_aload_n hx hb dX8_copyToken_97 rfl (lv_at hl 0 rfl) ?_
              refine w_gr 8 27 602 (T := TX8) (N := 42) hx hb hts inw8 hown hK.1 hM (by decide) (by decide) (by decide) (by decide) (by decide) rfl (by decide) k78 rfl dX8_copyToken_98 ?_
              refine lv_bipush (v := 10) hx hb dX8_copyToken_101 (by decide) ?_
              refine lv_iload_n hx hb dX8_copyToken_103 rfl (lv_at hl 2 rfl) ?_
              refine lv_imul hx hb dX8_copyToken_104 ?_
              have q : (10 * u : Int32) = nI (10 * tb) := (nMul rfl eu)
              refine lv_eqi q ?_
              refine lv_iload_n hx hb dX8_copyToken_105 rfl (lv_at hl 3 rfl) ?_
              refine lv_iadd hx hb dX8_copyToken_106 ?_
              have q : ((nI (10 * tb)) + (nI j) : Int32) = nI ((10 * tb) + j) := (nAdd rfl rfl)
              refine lv_eqi q ?_
              refine lv_aload_n hx hb dX8_copyToken_107 rfl (lv_at hl 0 rfl) ?_
              refine w_gr 8 27 602 (T := TX8) (N := 42) hx hb hts inw8 hown hK.1 hM (by decide) (by decide) (by decide) (by decide) (by decide) rfl (by decide) k78 rfl dX8_copyToken_108 ?_
              refine lv_bipush (v := 10) hx hb dX8_copyToken_111 (by decide) ?_
              refine lv_iload_n hx hb dX8_copyToken_113 rfl (lv_at hl 1 rfl) ?_
              refine lv_imul hx hb dX8_copyToken_114 ?_
              have q : (10 * t : Int32) = nI (10 * ta) := (nMul rfl et)
              refine lv_eqi q ?_
              refine lv_iload_n hx hb dX8_copyToken_115 rfl (lv_at hl 3 rfl) ?_
              refine lv_iadd hx hb dX8_copyToken_116 ?_
              have q : ((nI (10 * ta)) + (nI j) : Int32) = nI ((10 * ta) + j) := (nAdd rfl rfl)
              refine lv_eqi q ?_
              have i_117 : (nI ((10 * ta) + j) : Int32) = nI ((10 * ta) + j) := rfl
              refine w_zld (N := 90) hx hb hK.1 hM (by decide) (by decide) (by decide) (by rw [i_117]; exact vp_in_nI (by omega) (by omega)) dX8_copyToken_117 ?_
              have j_117 : (nI ((10 * ta) + j)).toNatClampNeg = (10 * ta) + j := (congrArg Int32.toNatClampNeg i_117).trans (nI_clamp (by omega))
              have q : (V96 602 (nI ((10 * ta) + j)).toNatClampNeg : Int32) = V96 602 ((10 * ta) + j) := by rw [j_117]
              refine lv_eqi q ?_
              have i_118 : (nI ((10 * tb) + j) : Int32) = nI ((10 * tb) + j) := rfl
              have j_118 : (nI ((10 * tb) + j)).toNatClampNeg = (10 * tb) + j := (congrArg Int32.toNatClampNeg i_118).trans (nI_clamp (by omega))
              refine w_zstN (N := 90) hx hb hK.1 hM hS (by decide) (by decide) (by decide) (by rw [i_118]; exact vp_in_nI (by omega) (by omega)) dX8_copyToken_118 (fun H locs hM hS => ?_)
              rw [j_118] at hM
              generalize hV118 : up2 V96 602 ((10 * tb) + j) (vp_nar .boolean (V96 602 ((10 * ta) + j))) = V118 at hM
              have e96 : ∀ k, k ≠ 600 → V96 k = Vb k := fun k a => by rw [← hV96, up2_k _ _ a]
              have e118 : ∀ k, k ≠ 602 → V118 k = V96 k := fun k a => by rw [← hV118, up2_k _ _ a]
              obtain ⟨x3_119, ex3_119⟩ : ∃ y : Int32, y = (nI j) + 1 := ⟨_, rfl⟩
              refine lv_iinc (v := x3_119) (lv' := [(3, .int x3_119), (0, .ref (E.1 + 580)), (1, .int t), (2, .int u)]) hx hb dX8_copyToken_119 hl (k := 3) rfl (by rw [ex3_119]; rfl) (by decide) rfl (fun ls hl => ?_)
              refine lv_goto (tgt := 69) hx hb dX8_copyToken_122 (by decide) ?_
              rw [show x3_119 = nI (j + 1) from (ex3_119.trans (nAdd rfl rfl))] at hl
              exact ih69 V118 _ _ _ (j + 1) (by omega) (fun i hi => by rw [e118 600 (by decide), ← hV96]; by_cases q : i = j; (subst q; rw [up2_s]; exact b2 _ (by omega)); (rw [up2_o _ _ (by omega)]; exact b1 i (by omega))) (fun i hi => by rw [e118 600 (by decide), ← hV96, up2_o _ _ (by omega)]; exact b2 i (by omega)) (fun i hi => by rw [← hV118]; by_cases q : i = j; (subst q; rw [up2_s, e96 602 (by decide), b4 _ (by omega)]); (rw [up2_o _ _ (by omega), e96 602 (by decide)]; exact b3 i (by omega))) (fun i hi => by rw [← hV118, up2_o _ _ (by omega), e96 602 (by decide)]; exact b4 i (by omega)) (fun k a b => by rw [e118 k b, e96 k a]; exact b5 k a b) (by omega) hM hS (lv_sub hl [1, 2, 3, 0] rfl)
        exact loop69 _ Va _ _ _ 0 (Nat.zero_le _) (fun i hi => absurd hi (by omega)) (fun i _ => by rw [w33.2.2 600 (by decide), e30 600 (by decide) (by decide) (by decide)]) (fun i hi => absurd hi (by omega)) (fun i _ => by rw [w33.2.2 602 (by decide), e30 602 (by decide) (by decide) (by decide)]) (fun _ _ _ => rfl) (Nat.lt_succ_self _) hM hS (lv_sub hl [1, 2, 3, 0] rfl)
      · have n_36 : ¬ 60 ≤ j33 := fun q9 => c_36 ((nLe (a := 60) (b := j33) rfl rfl (by omega) (by omega)).mpr q9)
        refine lv_aload_n hx hb dX8_copyToken_39 rfl (lv_at hl 0 rfl) ?_
        refine w_gr 8 23 598 (T := TX8) (N := 42) hx hb hts inw8 hown hK.1 hM (by decide) (by decide) (by decide) (by decide) (by decide) rfl (by decide) k66 rfl dX8_copyToken_40 ?_
        refine lv_bipush (v := 60) hx hb dX8_copyToken_43 (by decide) ?_
        refine lv_iload_n hx hb dX8_copyToken_45 rfl (lv_at hl 2 rfl) ?_
        refine lv_imul hx hb dX8_copyToken_46 ?_
        have q : (60 * u : Int32) = nI (60 * tb) := (nMul rfl eu)
        refine lv_eqi q ?_
        refine lv_iload_n hx hb dX8_copyToken_47 rfl (lv_at hl 3 rfl) ?_
        refine lv_iadd hx hb dX8_copyToken_48 ?_
        have q : ((nI (60 * tb)) + (nI j33) : Int32) = nI ((60 * tb) + j33) := (nAdd rfl rfl)
        refine lv_eqi q ?_
        refine lv_aload_n hx hb dX8_copyToken_49 rfl (lv_at hl 0 rfl) ?_
        refine w_gr 8 23 598 (T := TX8) (N := 42) hx hb hts inw8 hown hK.1 hM (by decide) (by decide) (by decide) (by decide) (by decide) rfl (by decide) k66 rfl dX8_copyToken_50 ?_
        refine lv_bipush (v := 60) hx hb dX8_copyToken_53 (by decide) ?_
        refine lv_iload_n hx hb dX8_copyToken_55 rfl (lv_at hl 1 rfl) ?_
        refine lv_imul hx hb dX8_copyToken_56 ?_
        have q : (60 * t : Int32) = nI (60 * ta) := (nMul rfl et)
        refine lv_eqi q ?_
        refine lv_iload_n hx hb dX8_copyToken_57 rfl (lv_at hl 3 rfl) ?_
        refine lv_iadd hx hb dX8_copyToken_58 ?_
        have q : ((nI (60 * ta)) + (nI j33) : Int32) = nI ((60 * ta) + j33) := (nAdd rfl rfl)
        refine lv_eqi q ?_
        have i_59 : (nI ((60 * ta) + j33) : Int32) = nI ((60 * ta) + j33) := rfl
        refine w_ild (N := 540) hx hb hK.1 hM (by decide) (by decide) (by decide) (by rw [i_59]; exact vp_in_nI (by omega) (by omega)) dX8_copyToken_59 ?_
        have j_59 : (nI ((60 * ta) + j33)).toNatClampNeg = (60 * ta) + j33 := (congrArg Int32.toNatClampNeg i_59).trans (nI_clamp (by omega))
        have q : (Va 598 (nI ((60 * ta) + j33)).toNatClampNeg : Int32) = Va 598 ((60 * ta) + j33) := by rw [j_59]
        refine lv_eqi q ?_
        have i_60 : (nI ((60 * tb) + j33) : Int32) = nI ((60 * tb) + j33) := rfl
        have j_60 : (nI ((60 * tb) + j33)).toNatClampNeg = (60 * tb) + j33 := (congrArg Int32.toNatClampNeg i_60).trans (nI_clamp (by omega))
        refine w_ist (N := 540) hx hb hK.1 hM hS (by decide) (by decide) (by decide) (by rw [i_60]; exact vp_in_nI (by omega) (by omega)) dX8_copyToken_60 (fun H locs hM hS => ?_)
        rw [j_60] at hM
        generalize hV60 : up2 Va 598 ((60 * tb) + j33) (Va 598 ((60 * ta) + j33)) = V60 at hM
        obtain ⟨x3_61, ex3_61⟩ : ∃ y : Int32, y = (nI j33) + 1 := ⟨_, rfl⟩
        refine lv_iinc (v := x3_61) (lv' := [(3, .int x3_61), (0, .ref (E.1 + 580)), (1, .int t), (2, .int u)]) hx hb dX8_copyToken_61 hl (k := 3) rfl (by rw [ex3_61]; rfl) (by decide) rfl (fun ls hl => ?_)
        refine lv_goto (tgt := 33) hx hb dX8_copyToken_64 (by decide) ?_
        rw [show x3_61 = nI (j33 + 1) from (ex3_61.trans (nAdd rfl rfl))] at hl
        exact ih33 V60 _ _ _ (j33 + 1) (by omega) (w33.s hV60 rfl (by rw [w33.2.1 _ (by omega), e30 598 (by decide) (by decide) (by decide)])) (by omega) hM hS (lv_sub hl [1, 2, 3, 0] rfl)
  exact loop33 _ V30 _ _ _ 0 (Nat.zero_le _) (cpx.z _ _ _ _) (Nat.lt_succ_self _) hM hS (lv_sub hl [1, 2, 3, 0] rfl)

set_option maxHeartbeats 4000000 in
set_option maxRecDepth 100000 in
theorem c_X8_copy (l : Launch) {E : En} {V : Vt} {σ : St} (hC : repM V σ) (t u : Int32) : CI l yX8_copy wsX8_copy 3 E V [.ref (E.1 + 580), .int t, .int u] (fun v V' => v = (opCopy σ t u).1 ∧ repM V' (opCopy σ t u).2 ∧ frC V V') := by
  refine Met.ofW (cc := cX8_copy) (maxL := 3) (ret := (some .int)) (by decide) rfl ?_
  intro p e s m args below meth c s₁ B hml hv
  obtain ⟨rfl, hM, hK⟩ := hv
  have hx := B.exec
  have hb := B.bytes
  have hret := B.returns
  have hts := atoms_spec (ws := wsX8_copy) B.pre
  have hown : s.vm.findClass RX8 = some m.cls := findClass_of_methodNamed B.named
  have hlocks := B.notSynchronized
  have hsz : s.heap.size = E.1 + 610 := hM.1
  have hS : va_S (AE E) s.heap s.heap [] := va_S.rf
  have inw8 : ∀ w ∈ u_ws RX8 TX8 42, w ∈ wsX8_copy := by decide +kernel
  have k112 := hts (.fieldLink RX8 112 "LimitTokensModel" "thrown" "I") (by decide +kernel)
  have k69 := hts (.fieldLink RX8 69 "LimitTokensModel" "limits" "[I") (by decide +kernel)
  have hl := lv_entry ([.ref (E.1 + 580), .int t, .int u]) (n := 3) (Nat.le_of_ble_eq_true rfl)
  rw [lg_entry_eq]
  generalize (lg_sl ([.ref (E.1 + 580), .int t, .int u]) ++ List.replicate (3 - (lg_sl ([.ref (E.1 + 580), .int t, .int u])).length) Slot.unset).toArray = ls at hl ⊢
  have hl : lv_has ls 3 [(0, .ref (E.1 + 580)), (1, .int t), (2, .int u)] := hl
  refine lv_aload_n hx hb dX8_copy_0 rfl (lv_at hl 0 rfl) ?_
  refine lv_iconst (v := 0) hx hb dX8_copy_1 (by decide) ?_
  refine w_pi 8 0 (T := TX8) (N := 42) hx hb hts inw8 tyX8 tyX8_ok nmX8 hown hK.1 hM hS (by decide) (by decide) (by decide) (by decide) (by decide) rfl (by decide) k112 rfl rfl rfl rfl dX8_copy_2 (fun H locs hM hS => ?_)
  generalize hV2 : up2 V 580 0 0 = V2 at hM
  have hC2 := hC.fr (pFr.th hV2).1
  have fC2 := (pFr.th hV2).2
  obtain ⟨⟨oR, oT, oP⟩, cN, cR, cT, cP, cQ, cF, cL⟩ := id hC2
  refine lv_aload_n hx hb dX8_copy_5 rfl (lv_at hl 0 rfl) ?_
  refine lv_iload_n hx hb dX8_copy_6 rfl (lv_at hl 1 rfl) ?_
  refine w_cVi (C := RX8) (As := [.int t]) (rest := []) ⟨hx, hb, hml, hown, hts⟩ (c_X8_isToken l cT t) (cwV 1 hts gX8_copy_X8_isToken rfl rfl rfl (by decide +kernel) ⟨Nat.le_of_ble_eq_true rfl, Nat.le_of_ble_eq_true rfl⟩) (w_recv (ci := 8) hK hM (by decide) (by decide) (by decide) rfl) hM hK hS rfl hl.1 rfl (lv_room (Nat.le_of_ble_eq_true rfl)) dX8_copy_7 ⟨Nat.le_of_ble_eq_true rfl, Nat.le_of_ble_eq_true rfl⟩ (fun r7 V7 H locs hp7 hM hS => ?_)
  obtain ⟨er7, eV⟩ := hp7
  rw [eV] at hM; clear eV
  refine lv_if_eq (tgt := 20) hx hb dX8_copy_10 (by decide) (fun c_10 => ?_) (fun c_10 => ?_)
  · have hN : thr σ t = none := by have q9 := b2i_eq0 (er7.symm.trans c_10); cases q8 : thr σ t with | none => rfl | some x => rw [q8] at q9; cases q9
    refine lv_bipush (v := (-2)) hx hb dX8_copy_20 (by decide) ?_
    have hpost : (fun v V' => v = (opCopy σ t u).1 ∧ repM V' (opCopy σ t u).2 ∧ frC V V') (-2) V2 := by
      have hq : opCopy σ t u = (-2, σ) := by first | (simp [opCopy, hT, i2]; done) | (simp [opCopy, hN]; done)
      rw [hq]; exact ⟨rfl, hC2, fC2⟩
    exact w_iret V2 hx hb hret hK hS hM (hpost) hlocks dX8_copy_22
  · obtain ⟨T, hT⟩ : ∃ T, thr σ t = some T := Option.isSome_iff_exists.mp (b2i_ne0 (by rw [← er7]; exact c_10))
    obtain ⟨i1, ht, et, hTt⟩ := thr_some hT
    obtain ⟨hth, htk⟩ := (cT (rj t) ht).s hTt
    have hok := oT (rj t) ht T hTt
    refine lv_iload_n hx hb dX8_copy_13 rfl (lv_at hl 2 rfl) ?_
    refine w_cSi (As := [.int u]) (rest := []) ⟨hx, hb, hml, hown, hts⟩ (c_X8_is l u) (va_cwS 1 hts gX8_copy_X8_is rfl rfl rfl (by decide +kernel) ⟨Nat.le_of_ble_eq_true rfl, Nat.le_of_ble_eq_true rfl⟩) hM hK hS rfl hl.1 rfl (lv_room (Nat.le_of_ble_eq_true rfl)) dX8_copy_14 ⟨Nat.le_of_ble_eq_true rfl, Nat.le_of_ble_eq_true rfl⟩ (fun r14 V14 H locs hp14 hM hS => ?_)
    obtain ⟨er14, eV⟩ := hp14
    rw [eV] at hM; clear eV
    refine lv_if_ne (tgt := 23) hx hb dX8_copy_17 (by decide) (fun c_17 => ?_) (fun c_17 => ?_)
    · have i2 : in8 u = true := b2i_ne0 (by rw [← er14]; exact c_17)
      obtain ⟨h8u, enu⟩ := in8_r i2
      refine lv_aload_n hx hb dX8_copy_23 rfl (lv_at hl 0 rfl) ?_
      refine lv_iload_n hx hb dX8_copy_24 rfl (lv_at hl 1 rfl) ?_
      refine lv_iload_n hx hb dX8_copy_25 rfl (lv_at hl 2 rfl) ?_
      refine w_cVv (C := RX8) (As := [.int t, .int u]) (rest := []) ⟨hx, hb, hml, hown, hts⟩ (c_X8_copyToken l (show rj t < 9 by omega) (show rj u < 9 by omega) et enu) (cwV 2 hts gX8_copy_X8_copyToken rfl rfl rfl (by decide +kernel) ⟨Nat.le_of_ble_eq_true rfl, Nat.le_of_ble_eq_true rfl⟩) (w_recv (ci := 8) hK hM (by decide) (by decide) (by decide) rfl) hM hK hS rfl hl.1 rfl (lv_room (Nat.le_of_ble_eq_true rfl)) dX8_copy_26 ⟨Nat.le_of_ble_eq_true rfl, Nat.le_of_ble_eq_true rfl⟩ (fun V26 H locs hp26 hM hS => ?_)
      have h26 := hp26.tok htk hok
      refine lv_aload_n hx hb dX8_copy_29 rfl (lv_at hl 0 rfl) ?_
      refine w_gr 8 24 599 (T := TX8) (N := 42) hx hb hts inw8 hown hK.1 hM (by decide) (by decide) (by decide) (by decide) (by decide) rfl (by decide) k69 rfl dX8_copy_30 ?_
      refine lv_iload_n hx hb dX8_copy_33 rfl (lv_at hl 2 rfl) ?_
      have i_34 : (u : Int32) = nI (rj u) := enu
      refine w_ild (N := 9) hx hb hK.1 hM (by decide) (by decide) (by decide) (by rw [i_34]; exact vp_in_nI (by omega) (by omega)) dX8_copy_34 ?_
      have j_34 : u.toNatClampNeg = rj u := (congrArg Int32.toNatClampNeg i_34).trans (nI_clamp (by omega))
      have q : (V26 599 u.toNatClampNeg : Int32) = V26 599 (rj u) := by rw [j_34]
      refine lv_eqi q ?_
      have q : (V26 599 (rj u) : Int32) = nI T.2.2.length := h26.2.2.2.1
      refine lv_eqi q ?_
      have hpost : (fun v V' => v = (opCopy σ t u).1 ∧ repM V' (opCopy σ t u).2 ∧ frC V V') (nI T.2.2.length) V26 := by
        have hq : opCopy σ t u = (nI T.2.2.length, sTok σ (rj u) (some T)) := by simp [opCopy, hT, i2]
        have h9 := hC2.tok h8u (o := some T) h26 (fun T2 h2 => by cases h2; exact hok) (fun z _ hz => hp26.2.2.2.2.2.2.2.1 z hz) (fun k a => hp26.2.2.2.2.2.2.2.2 k (by omega)) (fun i a => by rw [hp26.2.2.2.2.2.2.2.2 580 (by omega)])
        rw [hq]; exact ⟨rfl, h9, fC2.trans (fun k a => hp26.2.2.2.2.2.2.2.2 k (by omega))⟩
      exact w_iret V26 hx hb hret hK hS hM (hpost) hlocks dX8_copy_35
    · have i2 : in8 u = false := b2i_eq0 (by rw [← er14]; exact c_17)
      refine lv_bipush (v := (-2)) hx hb dX8_copy_20 (by decide) ?_
      have hpost : (fun v V' => v = (opCopy σ t u).1 ∧ repM V' (opCopy σ t u).2 ∧ frC V V') (-2) V2 := by
        have hq : opCopy σ t u = (-2, σ) := by first | (simp [opCopy, hT, i2]; done) | (simp [opCopy, hN]; done)
        rw [hq]; exact ⟨rfl, hC2, fC2⟩
      exact w_iret V2 hx hb hret hK hS hM (hpost) hlocks dX8_copy_22
