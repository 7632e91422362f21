-- needs: 44 450 451 452 453 454 455 456 457 460 461 462 463 464
set_option maxHeartbeats 4000000 in
set_option maxRecDepth 100000 in
theorem c_X8_add_ (l : Launch) {E : En} {V : Vt} {σ : St} (hC : repM V σ) (r n : Int32) (w : Int64) : CI l yX8_add_ wsX8_add_ 2 E V [.ref (E.1 + 580), .int r, .int n, .long w] (fun v V' => v = (opAdd σ r n w).1 ∧ repM V' (opAdd σ r n w).2 ∧ frC V V') := by
  refine Met.ofW (cc := cX8_add_) (maxL := 6) (ret := (some .int)) (by decide) rfl ?_
  intro p e s m args below meth c s₁ B hml hv
  obtain ⟨rfl, hM, hK⟩ := hv
  have hx := B.exec
  have hb := B.bytes
  have hret := B.returns
  have hts := atoms_spec (ws := wsX8_add_) B.pre
  have hown : s.vm.findClass RX8 = some m.cls := findClass_of_methodNamed B.named
  have hlocks := B.notSynchronized
  have hsz : s.heap.size = E.1 + 610 := hM.1
  have hS : va_S (AE E) s.heap s.heap [] := va_S.rf
  have inw8 : ∀ w ∈ u_ws RX8 TX8 42, w ∈ wsX8_add_ := by decide +kernel
  have k112 := hts (.fieldLink RX8 112 "LimitTokensModel" "thrown" "I") (by decide +kernel)
  have k49 := hts (.fieldLink RX8 49 "LimitTokensModel" "registerSize" "[I") (by decide +kernel)
  have k46 := hts (.fieldLink RX8 46 "LimitTokensModel" "register" "[I") (by decide +kernel)
  have hl := lv_entry ([.ref (E.1 + 580), .int r, .int n, .long w]) (n := 6) (Nat.le_of_ble_eq_true rfl)
  rw [lg_entry_eq]
  generalize (lg_sl ([.ref (E.1 + 580), .int r, .int n, .long w]) ++ List.replicate (6 - (lg_sl ([.ref (E.1 + 580), .int r, .int n, .long w])).length) Slot.unset).toArray = ls at hl ⊢
  have hl : lv_has ls 6 [(0, .ref (E.1 + 580)), (1, .int r), (2, .int n), (3, .long w)] := hl
  refine lv_aload_n hx hb dX8_add__0 rfl (lv_at hl 0 rfl) ?_
  refine lv_iconst (v := 0) hx hb dX8_add__1 (by decide) ?_
  refine w_pi 8 0 (T := TX8) (N := 42) hx hb hts inw8 tyX8 tyX8_ok nmX8 hown hK.1 hM hS (by decide) (by decide) (by decide) (by decide) (by decide) rfl (by decide) k112 rfl rfl rfl rfl dX8_add__2 (fun H locs hM hS => ?_)
  generalize hV2 : up2 V 580 0 0 = V2 at hM
  have hC2 := hC.fr (pFr.th hV2).1
  have fC2 := (pFr.th hV2).2
  obtain ⟨⟨oR, oT, oP⟩, cN, cR, cT, cP, cQ, cF, cL⟩ := id hC2
  refine lv_iload_n hx hb dX8_add__5 rfl (lv_at hl 1 rfl) ?_
  refine w_cSi (As := [.int r]) (rest := []) ⟨hx, hb, hml, hown, hts⟩ (c_X8_is l r) (va_cwS 1 hts gX8_add__X8_is rfl rfl rfl (by decide +kernel) ⟨Nat.le_of_ble_eq_true rfl, Nat.le_of_ble_eq_true rfl⟩) hM hK hS rfl hl.1 rfl (lv_room (Nat.le_of_ble_eq_true rfl)) dX8_add__6 ⟨Nat.le_of_ble_eq_true rfl, Nat.le_of_ble_eq_true rfl⟩ (fun r6 V6 H locs hp6 hM hS => ?_)
  obtain ⟨er6, eV⟩ := hp6
  rw [eV] at hM; clear eV
  refine lv_if_eq (tgt := 22) hx hb dX8_add__9 (by decide) (fun c_9 => ?_) (fun c_9 => ?_)
  · have i1 : in8 r = false := b2i_eq0 (by rw [← er6]; exact c_9)
    refine lv_bipush (v := (-2)) hx hb dX8_add__22 (by decide) ?_
    have hpost : (fun v V' => v = (opAdd σ r n w).1 ∧ repM V' (opAdd σ r n w).2 ∧ frC V V') (-2) V2 := by
      have hq : opAdd σ r n w = (-2, σ) := by first | (simp [opAdd, i1, i2]; done) | (simp [opAdd, i1]; done)
      rw [hq]; exact ⟨rfl, hC2, fC2⟩
    exact w_iret V2 hx hb hret hK hS hM (hpost) hlocks dX8_add__24
  · have i1 : in8 r = true := b2i_ne0 (by rw [← er6]; exact c_9)
    obtain ⟨h8r, enr⟩ := in8_r i1
    refine lv_iload_n hx hb dX8_add__12 rfl (lv_at hl 2 rfl) ?_
    refine lv_iconst (v := 1) hx hb dX8_add__13 (by decide) ?_
    refine lv_bipush (v := 8) hx hb dX8_add__14 (by decide) ?_
    refine w_cSi (As := [.int n, .int 1, .int 8]) (rest := []) ⟨hx, hb, hml, hown, hts⟩ (c_X8_within l n 1 8) (va_cwS 3 hts gX8_add__X8_within rfl rfl rfl (by decide +kernel) ⟨Nat.le_of_ble_eq_true rfl, Nat.le_of_ble_eq_true rfl⟩) hM hK hS rfl hl.1 rfl (lv_room (Nat.le_of_ble_eq_true rfl)) dX8_add__16 ⟨Nat.le_of_ble_eq_true rfl, Nat.le_of_ble_eq_true rfl⟩ (fun r16 V16 H locs hp16 hM hS => ?_)
    obtain ⟨er16, eV⟩ := hp16
    rw [eV] at hM; clear eV
    refine lv_if_ne (tgt := 25) hx hb dX8_add__19 (by decide) (fun c_19 => ?_) (fun c_19 => ?_)
    · have i2 : inR n 1 8 = true := b2i_ne0 (by rw [← er16]; exact c_19)
      obtain ⟨lon, hin, enn⟩ := inR_j i2 (m := 1) (n := 8) rfl rfl (by omega) (by omega)
      have olr := (oR _ h8r).1
      refine lv_aload_n hx hb dX8_add__25 rfl (lv_at hl 0 rfl) ?_
      refine w_gr 8 17 594 (T := TX8) (N := 42) hx hb hts inw8 hown hK.1 hM (by decide) (by decide) (by decide) (by decide) (by decide) rfl (by decide) k49 rfl dX8_add__26 ?_
      refine lv_iload_n hx hb dX8_add__29 rfl (lv_at hl 1 rfl) ?_
      have i_30 : (r : Int32) = nI (rj r) := enr
      refine w_ild (N := 8) hx hb hK.1 hM (by decide) (by decide) (by decide) (by rw [i_30]; exact vp_in_nI (by omega) (by omega)) dX8_add__30 ?_
      have j_30 : r.toNatClampNeg = rj r := (congrArg Int32.toNatClampNeg i_30).trans (nI_clamp (by omega))
      have q : (V2 594 r.toNatClampNeg : Int32) = V2 594 (rj r) := by rw [j_30]
      refine lv_eqi q ?_
      have q : (V2 594 (rj r) : Int32) = nI (σ.1 (rj r)).length := (cR _ h8r).1
      refine lv_eqi q ?_
      refine lv_iload_n hx hb dX8_add__31 rfl (lv_at hl 2 rfl) ?_
      refine lv_iadd hx hb dX8_add__32 ?_
      have q : ((nI (σ.1 (rj r)).length) + n : Int32) = nI (((σ.1 (rj r)).length) + (rj n)) := (nAdd rfl enn)
      refine lv_eqi q ?_
      refine lv_bipush (v := 100) hx hb dX8_add__33 (by decide) ?_
      refine lv_icmp_le (tgt := 41) hx hb dX8_add__35 (by decide) (fun c_35 => ?_) (fun c_35 => ?_)
      · have n_35 : (((σ.1 (rj r)).length) + (rj n)) ≤ 100 := (nLe (a := (((σ.1 (rj r)).length) + (rj n))) (b := 100) rfl rfl (by omega) (by omega)).mp c_35
        refine lv_iconst (v := 0) hx hb dX8_add__41 (by decide) ?_
        refine lv_istore (lv' := [(5, .int 0), (0, .ref (E.1 + 580)), (1, .int r), (2, .int n), (3, .long w)]) hx hb dX8_add__42 hl (by decide) rfl (fun ls hl => ?_)
        have loop44 : ∀ (fu : Nat) (Vw : Vt) (H : Heap) (locs : List Loc) (ls : Array Slot) (j : Nat) (hj : j ≤ rj n) (hz : Vw 594 (rj r) = nI ((σ.1 (rj r)).length + j)) (hg : seg Vw 593 (100 * rj r) ((σ.1 (rj r)) ++ lowB w j)) (f1 : ∀ i, i ≠ rj r → Vw 594 i = V2 594 i) (f2 : ∀ i, (i < 100 * rj r ∨ 100 * rj r + 100 ≤ i) → Vw 593 i = V2 593 i) (f3 : ∀ k, k ≠ 593 → k ≠ 594 → Vw k = V2 k), rj n - j < fu → Wd E Vw H → va_S (AE E) s.heap H locs → lv_has ls 6 [(0, .ref (E.1 + 580)), (1, .int r), (2, .int n), (3, .long w), (5, .int (nI j))] → W p l e (headSpec wsX8_add_ (rmD 2)).room s m ([.ref (E.1 + 580), .int r, .int n, .long w] : List Value).toArray below meth c H locs 0 0 (MQ below (QI E (fun V' => Wd E V') (fun v V' => v = (opAdd σ r n w).1 ∧ repM V' (opAdd σ r n w).2 ∧ frC V V')) ([.ref (E.1 + 580), .int r, .int n, .long w] : List Value).toArray s 0 0 (AE E)) (F0 m 44 ls []) := by
          intro fu
          induction fu with
          | zero => intros; omega
          | succ fu ih44 =>
            intro Vw H locs ls j hj hz hg f1 f2 f3 hfu hM hS hl
            refine lv_iload hx hb dX8_add__44 (lv_at hl 4 rfl) ?_
            refine lv_iload_n hx hb dX8_add__46 rfl (lv_at hl 2 rfl) ?_
            refine lv_icmp_ge (tgt := 94) hx hb dX8_add__47 (by decide) (fun c_47 => ?_) (fun c_47 => ?_)
            · have n_47 : (rj n) ≤ j := (nLe (a := (rj n)) (b := j) enn rfl (by omega) (by omega)).mp c_47
              refine lv_aload_n hx hb dX8_add__94 rfl (lv_at hl 0 rfl) ?_
              refine w_gr 8 17 594 (T := TX8) (N := 42) hx hb hts inw8 hown hK.1 hM (by decide) (by decide) (by decide) (by decide) (by decide) rfl (by decide) k49 rfl dX8_add__95 ?_
              refine lv_iload_n hx hb dX8_add__98 rfl (lv_at hl 1 rfl) ?_
              have i_99 : (r : Int32) = nI (rj r) := enr
              refine w_ild (N := 8) hx hb hK.1 hM (by decide) (by decide) (by decide) (by rw [i_99]; exact vp_in_nI (by omega) (by omega)) dX8_add__99 ?_
              have j_99 : r.toNatClampNeg = rj r := (congrArg Int32.toNatClampNeg i_99).trans (nI_clamp (by omega))
              have q : (Vw 594 r.toNatClampNeg : Int32) = Vw 594 (rj r) := by rw [j_99]
              refine lv_eqi q ?_
              have q : (Vw 594 (rj r) : Int32) = nI ((σ.1 (rj r)).length + j) := hz
              refine lv_eqi q ?_
              have hpost : (fun v V' => v = (opAdd σ r n w).1 ∧ repM V' (opAdd σ r n w).2 ∧ frC V V') (nI ((σ.1 (rj r)).length + j)) Vw := by
                have hjn : j = rj n := by omega
                subst hjn
                have hq : opAdd σ r n w = (nI ((σ.1 (rj r)).length + rj n), sReg σ (rj r) ((σ.1 (rj r)) ++ lowB w (rj n))) := by simp [opAdd, i1, i2]; omega
                rw [hq]; exact ⟨rfl, hC2.reg h8r (by rw [hz, List.length_append, lowB_len]) hg (by rw [List.length_append, lowB_len]; omega) ((oR _ h8r).2.app (lowB_ok _ _)) f1 f2 (fun k a => f3 k (by omega) (by omega)) (fun i a => by rw [f3 580 (by decide) (by decide)]), fC2.trans (fun k a => f3 k (by omega) (by omega))⟩
              exact w_iret Vw hx hb hret hK hS hM (hpost) hlocks dX8_add__100
            · have n_47 : ¬ (rj n) ≤ j := fun q9 => c_47 ((nLe (a := (rj n)) (b := j) enn rfl (by omega) (by omega)).mpr q9)
              refine lv_aload_n hx hb dX8_add__50 rfl (lv_at hl 0 rfl) ?_
              refine w_gr 8 16 593 (T := TX8) (N := 42) hx hb hts inw8 hown hK.1 hM (by decide) (by decide) (by decide) (by decide) (by decide) rfl (by decide) k46 rfl dX8_add__51 ?_
              refine lv_bipush (v := 100) hx hb dX8_add__54 (by decide) ?_
              refine lv_iload_n hx hb dX8_add__56 rfl (lv_at hl 1 rfl) ?_
              refine lv_imul hx hb dX8_add__57 ?_
              have q : (100 * r : Int32) = nI (100 * (rj r)) := (nMul rfl enr)
              refine lv_eqi q ?_
              refine lv_aload_n hx hb dX8_add__58 rfl (lv_at hl 0 rfl) ?_
              refine w_gr 8 17 594 (T := TX8) (N := 42) hx hb hts inw8 hown hK.1 hM (by decide) (by decide) (by decide) (by decide) (by decide) rfl (by decide) k49 rfl dX8_add__59 ?_
              refine lv_iload_n hx hb dX8_add__62 rfl (lv_at hl 1 rfl) ?_
              have i_63 : (r : Int32) = nI (rj r) := enr
              refine w_ild (N := 8) hx hb hK.1 hM (by decide) (by decide) (by decide) (by rw [i_63]; exact vp_in_nI (by omega) (by omega)) dX8_add__63 ?_
              have j_63 : r.toNatClampNeg = rj r := (congrArg Int32.toNatClampNeg i_63).trans (nI_clamp (by omega))
              have q : (Vw 594 r.toNatClampNeg : Int32) = Vw 594 (rj r) := by rw [j_63]
              refine lv_eqi q ?_
              have q : (Vw 594 (rj r) : Int32) = nI ((σ.1 (rj r)).length + j) := hz
              refine lv_eqi q ?_
              refine lv_iadd hx hb dX8_add__64 ?_
              have q : ((nI (100 * (rj r))) + (nI ((σ.1 (rj r)).length + j)) : Int32) = nI ((100 * (rj r)) + ((σ.1 (rj r)).length + j)) := (nAdd rfl rfl)
              refine lv_eqi q ?_
              refine lv_lload_n hx hb dX8_add__65 rfl (lv_at hl 3 rfl) ?_
              refine lv_bipush (v := 8) hx hb dX8_add__66 (by decide) ?_
              refine lv_iload hx hb dX8_add__68 (lv_at hl 4 rfl) ?_
              refine lv_imul hx hb dX8_add__70 ?_
              have q : (8 * (nI j) : Int32) = nI (8 * j) := (nMul rfl rfl)
              refine lv_eqi q ?_
              refine lv_lshr hx hb dX8_add__71 rfl ?_
              refine lv_ldc2 (v := 255) hx hb hown (hts (.constantLong RX8 161 255) (by decide +kernel)) dX8_add__72 ?_
              refine lv_land hx hb dX8_add__75 ?_
              refine lv_l2i hx hb dX8_add__76 rfl ?_
              have i_77 : (nI ((100 * (rj r)) + ((σ.1 (rj r)).length + j)) : Int32) = nI ((100 * (rj r)) + ((σ.1 (rj r)).length + j)) := rfl
              have j_77 : (nI ((100 * (rj r)) + ((σ.1 (rj r)).length + j))).toNatClampNeg = (100 * (rj r)) + ((σ.1 (rj r)).length + j) := (congrArg Int32.toNatClampNeg i_77).trans (nI_clamp (by omega))
              refine w_ist (N := 800) hx hb hK.1 hM hS (by decide) (by decide) (by decide) (by rw [i_77]; exact vp_in_nI (by omega) (by omega)) dX8_add__77 (fun H locs hM hS => ?_)
              rw [j_77] at hM
              generalize hV77 : up2 Vw 593 ((100 * (rj r)) + ((σ.1 (rj r)).length + j)) (((w >>> ((nI (8 * j)).toInt64 &&& 63)) &&& 255).toInt32) = V77 at hM
              rw [lo8_n w (by omega)] at hV77
              refine lv_aload_n hx hb dX8_add__78 rfl (lv_at hl 0 rfl) ?_
              refine w_gr 8 17 594 (T := TX8) (N := 42) hx hb hts inw8 hown hK.1 hM (by decide) (by decide) (by decide) (by decide) (by decide) rfl (by decide) k49 rfl dX8_add__79 ?_
              refine lv_iload_n hx hb dX8_add__82 rfl (lv_at hl 1 rfl) ?_
              refine lv_dup2_11 hx hb dX8_add__83 rfl rfl ?_
              have i_84 : (r : Int32) = nI (rj r) := enr
              refine w_ild (N := 8) hx hb hK.1 hM (by decide) (by decide) (by decide) (by rw [i_84]; exact vp_in_nI (by omega) (by omega)) dX8_add__84 ?_
              have j_84 : r.toNatClampNeg = rj r := (congrArg Int32.toNatClampNeg i_84).trans (nI_clamp (by omega))
              have q : (V77 594 r.toNatClampNeg : Int32) = V77 594 (rj r) := by rw [j_84]
              refine lv_eqi q ?_
              have q : (V77 594 (rj r) : Int32) = nI ((σ.1 (rj r)).length + j) := by rw [← hV77, up2_k _ _ (by decide)]; exact hz
              refine lv_eqi q ?_
              refine lv_iconst (v := 1) hx hb dX8_add__85 (by decide) ?_
              refine lv_iadd hx hb dX8_add__86 ?_
              have q : ((nI ((σ.1 (rj r)).length + j)) + 1 : Int32) = nI (((σ.1 (rj r)).length + j) + 1) := (nAdd rfl rfl)
              refine lv_eqi q ?_
              have i_87 : (r : Int32) = nI (rj r) := enr
              have j_87 : r.toNatClampNeg = rj r := (congrArg Int32.toNatClampNeg i_87).trans (nI_clamp (by omega))
              refine w_ist (N := 8) hx hb hK.1 hM hS (by decide) (by decide) (by decide) (by rw [i_87]; exact vp_in_nI (by omega) (by omega)) dX8_add__87 (fun H locs hM hS => ?_)
              rw [j_87] at hM
              generalize hV87 : up2 V77 594 (rj r) (nI (((σ.1 (rj r)).length + j) + 1)) = V87 at hM
              have e77 : ∀ k, k ≠ 593 → V77 k = Vw k := fun k a => by rw [← hV77, up2_k _ _ a]
              obtain ⟨x5_88, ex5_88⟩ : ∃ y : Int32, y = (nI j) + 1 := ⟨_, rfl⟩
              refine lv_iinc (v := x5_88) (lv' := [(5, .int x5_88), (0, .ref (E.1 + 580)), (1, .int r), (2, .int n), (3, .long w)]) hx hb dX8_add__88 hl (k := 4) rfl (by rw [ex5_88]; rfl) (by decide) rfl (fun ls hl => ?_)
              refine lv_goto (tgt := 44) hx hb dX8_add__91 (by decide) ?_
              rw [show x5_88 = nI (j + 1) from (ex5_88.trans (nAdd rfl rfl))] at hl
              exact ih44 V87 _ _ _ (j + 1) (by omega) (by rw [← hV87, up2_s]; exact congrArg nI (by omega)) (by rw [lowB_s, ← List.append_assoc]; exact (hg.push hV77 (by rw [List.length_append, lowB_len])).keep (by rw [← hV87, up2_k _ _ (by decide)])) (fun i a => by rw [← hV87, up2_o _ _ a, e77 594 (by decide)]; exact f1 i a) (fun i a => by rw [← hV87, up2_k _ _ (by decide), ← hV77, up2_o _ _ (by omega)]; exact f2 i a) (fun k a b => by rw [← hV87, up2_k _ _ b, e77 k a]; exact f3 k a b) (by omega) hM hS (lv_sub hl [1, 2, 3, 4, 0] rfl)
        exact loop44 _ V2 _ _ _ 0 (Nat.zero_le _) ((cR _ h8r).1) (by simpa [lowB] using (cR _ h8r).2) (fun _ _ => rfl) (fun _ _ => rfl) (fun _ _ _ => rfl) (Nat.lt_succ_self _) hM hS (lv_sub hl [1, 2, 3, 4, 0] rfl)
      · have n_35 : ¬ (((σ.1 (rj r)).length) + (rj n)) ≤ 100 := fun q9 => c_35 ((nLe (a := (((σ.1 (rj r)).length) + (rj n))) (b := 100) rfl rfl (by omega) (by omega)).mpr q9)
        refine lv_bipush (v := (-3)) hx hb dX8_add__38 (by decide) ?_
        have hpost : (fun v V' => v = (opAdd σ r n w).1 ∧ repM V' (opAdd σ r n w).2 ∧ frC V V') (-3) V2 := by
          have hq : opAdd σ r n w = (-3, σ) := by simp [opAdd, i1, i2]; omega
          rw [hq]; exact ⟨rfl, hC2, fC2⟩
        exact w_iret V2 hx hb hret hK hS hM (hpost) hlocks dX8_add__40
    · have i2 : inR n 1 8 = false := b2i_eq0 (by rw [← er16]; exact c_19)
      refine lv_bipush (v := (-2)) hx hb dX8_add__22 (by decide) ?_
      have hpost : (fun v V' => v = (opAdd σ r n w).1 ∧ repM V' (opAdd σ r n w).2 ∧ frC V V') (-2) V2 := by
        have hq : opAdd σ r n w = (-2, σ) := by first | (simp [opAdd, i1, i2]; done) | (simp [opAdd, i1]; done)
        rw [hq]; exact ⟨rfl, hC2, fC2⟩
      exact w_iret V2 hx hb hret hK hS hM (hpost) hlocks dX8_add__24

set_option maxHeartbeats 4000000 in
set_option maxRecDepth 100000 in
theorem c_X8_told (l : Launch) {E : En} {V : Vt} {σ : St} (hC : repM V σ) (t w : Int32) : CI l yX8_told wsX8_told 3 E V [.ref (E.1 + 580), .int t, .int w] (fun v V' => v = (opTold σ t w).1 ∧ repM V' (opTold σ t w).2 ∧ frC V V') := by
  refine Met.ofW (cc := cX8_told) (maxL := 4) (ret := (some .int)) (by decide) rfl ?_
  intro p e s m args below meth c s₁ B hml hv
  obtain ⟨rfl, hM, hK⟩ := hv
  have hx := B.exec
  have hb := B.bytes
  have hret := B.returns
  have hts := atoms_spec (ws := wsX8_told) B.pre
  have hown : s.vm.findClass RX8 = some m.cls := findClass_of_methodNamed B.named
  have hlocks := B.notSynchronized
  have hsz : s.heap.size = E.1 + 610 := hM.1
  have hS : va_S (AE E) s.heap s.heap [] := va_S.rf
  have inw8 : ∀ w ∈ u_ws RX8 TX8 42, w ∈ wsX8_told := by decide +kernel
  have k112 := hts (.fieldLink RX8 112 "LimitTokensModel" "thrown" "I") (by decide +kernel)
  have k69 := hts (.fieldLink RX8 69 "LimitTokensModel" "limits" "[I") (by decide +kernel)
  have k72 := hts (.fieldLink RX8 72 "LimitTokensModel" "textSize" "[I") (by decide +kernel)
  have k78 := hts (.fieldLink RX8 78 "LimitTokensModel" "isOthers" "[Z") (by decide +kernel)
  have k63 := hts (.fieldLink RX8 63 "LimitTokensModel" "nameSize" "[I") (by decide +kernel)
  have hl := lv_entry ([.ref (E.1 + 580), .int t, .int w]) (n := 4) (Nat.le_of_ble_eq_true rfl)
  rw [lg_entry_eq]
  generalize (lg_sl ([.ref (E.1 + 580), .int t, .int w]) ++ List.replicate (4 - (lg_sl ([.ref (E.1 + 580), .int t, .int w])).length) Slot.unset).toArray = ls at hl ⊢
  have hl : lv_has ls 4 [(0, .ref (E.1 + 580)), (1, .int t), (2, .int w)] := hl
  refine lv_aload_n hx hb dX8_told_0 rfl (lv_at hl 0 rfl) ?_
  refine lv_iconst (v := 0) hx hb dX8_told_1 (by decide) ?_
  refine w_pi 8 0 (T := TX8) (N := 42) hx hb hts inw8 tyX8 tyX8_ok nmX8 hown hK.1 hM hS (by decide) (by decide) (by decide) (by decide) (by decide) rfl (by decide) k112 rfl rfl rfl rfl dX8_told_2 (fun H locs hM hS => ?_)
  generalize hV2 : up2 V 580 0 0 = V2 at hM
  have hC2 := hC.fr (pFr.th hV2).1
  have fC2 := (pFr.th hV2).2
  obtain ⟨⟨oR, oT, oP⟩, cN, cR, cT, cP, cQ, cF, cL⟩ := id hC2
  refine lv_aload_n hx hb dX8_told_5 rfl (lv_at hl 0 rfl) ?_
  refine lv_iload_n hx hb dX8_told_6 rfl (lv_at hl 1 rfl) ?_
  refine w_cVi (C := RX8) (As := [.int t]) (rest := []) ⟨hx, hb, hml, hown, hts⟩ (c_X8_isToken l cT t) (cwV 1 hts gX8_told_X8_isToken rfl rfl rfl (by decide +kernel) ⟨Nat.le_of_ble_eq_true rfl, Nat.le_of_ble_eq_true rfl⟩) (w_recv (ci := 8) hK hM (by decide) (by decide) (by decide) rfl) hM hK hS rfl hl.1 rfl (lv_room (Nat.le_of_ble_eq_true rfl)) dX8_told_7 ⟨Nat.le_of_ble_eq_true rfl, Nat.le_of_ble_eq_true rfl⟩ (fun r7 V7 H locs hp7 hM hS => ?_)
  obtain ⟨er7, eV⟩ := hp7
  rw [eV] at hM; clear eV
  refine lv_if_eq (tgt := 23) hx hb dX8_told_10 (by decide) (fun c_10 => ?_) (fun c_10 => ?_)
  · have hN : thr σ t = none := by have q9 := b2i_eq0 (er7.symm.trans c_10); cases q8 : thr σ t with | none => rfl | some x => rw [q8] at q9; cases q9
    refine lv_bipush (v := (-2)) hx hb dX8_told_23 (by decide) ?_
    have hpost : (fun v V' => v = (opTold σ t w).1 ∧ repM V' (opTold σ t w).2 ∧ frC V V') (-2) V2 := by
      have hq : opTold σ t w = (-2, σ) := by first | (simp [opTold, hT, i2]; done) | (simp [opTold, hN]; done)
      rw [hq]; exact ⟨rfl, hC2, fC2⟩
    exact w_iret V2 hx hb hret hK hS hM (hpost) hlocks dX8_told_25
  · obtain ⟨T, hT⟩ : ∃ T, thr σ t = some T := Option.isSome_iff_exists.mp (b2i_ne0 (by rw [← er7]; exact c_10))
    obtain ⟨i1, ht, et, hTt⟩ := thr_some hT
    obtain ⟨hth, htk⟩ := (cT (rj t) ht).s hTt
    have hok := oT (rj t) ht T hTt
    refine lv_iload_n hx hb dX8_told_13 rfl (lv_at hl 2 rfl) ?_
    refine lv_iconst (v := 0) hx hb dX8_told_14 (by decide) ?_
    refine lv_bipush (v := 11) hx hb dX8_told_15 (by decide) ?_
    refine w_cSi (As := [.int w, .int 0, .int 11]) (rest := []) ⟨hx, hb, hml, hown, hts⟩ (c_X8_within l w 0 11) (va_cwS 3 hts gX8_told_X8_within rfl rfl rfl (by decide +kernel) ⟨Nat.le_of_ble_eq_true rfl, Nat.le_of_ble_eq_true rfl⟩) hM hK hS rfl hl.1 rfl (lv_room (Nat.le_of_ble_eq_true rfl)) dX8_told_17 ⟨Nat.le_of_ble_eq_true rfl, Nat.le_of_ble_eq_true rfl⟩ (fun r17 V17 H locs hp17 hM hS => ?_)
    obtain ⟨er17, eV⟩ := hp17
    rw [eV] at hM; clear eV
    refine lv_if_ne (tgt := 26) hx hb dX8_told_20 (by decide) (fun c_20 => ?_) (fun c_20 => ?_)
    · have i2 : inR w 0 11 = true := b2i_ne0 (by rw [← er17]; exact c_20)
      obtain ⟨low, hiw, enw⟩ := inR_j i2 (m := 0) (n := 11) rfl rfl (by omega) (by omega)
      have hc10 := hok.2.2.1
      refine lv_iload_n hx hb dX8_told_26 rfl (lv_at hl 2 rfl) ?_
      refine lv_iconst (v := 2) hx hb dX8_told_27 (by decide) ?_
      refine lv_icmp_ge (tgt := 51) hx hb dX8_told_28 (by decide) (fun c_28 => ?_) (fun c_28 => ?_)
      · have n_28 : 2 ≤ (rj w) := (nLe (a := 2) (b := (rj w)) rfl enw (by omega) (by omega)).mp c_28
        have hw2 := rj_sub enw (a := 2) (by omega) (by omega) (x := 2) rfl
        refine lv_bipush (v := 10) hx hb dX8_told_51 (by decide) ?_
        refine lv_iload_n hx hb dX8_told_53 rfl (lv_at hl 1 rfl) ?_
        refine lv_imul hx hb dX8_told_54 ?_
        have q : (10 * t : Int32) = nI (10 * (rj t)) := (nMul rfl et)
        refine lv_eqi q ?_
        refine lv_iload_n hx hb dX8_told_55 rfl (lv_at hl 2 rfl) ?_
        refine lv_iadd hx hb dX8_told_56 ?_
        have q : ((nI (10 * (rj t))) + w : Int32) = nI ((10 * (rj t)) + (rj w)) := (nAdd rfl enw)
        refine lv_eqi q ?_
        refine lv_iconst (v := 2) hx hb dX8_told_57 (by decide) ?_
        refine lv_isub hx hb dX8_told_58 ?_
        refine lv_topi (fun x3_59 ex3_59 => ?_)
        refine lv_istore_n (lv' := [(3, .int x3_59), (0, .ref (E.1 + 580)), (1, .int t), (2, .int w)]) hx hb dX8_told_59 rfl hl (by decide) rfl (fun ls hl => ?_)
        refine lv_iload_n hx hb dX8_told_60 rfl (lv_at hl 3 rfl) ?_
        refine lv_iconst (v := 2) hx hb dX8_told_61 (by decide) ?_
        refine lv_isub hx hb dX8_told_62 ?_
        refine lv_aload_n hx hb dX8_told_63 rfl (lv_at hl 1 rfl) ?_
        refine w_gr 8 24 599 (T := TX8) (N := 42) hx hb hts inw8 hown hK.1 hM (by decide) (by decide) (by decide) (by decide) (by decide) rfl (by decide) k69 rfl dX8_told_64 ?_
        refine lv_iload_n hx hb dX8_told_67 rfl (lv_at hl 2 rfl) ?_
        have i_68 : (t : Int32) = nI (rj t) := et
        refine w_ild (N := 9) hx hb hK.1 hM (by decide) (by decide) (by decide) (by rw [i_68]; exact vp_in_nI (by omega) (by omega)) dX8_told_68 ?_
        have j_68 : t.toNatClampNeg = rj t := (congrArg Int32.toNatClampNeg i_68).trans (nI_clamp (by omega))
        have q : (V2 599 t.toNatClampNeg : Int32) = V2 599 (rj t) := by rw [j_68]
        refine lv_eqi q ?_
        have q : (V2 599 (rj t) : Int32) = nI T.2.2.length := htk.2.2.1
        refine lv_eqi q ?_
        refine lv_icmp_ge (tgt := 97) hx hb dX8_told_69 (by decide) (fun c_69 => ?_) (fun c_69 => ?_)
        · have n_69 : T.2.2.length ≤ ((rj w) - 2) := (nLe (a := T.2.2.length) (b := ((rj w) - 2)) rfl (nSub enw rfl (by omega)) (by omega) (by omega)).mp c_69
          refine lv_iconst (v := 0) hx hb dX8_told_97 (by decide) ?_
          have hpost : (fun v V' => v = (opTold σ t w).1 ∧ repM V' (opTold σ t w).2 ∧ frC V V') 0 V2 := by
            refine ⟨?_, hC2, fC2⟩
            unfold opTold
            dsimp only
            rw [hT]
            dsimp only
            have z0 : ¬ w = 0 := fun q => by rw [q] at n_28; exact absurd n_28 (by decide)
            have z1 : ¬ w = 1 := fun q => by rw [q] at n_28; exact absurd n_28 (by decide)
            rw [if_pos i2, if_neg z0, if_neg z1, hw2.2]
            rw [if_neg (by omega)]
          exact w_iret V2 hx hb hret hK hS hM (hpost) hlocks dX8_told_98
        · have n_69 : ¬ T.2.2.length ≤ ((rj w) - 2) := fun q9 => c_69 ((nLe (a := T.2.2.length) (b := ((rj w) - 2)) rfl (nSub enw rfl (by omega)) (by omega) (by omega)).mpr q9)
          have hj9 : rj w - 2 < T.2.2.length := by omega
          have hm := htk.2.2.2.2 _ hj9
          have hi9 : 10 * rj t + rj w - 2 = 10 * rj t + (rj w - 2) := by omega
          refine lv_aload_n hx hb dX8_told_72 rfl (lv_at hl 1 rfl) ?_
          refine w_gr 8 25 600 (T := TX8) (N := 42) hx hb hts inw8 hown hK.1 hM (by decide) (by decide) (by decide) (by decide) (by decide) rfl (by decide) k72 rfl dX8_told_73 ?_
          refine lv_iload_n hx hb dX8_told_76 rfl (lv_at hl 0 rfl) ?_
          have i_77 : (x3_59 : Int32) = nI (((10 * (rj t)) + (rj w)) - 2) := (ex3_59.trans (nSub rfl rfl (by omega)))
          refine w_ild (N := 90) hx hb hK.1 hM (by decide) (by decide) (by decide) (by rw [i_77]; exact vp_in_nI (by omega) (by omega)) dX8_told_77 ?_
          have j_77 : x3_59.toNatClampNeg = ((10 * (rj t)) + (rj w)) - 2 := (congrArg Int32.toNatClampNeg i_77).trans (nI_clamp (by omega))
          have q : (V2 600 x3_59.toNatClampNeg : Int32) = V2 600 (((10 * (rj t)) + (rj w)) - 2) := by rw [j_77]
          refine lv_eqi q ?_
          have q : (V2 600 (((10 * (rj t)) + (rj w)) - 2) : Int32) = nI (T.2.2.getD (rj w - 2) lz).1.length := by rw [hi9]; exact hm.1
          refine lv_eqi q ?_
          refine lv_aload_n hx hb dX8_told_78 rfl (lv_at hl 1 rfl) ?_
          refine w_gr 8 27 602 (T := TX8) (N := 42) hx hb hts inw8 hown hK.1 hM (by decide) (by decide) (by decide) (by decide) (by decide) rfl (by decide) k78 rfl dX8_told_79 ?_
          refine lv_iload_n hx hb dX8_told_82 rfl (lv_at hl 0 rfl) ?_
          have i_83 : (x3_59 : Int32) = nI (((10 * (rj t)) + (rj w)) - 2) := (ex3_59.trans (nSub rfl rfl (by omega)))
          refine w_zld (N := 90) hx hb hK.1 hM (by decide) (by decide) (by decide) (by rw [i_83]; exact vp_in_nI (by omega) (by omega)) dX8_told_83 ?_
          have j_83 : x3_59.toNatClampNeg = ((10 * (rj t)) + (rj w)) - 2 := (congrArg Int32.toNatClampNeg i_83).trans (nI_clamp (by omega))
          have q : (V2 602 x3_59.toNatClampNeg : Int32) = V2 602 (((10 * (rj t)) + (rj w)) - 2) := by rw [j_83]
          refine lv_eqi q ?_
          have q : (V2 602 (((10 * (rj t)) + (rj w)) - 2) : Int32) = b2i (decide ((T.2.2.getD (rj w - 2) lz).2 ≠ [])) := by rw [hi9]; exact hm.2.2.1
          refine lv_eqi q ?_
          refine lv_if_eq (tgt := 92) hx hb dX8_told_84 (by decide) (fun c_84 => ?_) (fun c_84 => ?_)
          · have hL2 := b2i_dec c_84
            refine lv_iconst (v := 0) hx hb dX8_told_92 (by decide) ?_
            refine lv_iadd hx hb dX8_told_93 ?_
            have q : ((nI (T.2.2.getD (rj w - 2) lz).1.length) + 0 : Int32) = nI (((T.2.2.getD (rj w - 2) lz).1.length) + 0) := (nAdd rfl rfl)
            refine lv_eqi q ?_
            refine lv_goto (tgt := 98) hx hb dX8_told_94 (by decide) ?_
            have hpost : (fun v V' => v = (opTold σ t w).1 ∧ repM V' (opTold σ t w).2 ∧ frC V V') (nI (((T.2.2.getD (rj w - 2) lz).1.length) + 0)) V2 := by
              refine ⟨?_, hC2, fC2⟩
              unfold opTold
              dsimp only
              rw [hT]
              dsimp only
              have z0 : ¬ w = 0 := fun q => by rw [q] at n_28; exact absurd n_28 (by decide)
              have z1 : ¬ w = 1 := fun q => by rw [q] at n_28; exact absurd n_28 (by decide)
              rw [if_pos i2, if_neg z0, if_neg z1, hw2.2]
              rw [if_pos hj9]
              first | (rw [if_pos hL2]) | (rw [if_neg hL2])
              try exact (nI_add _ _).symm
            exact w_iret V2 hx hb hret hK hS hM (hpost) hlocks dX8_told_98
          · have hL2 := b2i_decn c_84
            refine lv_bipush (v := 100) hx hb dX8_told_87 (by decide) ?_
            refine lv_goto (tgt := 93) hx hb dX8_told_89 (by decide) ?_
            refine lv_iadd hx hb dX8_told_93 ?_
            have q : ((nI (T.2.2.getD (rj w - 2) lz).1.length) + 100 : Int32) = nI (((T.2.2.getD (rj w - 2) lz).1.length) + 100) := (nAdd rfl rfl)
            refine lv_eqi q ?_
            refine lv_goto (tgt := 98) hx hb dX8_told_94 (by decide) ?_
            have hpost : (fun v V' => v = (opTold σ t w).1 ∧ repM V' (opTold σ t w).2 ∧ frC V V') (nI (((T.2.2.getD (rj w - 2) lz).1.length) + 100)) V2 := by
              refine ⟨?_, hC2, fC2⟩
              unfold opTold
              dsimp only
              rw [hT]
              dsimp only
              have z0 : ¬ w = 0 := fun q => by rw [q] at n_28; exact absurd n_28 (by decide)
              have z1 : ¬ w = 1 := fun q => by rw [q] at n_28; exact absurd n_28 (by decide)
              rw [if_pos i2, if_neg z0, if_neg z1, hw2.2]
              rw [if_pos hj9]
              first | (rw [if_pos hL2]) | (rw [if_neg hL2])
              try exact (nI_add _ _).symm
            exact w_iret V2 hx hb hret hK hS hM (hpost) hlocks dX8_told_98
      · have n_28 : ¬ 2 ≤ (rj w) := fun q9 => c_28 ((nLe (a := 2) (b := (rj w)) rfl enw (by omega) (by omega)).mpr q9)
        refine lv_iload_n hx hb dX8_told_31 rfl (lv_at hl 2 rfl) ?_
        refine lv_if_ne (tgt := 44) hx hb dX8_told_32 (by decide) (fun c_32 => ?_) (fun c_32 => ?_)
        · refine lv_aload_n hx hb dX8_told_44 rfl (lv_at hl 0 rfl) ?_
          refine w_gr 8 24 599 (T := TX8) (N := 42) hx hb hts inw8 hown hK.1 hM (by decide) (by decide) (by decide) (by decide) (by decide) rfl (by decide) k69 rfl dX8_told_45 ?_
          refine lv_iload_n hx hb dX8_told_48 rfl (lv_at hl 1 rfl) ?_
          have i_49 : (t : Int32) = nI (rj t) := et
          refine w_ild (N := 9) hx hb hK.1 hM (by decide) (by decide) (by decide) (by rw [i_49]; exact vp_in_nI (by omega) (by omega)) dX8_told_49 ?_
          have j_49 : t.toNatClampNeg = rj t := (congrArg Int32.toNatClampNeg i_49).trans (nI_clamp (by omega))
          have q : (V2 599 t.toNatClampNeg : Int32) = V2 599 (rj t) := by rw [j_49]
          refine lv_eqi q ?_
          have q : (V2 599 (rj t) : Int32) = nI T.2.2.length := htk.2.2.1
          refine lv_eqi q ?_
          have hpost : (fun v V' => v = (opTold σ t w).1 ∧ repM V' (opTold σ t w).2 ∧ frC V V') (nI T.2.2.length) V2 := by
            refine ⟨?_, hC2, fC2⟩
            unfold opTold
            dsimp only
            rw [hT]
            dsimp only
            rw [if_pos i2]
            first | rw [if_pos c_32] | (have h1 : rj w = 1 := (by have h0 : rj w ≠ 0 := (fun q => c_32 (by rw [enw, q]; rfl)); omega); rw [if_neg c_32, if_pos (by rw [enw, h1]; rfl)])
          exact w_iret V2 hx hb hret hK hS hM (hpost) hlocks dX8_told_50
        · refine lv_aload_n hx hb dX8_told_35 rfl (lv_at hl 0 rfl) ?_
          refine w_gr 8 22 597 (T := TX8) (N := 42) hx hb hts inw8 hown hK.1 hM (by decide) (by decide) (by decide) (by decide) (by decide) rfl (by decide) k63 rfl dX8_told_36 ?_
          refine lv_iload_n hx hb dX8_told_39 rfl (lv_at hl 1 rfl) ?_
          have i_40 : (t : Int32) = nI (rj t) := et
          refine w_ild (N := 9) hx hb hK.1 hM (by decide) (by decide) (by decide) (by rw [i_40]; exact vp_in_nI (by omega) (by omega)) dX8_told_40 ?_
          have j_40 : t.toNatClampNeg = rj t := (congrArg Int32.toNatClampNeg i_40).trans (nI_clamp (by omega))
          have q : (V2 597 t.toNatClampNeg : Int32) = V2 597 (rj t) := by rw [j_40]
          refine lv_eqi q ?_
          have q : (V2 597 (rj t) : Int32) = nI T.1.length := htk.1
          refine lv_eqi q ?_
          refine lv_goto (tgt := 50) hx hb dX8_told_41 (by decide) ?_
          have hpost : (fun v V' => v = (opTold σ t w).1 ∧ repM V' (opTold σ t w).2 ∧ frC V V') (nI T.1.length) V2 := by
            refine ⟨?_, hC2, fC2⟩
            unfold opTold
            dsimp only
            rw [hT]
            dsimp only
            rw [if_pos i2]
            first | rw [if_pos c_32] | (have h1 : rj w = 1 := (by have h0 : rj w ≠ 0 := (fun q => c_32 (by rw [enw, q]; rfl)); omega); rw [if_neg c_32, if_pos (by rw [enw, h1]; rfl)])
          exact w_iret V2 hx hb hret hK hS hM (hpost) hlocks dX8_told_50
    · have i2 : inR w 0 11 = false := b2i_eq0 (by rw [← er17]; exact c_20)
      refine lv_bipush (v := (-2)) hx hb dX8_told_23 (by decide) ?_
      have hpost : (fun v V' => v = (opTold σ t w).1 ∧ repM V' (opTold σ t w).2 ∧ frC V V') (-2) V2 := by
        have hq : opTold σ t w = (-2, σ) := by first | (simp [opTold, hT, i2]; done) | (simp [opTold, hN]; done)
        rw [hq]; exact ⟨rfl, hC2, fC2⟩
      exact w_iret V2 hx hb hret hK hS hM (hpost) hlocks dX8_told_25

set_option maxHeartbeats 4000000 in
set_option maxRecDepth 100000 in
theorem c_X8_spoil (l : Launch) {E : En} {V : Vt} {σ : St} (hC : repM V σ) (t k i x : Int32) : CI l yX8_spoil wsX8_spoil 3 E V [.ref (E.1 + 580), .int t, .int k, .int i, .int x] (fun v V' => v = (opSpoil σ t k i x).1 ∧ repM V' (opSpoil σ t k i x).2 ∧ frC V V') := by
  refine Met.ofW (cc := cX8_spoil) (maxL := 6) (ret := (some .int)) (by decide) rfl ?_
  intro p e s m args below meth c s₁ B hml hv
  obtain ⟨rfl, hM, hK⟩ := hv
  have hx := B.exec
  have hb := B.bytes
  have hret := B.returns
  have hts := atoms_spec (ws := wsX8_spoil) B.pre
  have hown : s.vm.findClass RX8 = some m.cls := findClass_of_methodNamed B.named
  have hlocks := B.notSynchronized
  have hsz : s.heap.size = E.1 + 610 := hM.1
  have hS : va_S (AE E) s.heap s.heap [] := va_S.rf
  have inw8 : ∀ w ∈ u_ws RX8 TX8 42, w ∈ wsX8_spoil := by decide +kernel
  have k112 := hts (.fieldLink RX8 112 "LimitTokensModel" "thrown" "I") (by decide +kernel)
  have k69 := hts (.fieldLink RX8 69 "LimitTokensModel" "limits" "[I") (by decide +kernel)
  have k72 := hts (.fieldLink RX8 72 "LimitTokensModel" "textSize" "[I") (by decide +kernel)
  have k75 := hts (.fieldLink RX8 75 "LimitTokensModel" "text" "[I") (by decide +kernel)
  have k84 := hts (.fieldLink RX8 84 "LimitTokensModel" "sign" "[I") (by decide +kernel)
  have hl := lv_entry ([.ref (E.1 + 580), .int t, .int k, .int i, .int x]) (n := 6) (Nat.le_of_ble_eq_true rfl)
  rw [lg_entry_eq]
  generalize (lg_sl ([.ref (E.1 + 580), .int t, .int k, .int i, .int x]) ++ List.replicate (6 - (lg_sl ([.ref (E.1 + 580), .int t, .int k, .int i, .int x])).length) Slot.unset).toArray = ls at hl ⊢
  have hl : lv_has ls 6 [(0, .ref (E.1 + 580)), (1, .int t), (2, .int k), (3, .int i), (4, .int x)] := hl
  refine lv_aload_n hx hb dX8_spoil_0 rfl (lv_at hl 0 rfl) ?_
  refine lv_iconst (v := 0) hx hb dX8_spoil_1 (by decide) ?_
  refine w_pi 8 0 (T := TX8) (N := 42) hx hb hts inw8 tyX8 tyX8_ok nmX8 hown hK.1 hM hS (by decide) (by decide) (by decide) (by decide) (by decide) rfl (by decide) k112 rfl rfl rfl rfl dX8_spoil_2 (fun H locs hM hS => ?_)
  generalize hV2 : up2 V 580 0 0 = V2 at hM
  have hC2 := hC.fr (pFr.th hV2).1
  have fC2 := (pFr.th hV2).2
  obtain ⟨⟨oR, oT, oP⟩, cN, cR, cT, cP, cQ, cF, cL⟩ := id hC2
  refine lv_aload_n hx hb dX8_spoil_5 rfl (lv_at hl 0 rfl) ?_
  refine lv_iload_n hx hb dX8_spoil_6 rfl (lv_at hl 1 rfl) ?_
  refine w_cVi (C := RX8) (As := [.int t]) (rest := []) ⟨hx, hb, hml, hown, hts⟩ (c_X8_isToken l cT t) (cwV 1 hts gX8_spoil_X8_isToken rfl rfl rfl (by decide +kernel) ⟨Nat.le_of_ble_eq_true rfl, Nat.le_of_ble_eq_true rfl⟩) (w_recv (ci := 8) hK hM (by decide) (by decide) (by decide) rfl) hM hK hS rfl hl.1 rfl (lv_room (Nat.le_of_ble_eq_true rfl)) dX8_spoil_7 ⟨Nat.le_of_ble_eq_true rfl, Nat.le_of_ble_eq_true rfl⟩ (fun r7 V7 H locs hp7 hM hS => ?_)
  obtain ⟨er7, eV⟩ := hp7
  rw [eV] at hM; clear eV
  refine lv_if_eq (tgt := 39) hx hb dX8_spoil_10 (by decide) (fun c_10 => ?_) (fun c_10 => ?_)
  · have hN : thr σ t = none := by have q9 := b2i_eq0 (er7.symm.trans c_10); cases q8 : thr σ t with | none => rfl | some x => rw [q8] at q9; cases q9
    refine lv_bipush (v := (-2)) hx hb dX8_spoil_39 (by decide) ?_
    have hpost : (fun v V' => v = (opSpoil σ t k i x).1 ∧ repM V' (opSpoil σ t k i x).2 ∧ frC V V') (-2) V2 := by
      have ib : thr σ t = none ∨ ∃ T, thr σ t = some T ∧ (inR k 0 (nI T.2.2.length) && inR x 0 255) = false := by first | exact Or.inl hN | (right; exact ⟨T, hT, by rw [i3, Bool.and_false]⟩) | (right; exact ⟨T, hT, by rw [i2, Bool.false_and]⟩)
      have hq : opSpoil σ t k i x = (-2, σ) := by rcases ib with q | ⟨T9, q1, q2⟩; (simp [opSpoil, q]); (simp only [opSpoil, q1, q2]; rfl)
      rw [hq]; exact ⟨rfl, hC2, fC2⟩
    exact w_iret V2 hx hb hret hK hS hM (hpost) hlocks dX8_spoil_41
  · obtain ⟨T, hT⟩ : ∃ T, thr σ t = some T := Option.isSome_iff_exists.mp (b2i_ne0 (by rw [← er7]; exact c_10))
    obtain ⟨i1, ht, et, hTt⟩ := thr_some hT
    obtain ⟨hth, htk⟩ := (cT (rj t) ht).s hTt
    have hok := oT (rj t) ht T hTt
    have hc10 := hok.2.2.1
    have hs32 := hok.2.1.1
    refine lv_iload_n hx hb dX8_spoil_13 rfl (lv_at hl 2 rfl) ?_
    refine lv_iconst (v := 0) hx hb dX8_spoil_14 (by decide) ?_
    refine lv_aload_n hx hb dX8_spoil_15 rfl (lv_at hl 0 rfl) ?_
    refine w_gr 8 24 599 (T := TX8) (N := 42) hx hb hts inw8 hown hK.1 hM (by decide) (by decide) (by decide) (by decide) (by decide) rfl (by decide) k69 rfl dX8_spoil_16 ?_
    refine lv_iload_n hx hb dX8_spoil_19 rfl (lv_at hl 1 rfl) ?_
    have i_20 : (t : Int32) = nI (rj t) := et
    refine w_ild (N := 9) hx hb hK.1 hM (by decide) (by decide) (by decide) (by rw [i_20]; exact vp_in_nI (by omega) (by omega)) dX8_spoil_20 ?_
    have j_20 : t.toNatClampNeg = rj t := (congrArg Int32.toNatClampNeg i_20).trans (nI_clamp (by omega))
    have q : (V2 599 t.toNatClampNeg : Int32) = V2 599 (rj t) := by rw [j_20]
    refine lv_eqi q ?_
    have q : (V2 599 (rj t) : Int32) = nI T.2.2.length := htk.2.2.1
    refine lv_eqi q ?_
    refine w_cSi (As := [.int k, .int 0, .int (nI T.2.2.length)]) (rest := []) ⟨hx, hb, hml, hown, hts⟩ (c_X8_within l k 0 (nI T.2.2.length)) (va_cwS 3 hts gX8_spoil_X8_within rfl rfl rfl (by decide +kernel) ⟨Nat.le_of_ble_eq_true rfl, Nat.le_of_ble_eq_true rfl⟩) hM hK hS rfl hl.1 rfl (lv_room (Nat.le_of_ble_eq_true rfl)) dX8_spoil_21 ⟨Nat.le_of_ble_eq_true rfl, Nat.le_of_ble_eq_true rfl⟩ (fun r21 V21 H locs hp21 hM hS => ?_)
    obtain ⟨er21, eV⟩ := hp21
    rw [eV] at hM; clear eV
    refine lv_if_eq (tgt := 39) hx hb dX8_spoil_24 (by decide) (fun c_24 => ?_) (fun c_24 => ?_)
    · have i2 : inR k 0 (nI T.2.2.length) = false := b2i_eq0 (by rw [← er21]; exact c_24)
      refine lv_bipush (v := (-2)) hx hb dX8_spoil_39 (by decide) ?_
      have hpost : (fun v V' => v = (opSpoil σ t k i x).1 ∧ repM V' (opSpoil σ t k i x).2 ∧ frC V V') (-2) V2 := by
        have ib : thr σ t = none ∨ ∃ T, thr σ t = some T ∧ (inR k 0 (nI T.2.2.length) && inR x 0 255) = false := by first | exact Or.inl hN | (right; exact ⟨T, hT, by rw [i3, Bool.and_false]⟩) | (right; exact ⟨T, hT, by rw [i2, Bool.false_and]⟩)
        have hq : opSpoil σ t k i x = (-2, σ) := by rcases ib with q | ⟨T9, q1, q2⟩; (simp [opSpoil, q]); (simp only [opSpoil, q1, q2]; rfl)
        rw [hq]; exact ⟨rfl, hC2, fC2⟩
      exact w_iret V2 hx hb hret hK hS hM (hpost) hlocks dX8_spoil_41
    · have i2 : inR k 0 (nI T.2.2.length) = true := b2i_ne0 (by rw [← er21]; exact c_24)
      obtain ⟨lok, hik, enk⟩ := inR_j i2 (m := 0) (n := T.2.2.length) rfl rfl (by omega) (by omega)
      refine lv_iload hx hb dX8_spoil_27 (lv_at hl 4 rfl) ?_
      refine lv_iconst (v := 0) hx hb dX8_spoil_29 (by decide) ?_
      refine lv_sipush (v := 255) hx hb dX8_spoil_30 (by decide) ?_
      refine w_cSi (As := [.int x, .int 0, .int 255]) (rest := []) ⟨hx, hb, hml, hown, hts⟩ (c_X8_within l x 0 255) (va_cwS 3 hts gX8_spoil_X8_within rfl rfl rfl (by decide +kernel) ⟨Nat.le_of_ble_eq_true rfl, Nat.le_of_ble_eq_true rfl⟩) hM hK hS rfl hl.1 rfl (lv_room (Nat.le_of_ble_eq_true rfl)) dX8_spoil_33 ⟨Nat.le_of_ble_eq_true rfl, Nat.le_of_ble_eq_true rfl⟩ (fun r33 V33 H locs hp33 hM hS => ?_)
      obtain ⟨er33, eV⟩ := hp33
      rw [eV] at hM; clear eV
      refine lv_if_ne (tgt := 42) hx hb dX8_spoil_36 (by decide) (fun c_36 => ?_) (fun c_36 => ?_)
      · have i3 : inR x 0 255 = true := b2i_ne0 (by rw [← er33]; exact c_36)
        obtain ⟨lox, hix, enx⟩ := inR_j i3 (m := 0) (n := 255) rfl rfl (by omega) (by omega)
        refine lv_bipush (v := 10) hx hb dX8_spoil_42 (by decide) ?_
        refine lv_iload_n hx hb dX8_spoil_44 rfl (lv_at hl 1 rfl) ?_
        refine lv_imul hx hb dX8_spoil_45 ?_
        have q : (10 * t : Int32) = nI (10 * (rj t)) := (nMul rfl et)
        refine lv_eqi q ?_
        refine lv_iload_n hx hb dX8_spoil_46 rfl (lv_at hl 2 rfl) ?_
        refine lv_iadd hx hb dX8_spoil_47 ?_
        have q : ((nI (10 * (rj t))) + k : Int32) = nI ((10 * (rj t)) + (rj k)) := (nAdd rfl enk)
        refine lv_eqi q ?_
        refine lv_iconst (v := 1) hx hb dX8_spoil_48 (by decide) ?_
        refine lv_isub hx hb dX8_spoil_49 ?_
        refine lv_topi (fun x5_50 ex5_50 => ?_)
        refine lv_istore (lv' := [(5, .int x5_50), (0, .ref (E.1 + 580)), (1, .int t), (2, .int k), (3, .int i), (4, .int x)]) hx hb dX8_spoil_50 hl (by decide) rfl (fun ls hl => ?_)
        refine lv_iload_n hx hb dX8_spoil_52 rfl (lv_at hl 4 rfl) ?_
        refine lv_iconst (v := 0) hx hb dX8_spoil_53 (by decide) ?_
        refine lv_iload_n hx hb dX8_spoil_54 rfl (lv_at hl 3 rfl) ?_
        refine lv_if_ne (tgt := 63) hx hb dX8_spoil_55 (by decide) (fun c_55 => ?_) (fun c_55 => ?_)
        · have k1 : 1 ≤ rj k := Nat.one_le_iff_ne_zero.mpr (fun q => c_55 (by rw [enk, q]; rfl))
          have hj9 : rj k - 1 < T.2.2.length := by omega
          have hm := htk.2.2.2.2 _ hj9
          have ho9 := hok.2.2.2 _ hj9
          have hk9 := rj_sub enk (a := 1) k1 (by omega) (x := 1) rfl
          have hi9 : 10 * rj t + rj k - 1 = 10 * rj t + (rj k - 1) := by omega
          refine lv_aload_n hx hb dX8_spoil_63 rfl (lv_at hl 1 rfl) ?_
          refine w_gr 8 25 600 (T := TX8) (N := 42) hx hb hts inw8 hown hK.1 hM (by decide) (by decide) (by decide) (by decide) (by decide) rfl (by decide) k72 rfl dX8_spoil_64 ?_
          refine lv_iload hx hb dX8_spoil_67 (lv_at hl 0 rfl) ?_
          have i_69 : (x5_50 : Int32) = nI (((10 * (rj t)) + (rj k)) - 1) := (ex5_50.trans (nSub rfl rfl (by omega)))
          refine w_ild (N := 90) hx hb hK.1 hM (by decide) (by decide) (by decide) (by rw [i_69]; exact vp_in_nI (by omega) (by omega)) dX8_spoil_69 ?_
          have j_69 : x5_50.toNatClampNeg = ((10 * (rj t)) + (rj k)) - 1 := (congrArg Int32.toNatClampNeg i_69).trans (nI_clamp (by omega))
          have q : (V2 600 x5_50.toNatClampNeg : Int32) = V2 600 (((10 * (rj t)) + (rj k)) - 1) := by rw [j_69]
          refine lv_eqi q ?_
          have q : (V2 600 (((10 * (rj t)) + (rj k)) - 1) : Int32) = nI (T.2.2.getD (rj k - 1) lz).1.length := by rw [hi9]; exact hm.1
          refine lv_eqi q ?_
          refine lv_iconst (v := 1) hx hb dX8_spoil_70 (by decide) ?_
          refine lv_isub hx hb dX8_spoil_71 ?_
          refine w_cSi (As := [.int i, .int 0, .int ((nI (T.2.2.getD (rj k - 1) lz).1.length) - 1)]) (rest := []) ⟨hx, hb, hml, hown, hts⟩ (c_X8_within l i 0 ((nI (T.2.2.getD (rj k - 1) lz).1.length) - 1)) (va_cwS 3 hts gX8_spoil_X8_within rfl rfl rfl (by decide +kernel) ⟨Nat.le_of_ble_eq_true rfl, Nat.le_of_ble_eq_true rfl⟩) hM hK hS rfl hl.1 rfl (lv_room (Nat.le_of_ble_eq_true rfl)) dX8_spoil_72 ⟨Nat.le_of_ble_eq_true rfl, Nat.le_of_ble_eq_true rfl⟩ (fun r72 V72 H locs hp72 hM hS => ?_)
          obtain ⟨er72, eV⟩ := hp72
          rw [eV] at hM; clear eV
          refine lv_if_ne (tgt := 81) hx hb dX8_spoil_75 (by decide) (fun c_75 => ?_) (fun c_75 => ?_)
          · have i4 := b2i_ne0 (show ¬ b2i (inR i 0 _) = 0 by rw [← er72]; exact c_75)
            refine lv_iload_n hx hb dX8_spoil_81 rfl (lv_at hl 3 rfl) ?_
            refine lv_if_ne (tgt := 113) hx hb dX8_spoil_82 (by decide) (fun c_82 => ?_) (fun c_82 => ?_)
            · have h60 := ho9.2.1
              have i5 : has (T.2.2.getD (rj k - 1) lz).1 i = true := by rw [← inR_has (by omega)]; exact i4
              obtain ⟨hji, eni⟩ := has_j i5 (by omega)
              refine lv_aload_n hx hb dX8_spoil_113 rfl (lv_at hl 1 rfl) ?_
              refine w_gr 8 26 601 (T := TX8) (N := 42) hx hb hts inw8 hown hK.1 hM (by decide) (by decide) (by decide) (by decide) (by decide) rfl (by decide) k75 rfl dX8_spoil_114 ?_
              refine lv_bipush (v := 60) hx hb dX8_spoil_117 (by decide) ?_
              refine lv_iload hx hb dX8_spoil_119 (lv_at hl 0 rfl) ?_
              refine lv_imul hx hb dX8_spoil_121 ?_
              have q : (60 * x5_50 : Int32) = nI (60 * (((10 * (rj t)) + (rj k)) - 1)) := (nMul rfl (ex5_50.trans (nSub rfl rfl (by omega))))
              refine lv_eqi q ?_
              refine lv_iload_n hx hb dX8_spoil_122 rfl (lv_at hl 4 rfl) ?_
              refine lv_iadd hx hb dX8_spoil_123 ?_
              have q : ((nI (60 * (((10 * (rj t)) + (rj k)) - 1))) + i : Int32) = nI ((60 * (((10 * (rj t)) + (rj k)) - 1)) + (rj i)) := (nAdd rfl eni)
              refine lv_eqi q ?_
              refine lv_dup2_11 hx hb dX8_spoil_124 rfl rfl ?_
              have i_125 : (nI ((60 * (((10 * (rj t)) + (rj k)) - 1)) + (rj i)) : Int32) = nI ((60 * (((10 * (rj t)) + (rj k)) - 1)) + (rj i)) := rfl
              refine w_ild (N := 5400) hx hb hK.1 hM (by decide) (by decide) (by decide) (by rw [i_125]; exact vp_in_nI (by omega) (by omega)) dX8_spoil_125 ?_
              have j_125 : (nI ((60 * (((10 * (rj t)) + (rj k)) - 1)) + (rj i))).toNatClampNeg = (60 * (((10 * (rj t)) + (rj k)) - 1)) + (rj i) := (congrArg Int32.toNatClampNeg i_125).trans (nI_clamp (by omega))
              have q : (V2 601 (nI ((60 * (((10 * (rj t)) + (rj k)) - 1)) + (rj i))).toNatClampNeg : Int32) = V2 601 ((60 * (((10 * (rj t)) + (rj k)) - 1)) + (rj i)) := by rw [j_125]
              refine lv_eqi q ?_
              have q : (V2 601 ((60 * (((10 * (rj t)) + (rj k)) - 1)) + (rj i)) : Int32) = (T.2.2.getD (rj k - 1) lz).1.getD (rj i) 0 := by rw [hi9]; exact hm.2.1 _ hji
              refine lv_eqi q ?_
              refine lv_iload hx hb dX8_spoil_126 (lv_at hl 5 rfl) ?_
              refine lv_ixor hx hb dX8_spoil_128 ?_
              have i_129 : (nI ((60 * (((10 * (rj t)) + (rj k)) - 1)) + (rj i)) : Int32) = nI ((60 * (((10 * (rj t)) + (rj k)) - 1)) + (rj i)) := rfl
              have j_129 : (nI ((60 * (((10 * (rj t)) + (rj k)) - 1)) + (rj i))).toNatClampNeg = (60 * (((10 * (rj t)) + (rj k)) - 1)) + (rj i) := (congrArg Int32.toNatClampNeg i_129).trans (nI_clamp (by omega))
              refine w_ist (N := 5400) hx hb hK.1 hM hS (by decide) (by decide) (by decide) (by rw [i_129]; exact vp_in_nI (by omega) (by omega)) dX8_spoil_129 (fun H locs hM hS => ?_)
              rw [j_129] at hM
              generalize hV129 : up2 V2 601 ((60 * (((10 * (rj t)) + (rj k)) - 1)) + (rj i)) (((T.2.2.getD (rj k - 1) lz).1.getD (rj i) 0) ^^^ x) = V129 at hM
              refine lv_aload_n hx hb dX8_spoil_130 rfl (lv_at hl 1 rfl) ?_
              refine w_gr 8 26 601 (T := TX8) (N := 42) hx hb hts inw8 hown hK.1 hM (by decide) (by decide) (by decide) (by decide) (by decide) rfl (by decide) k75 rfl dX8_spoil_131 ?_
              refine lv_bipush (v := 60) hx hb dX8_spoil_134 (by decide) ?_
              refine lv_iload hx hb dX8_spoil_136 (lv_at hl 0 rfl) ?_
              refine lv_imul hx hb dX8_spoil_138 ?_
              have q : (60 * x5_50 : Int32) = nI (60 * (((10 * (rj t)) + (rj k)) - 1)) := (nMul rfl (ex5_50.trans (nSub rfl rfl (by omega))))
              refine lv_eqi q ?_
              refine lv_iload_n hx hb dX8_spoil_139 rfl (lv_at hl 4 rfl) ?_
              refine lv_iadd hx hb dX8_spoil_140 ?_
              have q : ((nI (60 * (((10 * (rj t)) + (rj k)) - 1))) + i : Int32) = nI ((60 * (((10 * (rj t)) + (rj k)) - 1)) + (rj i)) := (nAdd rfl eni)
              refine lv_eqi q ?_
              have i_141 : (nI ((60 * (((10 * (rj t)) + (rj k)) - 1)) + (rj i)) : Int32) = nI ((60 * (((10 * (rj t)) + (rj k)) - 1)) + (rj i)) := rfl
              refine w_ild (N := 5400) hx hb hK.1 hM (by decide) (by decide) (by decide) (by rw [i_141]; exact vp_in_nI (by omega) (by omega)) dX8_spoil_141 ?_
              have j_141 : (nI ((60 * (((10 * (rj t)) + (rj k)) - 1)) + (rj i))).toNatClampNeg = (60 * (((10 * (rj t)) + (rj k)) - 1)) + (rj i) := (congrArg Int32.toNatClampNeg i_141).trans (nI_clamp (by omega))
              have q : (V129 601 (nI ((60 * (((10 * (rj t)) + (rj k)) - 1)) + (rj i))).toNatClampNeg : Int32) = V129 601 ((60 * (((10 * (rj t)) + (rj k)) - 1)) + (rj i)) := by rw [j_141]
              refine lv_eqi q ?_
              have q : (V129 601 ((60 * (((10 * (rj t)) + (rj k)) - 1)) + (rj i)) : Int32) = (T.2.2.getD (rj k - 1) lz).1.getD (rj i) 0 ^^^ x := by rw [← hV129, up2_s]
              refine lv_eqi q ?_
              have hpost : (fun v V' => v = (opSpoil σ t k i x).1 ∧ repM V' (opSpoil σ t k i x).2 ∧ frC V V') ((T.2.2.getD (rj k - 1) lz).1.getD (rj i) 0 ^^^ x) V129 := by
                have hy : 0 ≤ (T.2.2.getD (rj k - 1) lz).1.getD (rj i) 0 ^^^ x := xor_ok (ho9.2.2.2.1.gd _) (by rw [enx]; exact nI_pos' (by omega))
                have h9 := hC2.txt1 ht hTt hj9 hji hy (show up2 V2 601 (60 * (10 * rj t + (rj k - 1)) + rj i) _ = V129 from by rw [← hi9]; exact hV129)
                have hq : opSpoil σ t k i x = ((T.2.2.getD (rj k - 1) lz).1.getD (rj i) 0 ^^^ x, sTok σ (rj t) (some (T.1, T.2.1, T.2.2.set (rj k - 1) ((T.2.2.getD (rj k - 1) lz).1.set (rj i) ((T.2.2.getD (rj k - 1) lz).1.getD (rj i) 0 ^^^ x), (T.2.2.getD (rj k - 1) lz).2)))) := by simp only [opSpoil, hT, i2, i3, Bool.and_self, if_true]; rw [if_neg c_82, hk9.2, if_pos i5]
                rw [hq]; exact ⟨rfl, h9.1, fC2.trans h9.2⟩
              exact w_iret V129 hx hb hret hK hS hM (hpost) hlocks dX8_spoil_142
            · exact absurd c_82 c_55
          · have i4 := b2i_eq0 (show b2i (inR i 0 _) = 0 by rw [← er72]; exact c_75)
            refine lv_bipush (v := (-2)) hx hb dX8_spoil_78 (by decide) ?_
            have hpost : (fun v V' => v = (opSpoil σ t k i x).1 ∧ repM V' (opSpoil σ t k i x).2 ∧ frC V V') (-2) V2 := by
              have hq : opSpoil σ t k i x = (-2, σ) := by
                simp only [opSpoil, hT, i2, i3, Bool.and_self, if_true]
                first | (have j9 : has T.2.1 i = false := (by rw [← inR_has (by omega), hs32]; exact i4); rw [if_pos k0, j9]; rfl) | (rw [if_neg c_55, hk9.2]; have j9 : has (T.2.2.getD (rj k - 1) lz).1 i = false := (by have := ho9.2.1; rw [← inR_has (by omega)]; exact i4); rw [j9]; rfl)
              rw [hq]; exact ⟨rfl, hC2, fC2⟩
            exact w_iret V2 hx hb hret hK hS hM (hpost) hlocks dX8_spoil_80
        · have k0 : k = 0 := c_55
          refine lv_bipush (v := 32) hx hb dX8_spoil_58 (by decide) ?_
          refine lv_goto (tgt := 70) hx hb dX8_spoil_60 (by decide) ?_
          refine lv_iconst (v := 1) hx hb dX8_spoil_70 (by decide) ?_
          refine lv_isub hx hb dX8_spoil_71 ?_
          refine w_cSi (As := [.int i, .int 0, .int (32 - 1)]) (rest := []) ⟨hx, hb, hml, hown, hts⟩ (c_X8_within l i 0 (32 - 1)) (va_cwS 3 hts gX8_spoil_X8_within rfl rfl rfl (by decide +kernel) ⟨Nat.le_of_ble_eq_true rfl, Nat.le_of_ble_eq_true rfl⟩) hM hK hS rfl hl.1 rfl (lv_room (Nat.le_of_ble_eq_true rfl)) dX8_spoil_72 ⟨Nat.le_of_ble_eq_true rfl, Nat.le_of_ble_eq_true rfl⟩ (fun r72 V72 H locs hp72 hM hS => ?_)
          obtain ⟨er72, eV⟩ := hp72
          rw [eV] at hM; clear eV
          refine lv_if_ne (tgt := 81) hx hb dX8_spoil_75 (by decide) (fun c_75 => ?_) (fun c_75 => ?_)
          · have i4 := b2i_ne0 (show ¬ b2i (inR i 0 _) = 0 by rw [← er72]; exact c_75)
            refine lv_iload_n hx hb dX8_spoil_81 rfl (lv_at hl 3 rfl) ?_
            refine lv_if_ne (tgt := 113) hx hb dX8_spoil_82 (by decide) (fun c_82 => ?_) (fun c_82 => ?_)
            · exact absurd k0 c_82
            · have i5 : has T.2.1 i = true := by rw [← inR_has (by omega), hs32]; exact i4
              obtain ⟨hji, eni⟩ := has_j i5 (by omega)
              refine lv_aload_n hx hb dX8_spoil_85 rfl (lv_at hl 1 rfl) ?_
              refine w_gr 8 29 604 (T := TX8) (N := 42) hx hb hts inw8 hown hK.1 hM (by decide) (by decide) (by decide) (by decide) (by decide) rfl (by decide) k84 rfl dX8_spoil_86 ?_
              refine lv_bipush (v := 32) hx hb dX8_spoil_89 (by decide) ?_
              refine lv_iload_n hx hb dX8_spoil_91 rfl (lv_at hl 2 rfl) ?_
              refine lv_imul hx hb dX8_spoil_92 ?_
              have q : (32 * t : Int32) = nI (32 * (rj t)) := (nMul rfl et)
              refine lv_eqi q ?_
              refine lv_iload_n hx hb dX8_spoil_93 rfl (lv_at hl 4 rfl) ?_
              refine lv_iadd hx hb dX8_spoil_94 ?_
              have q : ((nI (32 * (rj t))) + i : Int32) = nI ((32 * (rj t)) + (rj i)) := (nAdd rfl eni)
              refine lv_eqi q ?_
              refine lv_dup2_11 hx hb dX8_spoil_95 rfl rfl ?_
              have i_96 : (nI ((32 * (rj t)) + (rj i)) : Int32) = nI ((32 * (rj t)) + (rj i)) := rfl
              refine w_ild (N := 288) hx hb hK.1 hM (by decide) (by decide) (by decide) (by rw [i_96]; exact vp_in_nI (by omega) (by omega)) dX8_spoil_96 ?_
              have j_96 : (nI ((32 * (rj t)) + (rj i))).toNatClampNeg = (32 * (rj t)) + (rj i) := (congrArg Int32.toNatClampNeg i_96).trans (nI_clamp (by omega))
              have q : (V2 604 (nI ((32 * (rj t)) + (rj i))).toNatClampNeg : Int32) = V2 604 ((32 * (rj t)) + (rj i)) := by rw [j_96]
              refine lv_eqi q ?_
              have q : (V2 604 ((32 * (rj t)) + (rj i)) : Int32) = T.2.1.getD (rj i) 0 := htk.2.2.2.1 _ hji
              refine lv_eqi q ?_
              refine lv_iload hx hb dX8_spoil_97 (lv_at hl 5 rfl) ?_
              refine lv_ixor hx hb dX8_spoil_99 ?_
              have i_100 : (nI ((32 * (rj t)) + (rj i)) : Int32) = nI ((32 * (rj t)) + (rj i)) := rfl
              have j_100 : (nI ((32 * (rj t)) + (rj i))).toNatClampNeg = (32 * (rj t)) + (rj i) := (congrArg Int32.toNatClampNeg i_100).trans (nI_clamp (by omega))
              refine w_ist (N := 288) hx hb hK.1 hM hS (by decide) (by decide) (by decide) (by rw [i_100]; exact vp_in_nI (by omega) (by omega)) dX8_spoil_100 (fun H locs hM hS => ?_)
              rw [j_100] at hM
              generalize hV100 : up2 V2 604 ((32 * (rj t)) + (rj i)) ((T.2.1.getD (rj i) 0) ^^^ x) = V100 at hM
              refine lv_aload_n hx hb dX8_spoil_101 rfl (lv_at hl 1 rfl) ?_
              refine w_gr 8 29 604 (T := TX8) (N := 42) hx hb hts inw8 hown hK.1 hM (by decide) (by decide) (by decide) (by decide) (by decide) rfl (by decide) k84 rfl dX8_spoil_102 ?_
              refine lv_bipush (v := 32) hx hb dX8_spoil_105 (by decide) ?_
              refine lv_iload_n hx hb dX8_spoil_107 rfl (lv_at hl 2 rfl) ?_
              refine lv_imul hx hb dX8_spoil_108 ?_
              have q : (32 * t : Int32) = nI (32 * (rj t)) := (nMul rfl et)
              refine lv_eqi q ?_
              refine lv_iload_n hx hb dX8_spoil_109 rfl (lv_at hl 4 rfl) ?_
              refine lv_iadd hx hb dX8_spoil_110 ?_
              have q : ((nI (32 * (rj t))) + i : Int32) = nI ((32 * (rj t)) + (rj i)) := (nAdd rfl eni)
              refine lv_eqi q ?_
              have i_111 : (nI ((32 * (rj t)) + (rj i)) : Int32) = nI ((32 * (rj t)) + (rj i)) := rfl
              refine w_ild (N := 288) hx hb hK.1 hM (by decide) (by decide) (by decide) (by rw [i_111]; exact vp_in_nI (by omega) (by omega)) dX8_spoil_111 ?_
              have j_111 : (nI ((32 * (rj t)) + (rj i))).toNatClampNeg = (32 * (rj t)) + (rj i) := (congrArg Int32.toNatClampNeg i_111).trans (nI_clamp (by omega))
              have q : (V100 604 (nI ((32 * (rj t)) + (rj i))).toNatClampNeg : Int32) = V100 604 ((32 * (rj t)) + (rj i)) := by rw [j_111]
              refine lv_eqi q ?_
              have q : (V100 604 ((32 * (rj t)) + (rj i)) : Int32) = T.2.1.getD (rj i) 0 ^^^ x := by rw [← hV100, up2_s]
              refine lv_eqi q ?_
              have hpost : (fun v V' => v = (opSpoil σ t k i x).1 ∧ repM V' (opSpoil σ t k i x).2 ∧ frC V V') (T.2.1.getD (rj i) 0 ^^^ x) V100 := by
                have hy : 0 ≤ T.2.1.getD (rj i) 0 ^^^ x := xor_ok (hok.2.1.2.gd _) (by rw [enx]; exact nI_pos' (by omega))
                have h9 := hC2.sgn1 ht hTt (by omega) hy hV100
                have hq : opSpoil σ t k i x = (T.2.1.getD (rj i) 0 ^^^ x, sTok σ (rj t) (some (T.1, T.2.1.set (rj i) (T.2.1.getD (rj i) 0 ^^^ x), T.2.2))) := by simp only [opSpoil, hT, i2, i3, Bool.and_self, if_true]; rw [if_pos c_82, if_pos i5]
                rw [hq]; exact ⟨rfl, h9.1, fC2.trans h9.2⟩
              exact w_iret V100 hx hb hret hK hS hM (hpost) hlocks dX8_spoil_112
          · have i4 := b2i_eq0 (show b2i (inR i 0 _) = 0 by rw [← er72]; exact c_75)
            refine lv_bipush (v := (-2)) hx hb dX8_spoil_78 (by decide) ?_
            have hpost : (fun v V' => v = (opSpoil σ t k i x).1 ∧ repM V' (opSpoil σ t k i x).2 ∧ frC V V') (-2) V2 := by
              have hq : opSpoil σ t k i x = (-2, σ) := by
                simp only [opSpoil, hT, i2, i3, Bool.and_self, if_true]
                first | (have j9 : has T.2.1 i = false := (by rw [← inR_has (by omega), hs32]; exact i4); rw [if_pos k0, j9]; rfl) | (rw [if_neg c_55, hk9.2]; have j9 : has (T.2.2.getD (rj k - 1) lz).1 i = false := (by have := ho9.2.1; rw [← inR_has (by omega)]; exact i4); rw [j9]; rfl)
              rw [hq]; exact ⟨rfl, hC2, fC2⟩
            exact w_iret V2 hx hb hret hK hS hM (hpost) hlocks dX8_spoil_80
      · have i3 : inR x 0 255 = false := b2i_eq0 (by rw [← er33]; exact c_36)
        refine lv_bipush (v := (-2)) hx hb dX8_spoil_39 (by decide) ?_
        have hpost : (fun v V' => v = (opSpoil σ t k i x).1 ∧ repM V' (opSpoil σ t k i x).2 ∧ frC V V') (-2) V2 := by
          have ib : thr σ t = none ∨ ∃ T, thr σ t = some T ∧ (inR k 0 (nI T.2.2.length) && inR x 0 255) = false := by first | exact Or.inl hN | (right; exact ⟨T, hT, by rw [i3, Bool.and_false]⟩) | (right; exact ⟨T, hT, by rw [i2, Bool.false_and]⟩)
          have hq : opSpoil σ t k i x = (-2, σ) := by rcases ib with q | ⟨T9, q1, q2⟩; (simp [opSpoil, q]); (simp only [opSpoil, q1, q2]; rfl)
          rw [hq]; exact ⟨rfl, hC2, fC2⟩
        exact w_iret V2 hx hb hret hK hS hM (hpost) hlocks dX8_spoil_41
