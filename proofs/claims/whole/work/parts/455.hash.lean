-- needs: 44 450 451 452 453 454
set_option maxHeartbeats 4000000 in
set_option maxRecDepth 100000 in
theorem c_X8_hashNow (l : Launch) {E : En} {V : Vt} (hA : ∀ i, i < 64 → V 582 i = cuT.getD i 0) (hB : ∀ i, i < 8 → V 581 i = sqT.getD i 0) {l0 : List Int32} (hu : buf V 7 586 l0) (hl0 : l0.length ≤ 300) : CV l yX8_hashNow wsX8_hashNow 2 E V [.ref (E.1 + 580)] (fun V' => seg V' 587 0 (sha l0) ∧ buf V' 7 586 [] ∧ (∀ k, (k < 583 ∨ 587 < k) → k ≠ 580 → V' k = V k) ∧ ∀ i, i ≠ 7 → V' 580 i = V 580 i) := by
  refine Met.ofW (cc := cX8_hashNow) (maxL := 5) (ret := none) (by decide) rfl ?_
  intro p e s m args below meth c s₁ B hml hv
  obtain ⟨rfl, hM, hK⟩ := hv
  have hx := B.exec
  have hb := B.bytes
  have hret := B.returns
  have hts := atoms_spec (ws := wsX8_hashNow) B.pre
  have hown : s.vm.findClass RX8 = some m.cls := findClass_of_methodNamed B.named
  have hlocks := B.notSynchronized
  have hsz : s.heap.size = E.1 + 610 := hM.1
  have hS : va_S (AE E) s.heap s.heap [] := va_S.rf
  have in8 : ∀ w ∈ u_ws RX8 TX8 42, w ∈ wsX8_hashNow := by decide +kernel
  have k126 := hts (.fieldLink RX8 126 "LimitTokensModel" "inSize" "I") (by decide +kernel)
  have k25 := hts (.fieldLink RX8 25 "LimitTokensModel" "in" "[I") (by decide +kernel)
  have k28 := hts (.fieldLink RX8 28 "LimitTokensModel" "hashed" "[I") (by decide +kernel)
  have k16 := hts (.fieldLink RX8 16 "LimitTokensModel" "h" "[I") (by decide +kernel)
  have k19 := hts (.fieldLink RX8 19 "LimitTokensModel" "w" "[I") (by decide +kernel)
  have k7 := hts (.fieldLink RX8 7 "LimitTokensModel" "starts" "[I") (by decide +kernel)
  have hl := lv_entry ([.ref (E.1 + 580)]) (n := 5) (Nat.le_of_ble_eq_true rfl)
  rw [lg_entry_eq]
  generalize (lg_sl ([.ref (E.1 + 580)]) ++ List.replicate (5 - (lg_sl ([.ref (E.1 + 580)])).length) Slot.unset).toArray = ls at hl ⊢
  have hl : lv_has ls 5 [(0, .ref (E.1 + 580))] := hl
  have hzd : zN l0.length = (120 - (l0.length + 1) % 64) % 64 := rfl
  refine lv_bipush (v := 8) hx hb dX8_hashNow_0 (by decide) ?_
  refine lv_aload_n hx hb dX8_hashNow_2 rfl (lv_at hl 0 rfl) ?_
  refine w_gi 8 7 (T := TX8) (N := 42) hx hb hts in8 hown hK.1 hM (by decide) (by decide) (by decide) (by decide) (by decide) rfl (by decide) k126 rfl dX8_hashNow_3 ?_
  have q : (V 580 7 : Int32) = nI l0.length := hu.1
  refine lv_eqi q ?_
  refine lv_imul hx hb dX8_hashNow_6 ?_
  refine lv_topi (fun x1_7 ex1_7 => ?_)
  refine lv_istore_n (lv' := [(1, .int x1_7), (0, .ref (E.1 + 580))]) hx hb dX8_hashNow_7 rfl hl (by decide) rfl (fun ls hl => ?_)
  have hx17 : x1_7 = nI (8 * l0.length) := ex1_7.trans (nMul rfl rfl)
  refine lv_aload_n hx hb dX8_hashNow_8 rfl (lv_at hl 1 rfl) ?_
  refine w_gr 8 6 586 (T := TX8) (N := 42) hx hb hts in8 hown hK.1 hM (by decide) (by decide) (by decide) (by decide) (by decide) rfl (by decide) k25 rfl dX8_hashNow_9 ?_
  refine lv_aload_n hx hb dX8_hashNow_12 rfl (lv_at hl 1 rfl) ?_
  refine w_gi 8 7 (T := TX8) (N := 42) hx hb hts in8 hown hK.1 hM (by decide) (by decide) (by decide) (by decide) (by decide) rfl (by decide) k126 rfl dX8_hashNow_13 ?_
  have q : (V 580 7 : Int32) = nI l0.length := hu.1
  refine lv_eqi q ?_
  refine lv_sipush (v := 128) hx hb dX8_hashNow_16 (by decide) ?_
  have i_19 : (nI l0.length : Int32) = nI (l0.length) := rfl
  have j_19 : (nI l0.length).toNatClampNeg = l0.length := by rw [i_19, nI_clamp (by omega)]
  refine w_ist (N := 400) hx hb hK.1 hM hS (by decide) (by decide) (by decide) (by rw [i_19]; exact vp_in_nI (by omega) (by omega)) dX8_hashNow_19 (fun H locs hM hS => ?_)
  rw [j_19] at hM
  generalize hV19 : up2 V 586 l0.length 128 = V19 at hM
  refine lv_aload_n hx hb dX8_hashNow_20 rfl (lv_at hl 1 rfl) ?_
  refine lv_dup hx hb dX8_hashNow_21 rfl ?_
  refine w_gi 8 7 (T := TX8) (N := 42) hx hb hts in8 hown hK.1 hM (by decide) (by decide) (by decide) (by decide) (by decide) rfl (by decide) k126 rfl dX8_hashNow_22 ?_
  have q : (V19 580 7 : Int32) = nI l0.length := by rw [← hV19, up2_k _ _ (by omega)]; exact hu.1
  refine lv_eqi q ?_
  refine lv_iconst (v := 1) hx hb dX8_hashNow_25 (by decide) ?_
  refine lv_iadd hx hb dX8_hashNow_26 ?_
  refine w_pi 8 7 (T := TX8) (N := 42) hx hb hts in8 tyX8 tyX8_ok nmX8 hown hK.1 hM hS (by decide) (by decide) (by decide) (by decide) (by decide) rfl (by decide) k126 rfl rfl rfl rfl dX8_hashNow_27 (fun H locs hM hS => ?_)
  generalize hV27 : up2 V19 580 7 ((nI l0.length) + 1) = V27 at hM
  have p27 := hu.push (by decide) rfl hV19 hV27 (nI_1 _)
  have loop30 : ∀ (fu : Nat) (Vz : Vt) (H : Heap) (locs : List Loc) (ls : Array Slot) (z : Nat) (hzl : z ≤ zN l0.length) (hz : buf Vz 7 586 ((l0 ++ [128]) ++ List.replicate z 0)) (hfz : frF V Vz 7 586), 64 - z < fu → Wd E Vz H → va_S (AE E) s.heap H locs → lv_has ls 5 [(0, .ref (E.1 + 580)), (1, .int x1_7)] → W p l e (headSpec wsX8_hashNow (rmD 2)).room s m ([.ref (E.1 + 580)] : List Value).toArray below meth c H locs 0 0 (MQ below (QV E (fun V' => Wd E V') (fun V' => seg V' 587 0 (sha l0) ∧ buf V' 7 586 [] ∧ (∀ k, (k < 583 ∨ 587 < k) → k ≠ 580 → V' k = V k) ∧ ∀ i, i ≠ 7 → V' 580 i = V 580 i)) ([.ref (E.1 + 580)] : List Value).toArray s 0 0 (AE E)) (F0 m 30 ls []) := by
    intro fu
    induction fu with
    | zero => intros; omega
    | succ fu ih30 =>
      intro Vz H locs ls z hzl hz hfz hfu hM hS hl
      have hlz : ((l0 ++ [128]) ++ List.replicate z 0).length = l0.length + 1 + z := by simp; omega
      refine lv_aload_n hx hb dX8_hashNow_30 rfl (lv_at hl 0 rfl) ?_
      refine w_gi 8 7 (T := TX8) (N := 42) hx hb hts in8 hown hK.1 hM (by decide) (by decide) (by decide) (by decide) (by decide) rfl (by decide) k126 rfl dX8_hashNow_31 ?_
      have q : (Vz 580 7 : Int32) = nI (l0.length + 1 + z) := (by rw [hz.1, hlz])
      refine lv_eqi q ?_
      refine lv_bipush (v := 64) hx hb dX8_hashNow_34 (by decide) ?_
      refine lv_irem hx hb dX8_hashNow_36 (by decide) ?_
      refine lv_bipush (v := 56) hx hb dX8_hashNow_37 (by decide) ?_
      refine lv_icmp_eq (tgt := 65) hx hb dX8_hashNow_39 (by decide) (fun c_39 => ?_) (fun c_39 => ?_)
      · have n_39 : ((l0.length + 1 + z) % 64) = 56 := (nEq (a := ((l0.length + 1 + z) % 64)) (b := 56) (nRem rfl rfl (by omega) (by omega) (by omega)) rfl (by omega) (by omega)).mp c_39
        refine lv_iconst (v := 0) hx hb dX8_hashNow_65 (by decide) ?_
        refine lv_istore_n (lv' := [(2, .int 0), (0, .ref (E.1 + 580)), (1, .int x1_7)]) hx hb dX8_hashNow_66 rfl hl (by decide) rfl (fun ls hl => ?_)
        have loop67 : ∀ (fu : Nat) (Vb : Vt) (H : Heap) (locs : List Loc) (ls : Array Slot) (j : Nat) (hj : j ≤ 8) (hw : buf Vb 7 586 (((l0 ++ [128]) ++ List.replicate (zN l0.length) 0) ++ (w4 0 ++ w4 x1_7).take j)) (hfb : frF V Vb 7 586), 8 - j < fu → Wd E Vb H → va_S (AE E) s.heap H locs → lv_has ls 5 [(0, .ref (E.1 + 580)), (1, .int x1_7), (2, .int (nI j))] → W p l e (headSpec wsX8_hashNow (rmD 2)).room s m ([.ref (E.1 + 580)] : List Value).toArray below meth c H locs 0 0 (MQ below (QV E (fun V' => Wd E V') (fun V' => seg V' 587 0 (sha l0) ∧ buf V' 7 586 [] ∧ (∀ k, (k < 583 ∨ 587 < k) → k ≠ 580 → V' k = V k) ∧ ∀ i, i ≠ 7 → V' 580 i = V 580 i)) ([.ref (E.1 + 580)] : List Value).toArray s 0 0 (AE E)) (F0 m 67 ls []) := by
          intro fu
          induction fu with
          | zero => intros; omega
          | succ fu ih67 =>
            intro Vb H locs ls j hj hw hfb hfu hM hS hl
            have hlb : (((l0 ++ [128]) ++ List.replicate (zN l0.length) 0) ++ (w4 0 ++ w4 x1_7).take j).length = l0.length + 1 + zN l0.length + j := by simp [w4_len]; omega
            refine lv_iload_n hx hb dX8_hashNow_67 rfl (lv_at hl 2 rfl) ?_
            refine lv_bipush (v := 8) hx hb dX8_hashNow_68 (by decide) ?_
            refine lv_icmp_ge (tgt := 120) hx hb dX8_hashNow_70 (by decide) (fun c_70 => ?_) (fun c_70 => ?_)
            · have n_70 : 8 ≤ j := (nLe (a := 8) (b := j) rfl rfl (by omega) (by omega)).mp c_70
              have hlp := padL_len l0
              have hPd : buf Vb 7 586 (padL l0) := by rw [← pad_eq hx17]; rw [List.take_of_length_le (by simp [w4_len]; omega), ← List.append_assoc] at hw; exact hw
              refine lv_iconst (v := 0) hx hb dX8_hashNow_120 (by decide) ?_
              refine lv_istore_n (lv' := [(2, .int 0), (0, .ref (E.1 + 580)), (1, .int x1_7)]) hx hb dX8_hashNow_121 rfl hl (by decide) rfl (fun ls hl => ?_)
              have loop122 : ∀ (fu : Nat) (Vs : Vt) (H : Heap) (locs : List Loc) (ls : Array Slot) (k0 : Nat) (hk0 : k0 ≤ 8) (hs : cpx Vs Vb 583 0 k0 (fun i => sqT.getD i 0)), 8 - k0 < fu → Wd E Vs H → va_S (AE E) s.heap H locs → lv_has ls 5 [(0, .ref (E.1 + 580)), (2, .int (nI k0))] → W p l e (headSpec wsX8_hashNow (rmD 2)).room s m ([.ref (E.1 + 580)] : List Value).toArray below meth c H locs 0 0 (MQ below (QV E (fun V' => Wd E V') (fun V' => seg V' 587 0 (sha l0) ∧ buf V' 7 586 [] ∧ (∀ k, (k < 583 ∨ 587 < k) → k ≠ 580 → V' k = V k) ∧ ∀ i, i ≠ 7 → V' 580 i = V 580 i)) ([.ref (E.1 + 580)] : List Value).toArray s 0 0 (AE E)) (F0 m 122 ls []) := by
                intro fu
                induction fu with
                | zero => intros; omega
                | succ fu ih122 =>
                  intro Vs H locs ls k0 hk0 hs hfu hM hS hl
                  refine lv_iload_n hx hb dX8_hashNow_122 rfl (lv_at hl 1 rfl) ?_
                  refine lv_bipush (v := 8) hx hb dX8_hashNow_123 (by decide) ?_
                  refine lv_icmp_ge (tgt := 146) hx hb dX8_hashNow_125 (by decide) (fun c_125 => ?_) (fun c_125 => ?_)
                  · have n_125 : 8 ≤ k0 := (nLe (a := 8) (b := k0) rfl rfl (by omega) (by omega)).mp c_125
                    refine lv_iconst (v := 0) hx hb dX8_hashNow_146 (by decide) ?_
                    refine lv_istore_n (lv' := [(2, .int 0), (0, .ref (E.1 + 580))]) hx hb dX8_hashNow_147 rfl hl (by decide) rfl (fun ls hl => ?_)
                    have loop148 : ∀ (fu : Nat) (Vk : Vt) (H : Heap) (locs : List Loc) (ls : Array Slot) (n : Nat) (hn : 64 * n ≤ (padL l0).length) (hP : buf Vk 7 586 (padL l0)) (hst : ∀ i, i < 8 → Vk 583 i = shaH (fL (padL l0)) n i) (hfk : ∀ k, (k < 583 ∨ 587 ≤ k) → k ≠ 580 → Vk k = V k) (hfi : ∀ i, i ≠ 7 → Vk 580 i = V 580 i), (padL l0).length - 64 * n < fu → Wd E Vk H → va_S (AE E) s.heap H locs → lv_has ls 5 [(0, .ref (E.1 + 580)), (2, .int (nI (64 * n)))] → W p l e (headSpec wsX8_hashNow (rmD 2)).room s m ([.ref (E.1 + 580)] : List Value).toArray below meth c H locs 0 0 (MQ below (QV E (fun V' => Wd E V') (fun V' => seg V' 587 0 (sha l0) ∧ buf V' 7 586 [] ∧ (∀ k, (k < 583 ∨ 587 < k) → k ≠ 580 → V' k = V k) ∧ ∀ i, i ≠ 7 → V' 580 i = V 580 i)) ([.ref (E.1 + 580)] : List Value).toArray s 0 0 (AE E)) (F0 m 148 ls []) := by
                      intro fu
                      induction fu with
                      | zero => intros; omega
                      | succ fu ih148 =>
                        intro Vk H locs ls n hn hP hst hfk hfi hfu hM hS hl
                        refine lv_iload_n hx hb dX8_hashNow_148 rfl (lv_at hl 1 rfl) ?_
                        refine lv_aload_n hx hb dX8_hashNow_149 rfl (lv_at hl 0 rfl) ?_
                        refine w_gi 8 7 (T := TX8) (N := 42) hx hb hts in8 hown hK.1 hM (by decide) (by decide) (by decide) (by decide) (by decide) rfl (by decide) k126 rfl dX8_hashNow_150 ?_
                        have q : (Vk 580 7 : Int32) = nI (padL l0).length := hP.1
                        refine lv_eqi q ?_
                        refine lv_icmp_ge (tgt := 239) hx hb dX8_hashNow_153 (by decide) (fun c_153 => ?_) (fun c_153 => ?_)
                        · have n_153 : ((padL l0).length) ≤ (64 * n) := (nLe (a := ((padL l0).length)) (b := (64 * n)) rfl rfl (by omega) (by omega)).mp c_153
                          have hst9 : ∀ i, i < 8 → Vk 583 i = shaH (fL (padL l0)) ((padL l0).length / 64) i := by rw [show (padL l0).length / 64 = n by omega]; exact hst
                          refine lv_iconst (v := 0) hx hb dX8_hashNow_239 (by decide) ?_
                          refine lv_istore_n (lv' := [(2, .int 0), (0, .ref (E.1 + 580))]) hx hb dX8_hashNow_240 rfl hl (by decide) rfl (fun ls hl => ?_)
                          have loop241 : ∀ (fu : Nat) (Vo : Vt) (H : Heap) (locs : List Loc) (ls : Array Slot) (o : Nat) (ho : o ≤ 32) (hO : cpx Vo Vk 587 0 o (fun i => (sha l0).getD i 0)), 32 - o < fu → Wd E Vo H → va_S (AE E) s.heap H locs → lv_has ls 5 [(0, .ref (E.1 + 580)), (2, .int (nI o))] → W p l e (headSpec wsX8_hashNow (rmD 2)).room s m ([.ref (E.1 + 580)] : List Value).toArray below meth c H locs 0 0 (MQ below (QV E (fun V' => Wd E V') (fun V' => seg V' 587 0 (sha l0) ∧ buf V' 7 586 [] ∧ (∀ k, (k < 583 ∨ 587 < k) → k ≠ 580 → V' k = V k) ∧ ∀ i, i ≠ 7 → V' 580 i = V 580 i)) ([.ref (E.1 + 580)] : List Value).toArray s 0 0 (AE E)) (F0 m 241 ls []) := by
                            intro fu
                            induction fu with
                            | zero => intros; omega
                            | succ fu ih241 =>
                              intro Vo H locs ls o ho hO hfu hM hS hl
                              refine lv_iload_n hx hb dX8_hashNow_241 rfl (lv_at hl 1 rfl) ?_
                              refine lv_bipush (v := 32) hx hb dX8_hashNow_242 (by decide) ?_
                              refine lv_icmp_ge (tgt := 280) hx hb dX8_hashNow_244 (by decide) (fun c_244 => ?_) (fun c_244 => ?_)
                              · have n_244 : 32 ≤ o := (nLe (a := 32) (b := o) rfl rfl (by omega) (by omega)).mp c_244
                                refine lv_aload_n hx hb dX8_hashNow_280 rfl (lv_at hl 0 rfl) ?_
                                refine lv_iconst (v := 0) hx hb dX8_hashNow_281 (by decide) ?_
                                refine w_pi 8 7 (T := TX8) (N := 42) hx hb hts in8 tyX8 tyX8_ok nmX8 hown hK.1 hM hS (by decide) (by decide) (by decide) (by decide) (by decide) rfl (by decide) k126 rfl rfl rfl rfl dX8_hashNow_282 (fun H locs hM hS => ?_)
                                generalize hV282 : up2 Vo 580 7 0 = V282 at hM
                                exact w_vret (free := AE E) V282 hx hb hret hK hS hM (⟨by subst hV282; exact seg.keep (hO.seg (by rw [sha_len]; omega) (fun _ _ => rfl)) (up2_k _ _ (by decide)), buf.nil hV282, fun k a b => by subst hV282; rw [up2_k _ _ b, hO.2.2 k (by omega)]; exact hfk k (by omega) b, fun i a => by subst hV282; rw [up2_o _ _ a, hO.2.2 580 (by decide)]; exact hfi i a⟩) hlocks dX8_hashNow_285
                              · have n_244 : ¬ 32 ≤ o := fun q9 => c_244 ((nLe (a := 32) (b := o) rfl rfl (by omega) (by omega)).mpr q9)
                                refine lv_aload_n hx hb dX8_hashNow_247 rfl (lv_at hl 0 rfl) ?_
                                refine w_gr 8 8 587 (T := TX8) (N := 42) hx hb hts in8 hown hK.1 hM (by decide) (by decide) (by decide) (by decide) (by decide) rfl (by decide) k28 rfl dX8_hashNow_248 ?_
                                refine lv_iload_n hx hb dX8_hashNow_251 rfl (lv_at hl 1 rfl) ?_
                                refine lv_aload_n hx hb dX8_hashNow_252 rfl (lv_at hl 0 rfl) ?_
                                refine w_gr 8 3 583 (T := TX8) (N := 42) hx hb hts in8 hown hK.1 hM (by decide) (by decide) (by decide) (by decide) (by decide) rfl (by decide) k16 rfl dX8_hashNow_253 ?_
                                refine lv_iload_n hx hb dX8_hashNow_256 rfl (lv_at hl 1 rfl) ?_
                                refine lv_iconst (v := 4) hx hb dX8_hashNow_257 (by decide) ?_
                                refine lv_idiv hx hb dX8_hashNow_258 (by decide) ?_
                                have i_259 : ((nI o) / 4 : Int32) = nI (o / 4) := (nDiv rfl rfl (by omega) (by omega) (by omega))
                                refine w_ild (N := 8) hx hb hK.1 hM (by decide) (by decide) (by decide) (by rw [i_259]; exact vp_in_nI (by omega) (by omega)) dX8_hashNow_259 ?_
                                have q : (Vo 583 ((nI o) / 4).toNatClampNeg : Int32) = Vo 583 (o / 4) := by rw [i_259, nI_clamp (by omega)]
                                refine lv_eqi q ?_
                                refine lv_bipush (v := 8) hx hb dX8_hashNow_260 (by decide) ?_
                                refine lv_iconst (v := 3) hx hb dX8_hashNow_262 (by decide) ?_
                                refine lv_iload_n hx hb dX8_hashNow_263 rfl (lv_at hl 1 rfl) ?_
                                refine lv_iconst (v := 4) hx hb dX8_hashNow_264 (by decide) ?_
                                refine lv_irem hx hb dX8_hashNow_265 (by decide) ?_
                                refine lv_isub hx hb dX8_hashNow_266 ?_
                                refine lv_imul hx hb dX8_hashNow_267 ?_
                                refine lv_iushr hx hb dX8_hashNow_268 rfl ?_
                                refine lv_sipush (v := 255) hx hb dX8_hashNow_269 (by decide) ?_
                                refine lv_iand hx hb dX8_hashNow_272 ?_
                                have i_273 : (nI o : Int32) = nI (o) := rfl
                                have j_273 : (nI o).toNatClampNeg = o := by rw [i_273, nI_clamp (by omega)]
                                refine w_ist (N := 32) hx hb hK.1 hM hS (by decide) (by decide) (by decide) (by rw [i_273]; exact vp_in_nI (by omega) (by omega)) dX8_hashNow_273 (fun H locs hM hS => ?_)
                                rw [j_273] at hM
                                generalize hV273 : up2 Vo 587 o ((((Vo 583 (o / 4)).toUInt32 >>> ((8 * (3 - ((nI o) - (nI o) / 4 * 4))).toUInt32 &&& Int32.toUInt32 31)).toInt32) &&& 255) = V273 at hM
                                obtain ⟨x2_274, ex2_274⟩ : ∃ y : Int32, y = (nI o) + 1 := ⟨_, rfl⟩
                                refine lv_iinc (v := x2_274) (lv' := [(2, .int x2_274), (0, .ref (E.1 + 580))]) hx hb dX8_hashNow_274 hl (k := 1) rfl (by rw [ex2_274]; rfl) (by decide) rfl (fun ls hl => ?_)
                                refine lv_goto (tgt := 241) hx hb dX8_hashNow_277 (by decide) ?_
                                rw [show x2_274 = nI (o + 1) from (ex2_274.trans (nAdd rfl rfl))] at hl
                                exact ih241 V273 _ _ _ (o + 1) (by omega) (hO.s hV273 (by omega) (by rw [hO.2.2 583 (by decide), nRem (y := 4) (a := o) (b := 4) rfl rfl (by omega) (by omega) (by omega)]; exact sha_gd l0 (by omega) hst9)) (by omega) hM hS (lv_sub hl [1, 0] rfl)
                          exact loop241 _ Vk _ _ _ 0 (Nat.zero_le _) (cpx.z _ _ _ _) (Nat.lt_succ_self _) hM hS (lv_sub hl [1, 0] rfl)
                        · have n_153 : ¬ ((padL l0).length) ≤ (64 * n) := fun q9 => c_153 ((nLe (a := ((padL l0).length)) (b := (64 * n)) rfl rfl (by omega) (by omega)).mpr q9)
                          have hlp2 := padL_mod l0
                          refine lv_iconst (v := 0) hx hb dX8_hashNow_156 (by decide) ?_
                          refine lv_istore_n (lv' := [(3, .int 0), (0, .ref (E.1 + 580)), (2, .int (nI (64 * n)))]) hx hb dX8_hashNow_157 rfl hl (by decide) rfl (fun ls hl => ?_)
                          have loop158 : ∀ (fu : Nat) (Vv : Vt) (H : Heap) (locs : List Loc) (ls : Array Slot) (t : Nat) (ht : t ≤ 16) (hv : cpx Vv Vk 584 0 t (be32 (fL (padL l0)) (64 * n))), 16 - t < fu → Wd E Vv H → va_S (AE E) s.heap H locs → lv_has ls 5 [(0, .ref (E.1 + 580)), (2, .int (nI (64 * n))), (3, .int (nI t))] → W p l e (headSpec wsX8_hashNow (rmD 2)).room s m ([.ref (E.1 + 580)] : List Value).toArray below meth c H locs 0 0 (MQ below (QV E (fun V' => Wd E V') (fun V' => seg V' 587 0 (sha l0) ∧ buf V' 7 586 [] ∧ (∀ k, (k < 583 ∨ 587 < k) → k ≠ 580 → V' k = V k) ∧ ∀ i, i ≠ 7 → V' 580 i = V 580 i)) ([.ref (E.1 + 580)] : List Value).toArray s 0 0 (AE E)) (F0 m 158 ls []) := by
                            intro fu
                            induction fu with
                            | zero => intros; omega
                            | succ fu ih158 =>
                              intro Vv H locs ls t ht hv hfu hM hS hl
                              have hvv : ∀ z, z < (padL l0).length → Vv 586 z = fL (padL l0) z := fun z hz => by rw [hv.2.2 586 (by decide)]; exact hP.at hz
                              refine lv_iload_n hx hb dX8_hashNow_158 rfl (lv_at hl 2 rfl) ?_
                              refine lv_bipush (v := 16) hx hb dX8_hashNow_159 (by decide) ?_
                              refine lv_icmp_ge (tgt := 229) hx hb dX8_hashNow_161 (by decide) (fun c_161 => ?_) (fun c_161 => ?_)
                              · have n_161 : 16 ≤ t := (nLe (a := 16) (b := t) rfl rfl (by omega) (by omega)).mp c_161
                                refine lv_aload_n hx hb dX8_hashNow_229 rfl (lv_at hl 0 rfl) ?_
                                refine w_cVv (C := RX8) (As := []) (rest := []) ⟨hx, hb, hml, hown, hts⟩ (c_X8_mix l (fun i hi => by rw [hv.2.2 582 (by decide), hfk 582 (by omega) (by decide)]; exact hA i hi)) (cwV 0 hts gX8_hashNow_X8_mix rfl rfl rfl (by decide +kernel) ⟨Nat.le_of_ble_eq_true rfl, Nat.le_of_ble_eq_true rfl⟩) (w_recv (ci := 8) hK hM (by decide) (by decide) (by decide) rfl) hM hK hS rfl hl.1 rfl (lv_room (Nat.le_of_ble_eq_true rfl)) dX8_hashNow_230 ⟨Nat.le_of_ble_eq_true rfl, Nat.le_of_ble_eq_true rfl⟩ (fun V230 H locs hp230 hM hS => ?_)
                                obtain ⟨x2_233, ex2_233⟩ : ∃ y : Int32, y = (nI (64 * n)) + 64 := ⟨_, rfl⟩
                                refine lv_iinc (v := x2_233) (lv' := [(2, .int x2_233), (0, .ref (E.1 + 580)), (3, .int (nI t))]) hx hb dX8_hashNow_233 hl (k := 1) rfl (by rw [ex2_233]; rfl) (by decide) rfl (fun ls hl => ?_)
                                refine lv_goto (tgt := 148) hx hb dX8_hashNow_236 (by decide) ?_
                                rw [show x2_233 = nI ((64 * n) + 64) from (ex2_233.trans (nAdd rfl rfl))] at hl
                                exact ih148 V230 _ _ _ (n + 1) (by omega) (hP.keep (by rw [hp230.2 580 (by decide) (by decide) (by decide), hv.2.2 580 (by decide)]) (by rw [hp230.2 586 (by decide) (by decide) (by decide), hv.2.2 586 (by decide)])) (fun i hi => by rw [hp230.1 i hi]; exact shaB_congr (fun i hi => by rw [hv.2.2 583 (by decide)]; exact hst i hi) (fun t ht => by have := hv.1 t (by omega); rwa [Nat.zero_add] at this) i hi) (fun k a b => by rw [hp230.2 k (by omega) (by omega) (by omega), hv.2.2 k (by omega)]; exact hfk k a b) (fun i a => by rw [hp230.2 580 (by decide) (by decide) (by decide), hv.2.2 580 (by decide)]; exact hfi i a) (by omega) hM hS (lv_sub hl [1, 0] rfl)
                              · have n_161 : ¬ 16 ≤ t := fun q9 => c_161 ((nLe (a := 16) (b := t) rfl rfl (by omega) (by omega)).mpr q9)
                                refine lv_iload_n hx hb dX8_hashNow_164 rfl (lv_at hl 1 rfl) ?_
                                refine lv_iconst (v := 4) hx hb dX8_hashNow_165 (by decide) ?_
                                refine lv_iload_n hx hb dX8_hashNow_166 rfl (lv_at hl 2 rfl) ?_
                                refine lv_imul hx hb dX8_hashNow_167 ?_
                                refine lv_iadd hx hb dX8_hashNow_168 ?_
                                refine lv_topi (fun x4_169 ex4_169 => ?_)
                                refine lv_istore (lv' := [(4, .int x4_169), (0, .ref (E.1 + 580)), (2, .int (nI (64 * n))), (3, .int (nI t))]) hx hb dX8_hashNow_169 hl (by decide) rfl (fun ls hl => ?_)
                                refine lv_aload_n hx hb dX8_hashNow_171 rfl (lv_at hl 1 rfl) ?_
                                refine w_gr 8 4 584 (T := TX8) (N := 42) hx hb hts in8 hown hK.1 hM (by decide) (by decide) (by decide) (by decide) (by decide) rfl (by decide) k19 rfl dX8_hashNow_172 ?_
                                refine lv_iload_n hx hb dX8_hashNow_175 rfl (lv_at hl 3 rfl) ?_
                                refine lv_aload_n hx hb dX8_hashNow_176 rfl (lv_at hl 1 rfl) ?_
                                refine w_gr 8 6 586 (T := TX8) (N := 42) hx hb hts in8 hown hK.1 hM (by decide) (by decide) (by decide) (by decide) (by decide) rfl (by decide) k25 rfl dX8_hashNow_177 ?_
                                refine lv_iload hx hb dX8_hashNow_180 (lv_at hl 0 rfl) ?_
                                have i_182 : (x4_169 : Int32) = nI ((64 * n) + (4 * t)) := (ex4_169.trans (nAdd rfl (nMul rfl rfl)))
                                refine w_ild (N := 400) hx hb hK.1 hM (by decide) (by decide) (by decide) (by rw [i_182]; exact vp_in_nI (by omega) (by omega)) dX8_hashNow_182 ?_
                                have q : (Vv 586 x4_169.toNatClampNeg : Int32) = Vv 586 ((64 * n) + (4 * t)) := by rw [i_182, nI_clamp (by omega)]
                                refine lv_eqi q ?_
                                refine lv_bipush (v := 24) hx hb dX8_hashNow_183 (by decide) ?_
                                refine lv_ishl hx hb dX8_hashNow_185 ?_
                                refine lv_aload_n hx hb dX8_hashNow_186 rfl (lv_at hl 1 rfl) ?_
                                refine w_gr 8 6 586 (T := TX8) (N := 42) hx hb hts in8 hown hK.1 hM (by decide) (by decide) (by decide) (by decide) (by decide) rfl (by decide) k25 rfl dX8_hashNow_187 ?_
                                refine lv_iload hx hb dX8_hashNow_190 (lv_at hl 0 rfl) ?_
                                refine lv_iconst (v := 1) hx hb dX8_hashNow_192 (by decide) ?_
                                refine lv_iadd hx hb dX8_hashNow_193 ?_
                                have i_194 : (x4_169 + 1 : Int32) = nI (((64 * n) + (4 * t)) + 1) := (nAdd (ex4_169.trans (nAdd rfl (nMul rfl rfl))) rfl)
                                refine w_ild (N := 400) hx hb hK.1 hM (by decide) (by decide) (by decide) (by rw [i_194]; exact vp_in_nI (by omega) (by omega)) dX8_hashNow_194 ?_
                                have q : (Vv 586 (x4_169 + 1).toNatClampNeg : Int32) = Vv 586 (((64 * n) + (4 * t)) + 1) := by rw [i_194, nI_clamp (by omega)]
                                refine lv_eqi q ?_
                                refine lv_bipush (v := 16) hx hb dX8_hashNow_195 (by decide) ?_
                                refine lv_ishl hx hb dX8_hashNow_197 ?_
                                refine lv_ior hx hb dX8_hashNow_198 ?_
                                refine lv_aload_n hx hb dX8_hashNow_199 rfl (lv_at hl 1 rfl) ?_
                                refine w_gr 8 6 586 (T := TX8) (N := 42) hx hb hts in8 hown hK.1 hM (by decide) (by decide) (by decide) (by decide) (by decide) rfl (by decide) k25 rfl dX8_hashNow_200 ?_
                                refine lv_iload hx hb dX8_hashNow_203 (lv_at hl 0 rfl) ?_
                                refine lv_iconst (v := 2) hx hb dX8_hashNow_205 (by decide) ?_
                                refine lv_iadd hx hb dX8_hashNow_206 ?_
                                have i_207 : (x4_169 + 2 : Int32) = nI (((64 * n) + (4 * t)) + 2) := (nAdd (ex4_169.trans (nAdd rfl (nMul rfl rfl))) rfl)
                                refine w_ild (N := 400) hx hb hK.1 hM (by decide) (by decide) (by decide) (by rw [i_207]; exact vp_in_nI (by omega) (by omega)) dX8_hashNow_207 ?_
                                have q : (Vv 586 (x4_169 + 2).toNatClampNeg : Int32) = Vv 586 (((64 * n) + (4 * t)) + 2) := by rw [i_207, nI_clamp (by omega)]
                                refine lv_eqi q ?_
                                refine lv_bipush (v := 8) hx hb dX8_hashNow_208 (by decide) ?_
                                refine lv_ishl hx hb dX8_hashNow_210 ?_
                                refine lv_ior hx hb dX8_hashNow_211 ?_
                                refine lv_aload_n hx hb dX8_hashNow_212 rfl (lv_at hl 1 rfl) ?_
                                refine w_gr 8 6 586 (T := TX8) (N := 42) hx hb hts in8 hown hK.1 hM (by decide) (by decide) (by decide) (by decide) (by decide) rfl (by decide) k25 rfl dX8_hashNow_213 ?_
                                refine lv_iload hx hb dX8_hashNow_216 (lv_at hl 0 rfl) ?_
                                refine lv_iconst (v := 3) hx hb dX8_hashNow_218 (by decide) ?_
                                refine lv_iadd hx hb dX8_hashNow_219 ?_
                                have i_220 : (x4_169 + 3 : Int32) = nI (((64 * n) + (4 * t)) + 3) := (nAdd (ex4_169.trans (nAdd rfl (nMul rfl rfl))) rfl)
                                refine w_ild (N := 400) hx hb hK.1 hM (by decide) (by decide) (by decide) (by rw [i_220]; exact vp_in_nI (by omega) (by omega)) dX8_hashNow_220 ?_
                                have q : (Vv 586 (x4_169 + 3).toNatClampNeg : Int32) = Vv 586 (((64 * n) + (4 * t)) + 3) := by rw [i_220, nI_clamp (by omega)]
                                refine lv_eqi q ?_
                                refine lv_ior hx hb dX8_hashNow_221 ?_
                                have i_222 : (nI t : Int32) = nI (t) := rfl
                                have j_222 : (nI t).toNatClampNeg = t := by rw [i_222, nI_clamp (by omega)]
                                refine w_ist (N := 64) hx hb hK.1 hM hS (by decide) (by decide) (by decide) (by rw [i_222]; exact vp_in_nI (by omega) (by omega)) dX8_hashNow_222 (fun H locs hM hS => ?_)
                                rw [j_222] at hM
                                generalize hV222 : up2 Vv 584 t (((((Vv 586 ((64 * n) + (4 * t))) <<< (24 &&& 31)) ||| ((Vv 586 (((64 * n) + (4 * t)) + 1)) <<< (16 &&& 31))) ||| ((Vv 586 (((64 * n) + (4 * t)) + 2)) <<< (8 &&& 31))) ||| (Vv 586 (((64 * n) + (4 * t)) + 3))) = V222 at hM
                                obtain ⟨x3_223, ex3_223⟩ : ∃ y : Int32, y = (nI t) + 1 := ⟨_, rfl⟩
                                refine lv_iinc (v := x3_223) (lv' := [(3, .int x3_223), (4, .int x4_169), (0, .ref (E.1 + 580)), (2, .int (nI (64 * n)))]) hx hb dX8_hashNow_223 hl (k := 3) rfl (by rw [ex3_223]; rfl) (by decide) rfl (fun ls hl => ?_)
                                refine lv_goto (tgt := 158) hx hb dX8_hashNow_226 (by decide) ?_
                                rw [show x3_223 = nI (t + 1) from (ex3_223.trans (nAdd rfl rfl))] at hl
                                exact ih158 V222 _ _ _ (t + 1) (by omega) (hv.s hV222 (by omega) (by rw [hvv _ (by omega), hvv _ (by omega), hvv _ (by omega), hvv _ (by omega)]; rfl)) (by omega) hM hS (lv_sub hl [2, 3, 0] rfl)
                          exact loop158 _ Vk _ _ _ 0 (Nat.zero_le _) (cpx.z _ _ _ _) (Nat.lt_succ_self _) hM hS (lv_sub hl [1, 2, 0] rfl)
                    exact loop148 _ Vs _ _ _ 0 (Nat.zero_le _) (hPd.keep (by rw [hs.2.2 580 (by decide)]) (hs.2.2 586 (by decide))) (fun i hi => by have := hs.1 i (by omega); rwa [Nat.zero_add] at this) (fun k a b => by rw [hs.2.2 k (by omega)]; exact hfb.1 k (by omega) b) (fun i a => by rw [hs.2.2 580 (by decide)]; exact hfb.2 i a) (Nat.lt_succ_self _) hM hS (lv_sub hl [1, 0] rfl)
                  · have n_125 : ¬ 8 ≤ k0 := fun q9 => c_125 ((nLe (a := 8) (b := k0) rfl rfl (by omega) (by omega)).mpr q9)
                    refine lv_aload_n hx hb dX8_hashNow_128 rfl (lv_at hl 0 rfl) ?_
                    refine w_gr 8 3 583 (T := TX8) (N := 42) hx hb hts in8 hown hK.1 hM (by decide) (by decide) (by decide) (by decide) (by decide) rfl (by decide) k16 rfl dX8_hashNow_129 ?_
                    refine lv_iload_n hx hb dX8_hashNow_132 rfl (lv_at hl 1 rfl) ?_
                    refine lv_aload_n hx hb dX8_hashNow_133 rfl (lv_at hl 0 rfl) ?_
                    refine w_gr 8 1 581 (T := TX8) (N := 42) hx hb hts in8 hown hK.1 hM (by decide) (by decide) (by decide) (by decide) (by decide) rfl (by decide) k7 rfl dX8_hashNow_134 ?_
                    refine lv_iload_n hx hb dX8_hashNow_137 rfl (lv_at hl 1 rfl) ?_
                    have i_138 : (nI k0 : Int32) = nI (k0) := rfl
                    refine w_ild (N := 8) hx hb hK.1 hM (by decide) (by decide) (by decide) (by rw [i_138]; exact vp_in_nI (by omega) (by omega)) dX8_hashNow_138 ?_
                    have q : (Vs 581 (nI k0).toNatClampNeg : Int32) = Vs 581 k0 := by rw [i_138, nI_clamp (by omega)]
                    refine lv_eqi q ?_
                    have i_139 : (nI k0 : Int32) = nI (k0) := rfl
                    have j_139 : (nI k0).toNatClampNeg = k0 := by rw [i_139, nI_clamp (by omega)]
                    refine w_ist (N := 8) hx hb hK.1 hM hS (by decide) (by decide) (by decide) (by rw [i_139]; exact vp_in_nI (by omega) (by omega)) dX8_hashNow_139 (fun H locs hM hS => ?_)
                    rw [j_139] at hM
                    generalize hV139 : up2 Vs 583 k0 (Vs 581 k0) = V139 at hM
                    obtain ⟨x2_140, ex2_140⟩ : ∃ y : Int32, y = (nI k0) + 1 := ⟨_, rfl⟩
                    refine lv_iinc (v := x2_140) (lv' := [(2, .int x2_140), (0, .ref (E.1 + 580))]) hx hb dX8_hashNow_140 hl (k := 1) rfl (by rw [ex2_140]; rfl) (by decide) rfl (fun ls hl => ?_)
                    refine lv_goto (tgt := 122) hx hb dX8_hashNow_143 (by decide) ?_
                    rw [show x2_140 = nI (k0 + 1) from (ex2_140.trans (nAdd rfl rfl))] at hl
                    exact ih122 V139 _ _ _ (k0 + 1) (by omega) (hs.s hV139 (by omega) (by rw [hs.2.2 581 (by decide), hfb.1 581 (by decide) (by decide)]; exact hB k0 (by omega))) (by omega) hM hS (lv_sub hl [1, 0] rfl)
              exact loop122 _ Vb _ _ _ 0 (Nat.zero_le _) (cpx.z _ _ _ _) (Nat.lt_succ_self _) hM hS (lv_sub hl [1, 0] rfl)
            · have n_70 : ¬ 8 ≤ j := fun q9 => c_70 ((nLe (a := 8) (b := j) rfl rfl (by omega) (by omega)).mpr q9)
              refine lv_aload_n hx hb dX8_hashNow_73 rfl (lv_at hl 0 rfl) ?_
              refine w_gr 8 6 586 (T := TX8) (N := 42) hx hb hts in8 hown hK.1 hM (by decide) (by decide) (by decide) (by decide) (by decide) rfl (by decide) k25 rfl dX8_hashNow_74 ?_
              refine lv_aload_n hx hb dX8_hashNow_77 rfl (lv_at hl 0 rfl) ?_
              refine w_gi 8 7 (T := TX8) (N := 42) hx hb hts in8 hown hK.1 hM (by decide) (by decide) (by decide) (by decide) (by decide) rfl (by decide) k126 rfl dX8_hashNow_78 ?_
              have q : (Vb 580 7 : Int32) = nI (l0.length + 1 + zN l0.length + j) := (by rw [hw.1, hlb])
              refine lv_eqi q ?_
              refine lv_iload_n hx hb dX8_hashNow_81 rfl (lv_at hl 2 rfl) ?_
              refine lv_iconst (v := 4) hx hb dX8_hashNow_82 (by decide) ?_
              refine lv_icmp_ge (tgt := 90) hx hb dX8_hashNow_83 (by decide) (fun c_83 => ?_) (fun c_83 => ?_)
              · have n_83 : 4 ≤ j := (nLe (a := 4) (b := j) rfl rfl (by omega) (by omega)).mp c_83
                have hval := len_gd x1_7 (j := j) (by omega) (by omega)
                refine lv_iload_n hx hb dX8_hashNow_90 rfl (lv_at hl 1 rfl) ?_
                refine lv_bipush (v := 8) hx hb dX8_hashNow_91 (by decide) ?_
                refine lv_bipush (v := 7) hx hb dX8_hashNow_93 (by decide) ?_
                refine lv_iload_n hx hb dX8_hashNow_95 rfl (lv_at hl 2 rfl) ?_
                refine lv_isub hx hb dX8_hashNow_96 ?_
                refine lv_imul hx hb dX8_hashNow_97 ?_
                refine lv_iushr hx hb dX8_hashNow_98 rfl ?_
                refine lv_sipush (v := 255) hx hb dX8_hashNow_99 (by decide) ?_
                refine lv_iand hx hb dX8_hashNow_102 ?_
                have i_103 : (nI (l0.length + 1 + zN l0.length + j) : Int32) = nI (l0.length + 1 + zN l0.length + j) := rfl
                have j_103 : (nI (l0.length + 1 + zN l0.length + j)).toNatClampNeg = l0.length + 1 + zN l0.length + j := by rw [i_103, nI_clamp (by omega)]
                refine w_ist (N := 400) hx hb hK.1 hM hS (by decide) (by decide) (by decide) (by rw [i_103]; exact vp_in_nI (by omega) (by omega)) dX8_hashNow_103 (fun H locs hM hS => ?_)
                rw [j_103] at hM
                generalize hV103 : up2 Vb 586 (l0.length + 1 + zN l0.length + j) (((x1_7.toUInt32 >>> ((8 * (7 - (nI j))).toUInt32 &&& Int32.toUInt32 31)).toInt32) &&& 255) = V103 at hM
                refine lv_aload_n hx hb dX8_hashNow_104 rfl (lv_at hl 0 rfl) ?_
                refine lv_dup hx hb dX8_hashNow_105 rfl ?_
                refine w_gi 8 7 (T := TX8) (N := 42) hx hb hts in8 hown hK.1 hM (by decide) (by decide) (by decide) (by decide) (by decide) rfl (by decide) k126 rfl dX8_hashNow_106 ?_
                have q : (V103 580 7 : Int32) = nI (l0.length + 1 + zN l0.length + j) := by rw [← hV103, up2_k _ _ (by omega)]; exact (by rw [hw.1, hlb])
                refine lv_eqi q ?_
                refine lv_iconst (v := 1) hx hb dX8_hashNow_109 (by decide) ?_
                refine lv_iadd hx hb dX8_hashNow_110 ?_
                refine w_pi 8 7 (T := TX8) (N := 42) hx hb hts in8 tyX8 tyX8_ok nmX8 hown hK.1 hM hS (by decide) (by decide) (by decide) (by decide) (by decide) rfl (by decide) k126 rfl rfl rfl rfl dX8_hashNow_111 (fun H locs hM hS => ?_)
                generalize hV111 : up2 V103 580 7 ((nI (l0.length + 1 + zN l0.length + j)) + 1) = V111 at hM
                have p111 := hw.push (by decide) hlb.symm hV103 hV111 (by rw [nI_1, hlb])
                obtain ⟨x2_114, ex2_114⟩ : ∃ y : Int32, y = (nI j) + 1 := ⟨_, rfl⟩
                refine lv_iinc (v := x2_114) (lv' := [(2, .int x2_114), (0, .ref (E.1 + 580)), (1, .int x1_7)]) hx hb dX8_hashNow_114 hl (k := 2) rfl (by rw [ex2_114]; rfl) (by decide) rfl (fun ls hl => ?_)
                refine lv_goto (tgt := 67) hx hb dX8_hashNow_117 (by decide) ?_
                rw [show x2_114 = nI (j + 1) from (ex2_114.trans (nAdd rfl rfl))] at hl
                exact ih67 V111 _ _ _ (j + 1) (by omega) (by rw [take_s (by simp [w4_len]; omega), ← List.append_assoc, ← hval]; exact p111.1) (hfb.trans p111.2) (by omega) hM hS (lv_sub hl [1, 2, 0] rfl)
              · have n_83 : ¬ 4 ≤ j := fun q9 => c_83 ((nLe (a := 4) (b := j) rfl rfl (by omega) (by omega)).mpr q9)
                have hval := len_gd0 x1_7 (j := j) (by omega)
                refine lv_iconst (v := 0) hx hb dX8_hashNow_86 (by decide) ?_
                refine lv_goto (tgt := 103) hx hb dX8_hashNow_87 (by decide) ?_
                have i_103 : (nI (l0.length + 1 + zN l0.length + j) : Int32) = nI (l0.length + 1 + zN l0.length + j) := rfl
                have j_103 : (nI (l0.length + 1 + zN l0.length + j)).toNatClampNeg = l0.length + 1 + zN l0.length + j := by rw [i_103, nI_clamp (by omega)]
                refine w_ist (N := 400) hx hb hK.1 hM hS (by decide) (by decide) (by decide) (by rw [i_103]; exact vp_in_nI (by omega) (by omega)) dX8_hashNow_103 (fun H locs hM hS => ?_)
                rw [j_103] at hM
                generalize hV103 : up2 Vb 586 (l0.length + 1 + zN l0.length + j) 0 = V103 at hM
                refine lv_aload_n hx hb dX8_hashNow_104 rfl (lv_at hl 0 rfl) ?_
                refine lv_dup hx hb dX8_hashNow_105 rfl ?_
                refine w_gi 8 7 (T := TX8) (N := 42) hx hb hts in8 hown hK.1 hM (by decide) (by decide) (by decide) (by decide) (by decide) rfl (by decide) k126 rfl dX8_hashNow_106 ?_
                have q : (V103 580 7 : Int32) = nI (l0.length + 1 + zN l0.length + j) := by rw [← hV103, up2_k _ _ (by omega)]; exact (by rw [hw.1, hlb])
                refine lv_eqi q ?_
                refine lv_iconst (v := 1) hx hb dX8_hashNow_109 (by decide) ?_
                refine lv_iadd hx hb dX8_hashNow_110 ?_
                refine w_pi 8 7 (T := TX8) (N := 42) hx hb hts in8 tyX8 tyX8_ok nmX8 hown hK.1 hM hS (by decide) (by decide) (by decide) (by decide) (by decide) rfl (by decide) k126 rfl rfl rfl rfl dX8_hashNow_111 (fun H locs hM hS => ?_)
                generalize hV111 : up2 V103 580 7 ((nI (l0.length + 1 + zN l0.length + j)) + 1) = V111 at hM
                have p111 := hw.push (by decide) hlb.symm hV103 hV111 (by rw [nI_1, hlb])
                obtain ⟨x2_114, ex2_114⟩ : ∃ y : Int32, y = (nI j) + 1 := ⟨_, rfl⟩
                refine lv_iinc (v := x2_114) (lv' := [(2, .int x2_114), (0, .ref (E.1 + 580)), (1, .int x1_7)]) hx hb dX8_hashNow_114 hl (k := 2) rfl (by rw [ex2_114]; rfl) (by decide) rfl (fun ls hl => ?_)
                refine lv_goto (tgt := 67) hx hb dX8_hashNow_117 (by decide) ?_
                rw [show x2_114 = nI (j + 1) from (ex2_114.trans (nAdd rfl rfl))] at hl
                exact ih67 V111 _ _ _ (j + 1) (by omega) (by rw [take_s (by simp [w4_len]; omega), ← List.append_assoc, ← hval]; exact p111.1) (hfb.trans p111.2) (by omega) hM hS (lv_sub hl [1, 2, 0] rfl)
        exact loop67 _ Vz _ _ _ 0 (Nat.zero_le _) (by have hze : z = zN l0.length := (by omega); rw [hze] at hz; simpa using hz) (hfz) (Nat.lt_succ_self _) hM hS (lv_sub hl [1, 2, 0] rfl)
      · have n_39 : ¬ ((l0.length + 1 + z) % 64) = 56 := fun q9 => c_39 ((nEq (a := ((l0.length + 1 + z) % 64)) (b := 56) (nRem rfl rfl (by omega) (by omega) (by omega)) rfl (by omega) (by omega)).mpr q9)
        refine lv_aload_n hx hb dX8_hashNow_42 rfl (lv_at hl 0 rfl) ?_
        refine w_gr 8 6 586 (T := TX8) (N := 42) hx hb hts in8 hown hK.1 hM (by decide) (by decide) (by decide) (by decide) (by decide) rfl (by decide) k25 rfl dX8_hashNow_43 ?_
        refine lv_aload_n hx hb dX8_hashNow_46 rfl (lv_at hl 0 rfl) ?_
        refine w_gi 8 7 (T := TX8) (N := 42) hx hb hts in8 hown hK.1 hM (by decide) (by decide) (by decide) (by decide) (by decide) rfl (by decide) k126 rfl dX8_hashNow_47 ?_
        have q : (Vz 580 7 : Int32) = nI (l0.length + 1 + z) := (by rw [hz.1, hlz])
        refine lv_eqi q ?_
        refine lv_iconst (v := 0) hx hb dX8_hashNow_50 (by decide) ?_
        have i_51 : (nI (l0.length + 1 + z) : Int32) = nI (l0.length + 1 + z) := rfl
        have j_51 : (nI (l0.length + 1 + z)).toNatClampNeg = l0.length + 1 + z := by rw [i_51, nI_clamp (by omega)]
        refine w_ist (N := 400) hx hb hK.1 hM hS (by decide) (by decide) (by decide) (by rw [i_51]; exact vp_in_nI (by omega) (by omega)) dX8_hashNow_51 (fun H locs hM hS => ?_)
        rw [j_51] at hM
        generalize hV51 : up2 Vz 586 (l0.length + 1 + z) 0 = V51 at hM
        refine lv_aload_n hx hb dX8_hashNow_52 rfl (lv_at hl 0 rfl) ?_
        refine lv_dup hx hb dX8_hashNow_53 rfl ?_
        refine w_gi 8 7 (T := TX8) (N := 42) hx hb hts in8 hown hK.1 hM (by decide) (by decide) (by decide) (by decide) (by decide) rfl (by decide) k126 rfl dX8_hashNow_54 ?_
        have q : (V51 580 7 : Int32) = nI (l0.length + 1 + z) := by rw [← hV51, up2_k _ _ (by omega)]; exact (by rw [hz.1, hlz])
        refine lv_eqi q ?_
        refine lv_iconst (v := 1) hx hb dX8_hashNow_57 (by decide) ?_
        refine lv_iadd hx hb dX8_hashNow_58 ?_
        refine w_pi 8 7 (T := TX8) (N := 42) hx hb hts in8 tyX8 tyX8_ok nmX8 hown hK.1 hM hS (by decide) (by decide) (by decide) (by decide) (by decide) rfl (by decide) k126 rfl rfl rfl rfl dX8_hashNow_59 (fun H locs hM hS => ?_)
        generalize hV59 : up2 V51 580 7 ((nI (l0.length + 1 + z)) + 1) = V59 at hM
        have p59 := hz.push (by decide) hlz.symm hV51 hV59 (by rw [nI_1, hlz])
        refine lv_goto (tgt := 30) hx hb dX8_hashNow_62 (by decide) ?_
        exact ih30 V59 _ _ _ (z + 1) (by omega) (by rw [repl_s, ← List.append_assoc]; exact p59.1) (hfz.trans p59.2) (by omega) hM hS (lv_sub hl [0, 1] rfl)
  exact loop30 _ V27 _ _ _ 0 (Nat.zero_le _) (by simpa using p27.1) (p27.2) (Nat.lt_succ_self _) hM hS (lv_sub hl [1, 0] rfl)
