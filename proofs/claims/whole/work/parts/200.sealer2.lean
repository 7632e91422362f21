/-- a limit: its text at b + 1, its lock at b + 3 -/
def isLim (b : Nat) : Prop := b + 4 < 610 ∧ sk b = 1 ∧ sn b = 2 ∧ sf b 0 = some (b + 1) ∧ sf b 1 = some (b + 3) ∧ isRow (b + 1) 60 ∧ isRow (b + 3) 32
theorem isLim.lt {b : Nat} (h : isLim b) : b < 610 := by have := h.1; omega
theorem isLim.k {b : Nat} (h : isLim b) : sk b = 1 := h.2.1
theorem isLim.n {b : Nat} (h : isLim b) : sn b = 2 := h.2.2.1
theorem isLim.f0 {b : Nat} (h : isLim b) : sf b 0 = some (b + 1) := h.2.2.2.1
theorem isLim.f1 {b : Nat} (h : isLim b) : sf b 1 = some (b + 3) := h.2.2.2.2.1
theorem isLim.text {b : Nat} (h : isLim b) : isRow (b + 1) 60 := h.2.2.2.2.2.1
theorem isLim.lock {b : Nat} (h : isLim b) : isRow (b + 3) 32 := h.2.2.2.2.2.2
set_option maxHeartbeats 4000000 in
set_option maxRecDepth 100000 in
theorem c_X4_hashWork (l : Launch) {E : En} {V : Vt} {k cap : Nat} (hk : isRow k cap) (hc32 : 32 ≤ cap) (hk7 : k ≠ 7) {l0 : List Int32} (h7 : rowIs V 7 l0) (hl0 : l0.length ≤ 247) : CV l yX4_hashWork wsX4_hashWork 2 E V [.ref (E.1 + 4), .ref (E.1 + k)] (fun V' => rowIs V' k (sha l0) ∧ frB V V' 5 8 k) := by
  refine Met.ofW (cc := cX4_hashWork) (maxL := 4) (ret := none) (by decide) rfl ?_
  intro p e s m args below meth c s₁ B hml hv
  obtain ⟨rfl, hM, hK⟩ := hv
  have hx := B.exec
  have hb := B.bytes
  have hret := B.returns
  have hts := atoms_spec (ws := wsX4_hashWork) B.pre
  have hown : s.vm.findClass RX4 = some m.cls := findClass_of_methodNamed B.named
  have hlocks := B.notSynchronized
  have hsz : s.heap.size = E.1 + 610 := hM.1
  have hS : va_S (AE E) s.heap s.heap [] := va_S.rf
  have in3 : ∀ w ∈ u_ws RX3 TX3 2, w ∈ wsX4_hashWork := by decide +kernel
  have in4 : ∀ w ∈ u_ws RX4 TX4 9, w ∈ wsX4_hashWork := by decide +kernel
  have k23 := hts (.fieldLink RX4 23 "LimitTokens$Sealer" "work" "LLimitTokens$Row;") (by decide +kernel)
  have k55 := hts (.fieldLink RX4 55 "LimitTokens$Row" "length" "I") (by decide +kernel)
  have k11 := hts (.fieldLink RX4 11 "LimitTokens$Sealer" "state" "[I") (by decide +kernel)
  have hl := lv_entry ([.ref (E.1 + 4), .ref (E.1 + k)]) (n := 4) (Nat.le_of_ble_eq_true rfl)
  rw [lg_entry_eq]
  generalize (lg_sl ([.ref (E.1 + 4), .ref (E.1 + k)]) ++ List.replicate (4 - (lg_sl ([.ref (E.1 + 4), .ref (E.1 + k)])).length) Slot.unset).toArray = ls at hl ⊢
  have hl : lv_has ls 4 [(0, .ref (E.1 + 4)), (1, .ref (E.1 + k))] := hl
  obtain ⟨t1, t2, hZ1, hT1, hZ2, hT2⟩ := id hK.2
  have hwh := hk.where
  have hcap := hk.cap
  have hz64 := zN_lt l0.length
  have hpl := padL_len l0
  have hpm := padL_mod l0
  refine lv_bipush (v := 8) hx hb dX4_hashWork_0 (by decide) ?_
  refine lv_aload_n hx hb dX4_hashWork_2 rfl (lv_at hl 0 rfl) ?_
  refine w_gr 4 2 7 (T := TX4) (N := 9) hx hb hts in4 hown hK.1 hM (by decide) (by decide) (by decide) (by decide) (by decide) rfl (by decide) k23 rfl dX4_hashWork_3 ?_
  refine w_gi 3 1 (T := TX3) (N := 2) hx hb hts in3 hown hK.1 hM (by decide) (by decide) (by decide) (by decide) (by decide) rfl (by decide) k55 rfl dX4_hashWork_6 ?_
  have q : (V 7 1 : Int32) = nI l0.length := h7.1
  refine lv_eqi q ?_
  refine lv_imul hx hb dX4_hashWork_9 ?_
  refine lv_topi (fun x2_10 ex2_10 => ?_)
  refine lv_istore_n (lv' := [(2, .int x2_10), (0, .ref (E.1 + 4)), (1, .ref (E.1 + k))]) hx hb dX4_hashWork_10 rfl hl (by decide) rfl (fun ls hl => ?_)
  refine lv_aload_n hx hb dX4_hashWork_11 rfl (lv_at hl 1 rfl) ?_
  refine w_gr 4 2 7 (T := TX4) (N := 9) hx hb hts in4 hown hK.1 hM (by decide) (by decide) (by decide) (by decide) (by decide) rfl (by decide) k23 rfl dX4_hashWork_12 ?_
  refine lv_sipush (v := 128) hx hb dX4_hashWork_15 (by decide) ?_
  refine w_cVv (C := RX3) (As := [.int 128]) (rest := []) ⟨hx, hb, hml, hown, hts⟩ (c_X3_push l rw7 h7 (by omega) 128) (cwV 1 hts gX4_hashWork_X3_push rfl rfl rfl (by decide +kernel) ⟨Nat.le_of_ble_eq_true rfl, Nat.le_of_ble_eq_true rfl⟩) (w_recv (ci := 3) hK hM (by decide) (by decide) (by decide) rfl) hM hK hS rfl hl.1 rfl (lv_room (Nat.le_of_ble_eq_true rfl)) dX4_hashWork_18 ⟨Nat.le_of_ble_eq_true rfl, Nat.le_of_ble_eq_true rfl⟩ (fun V18 H locs hp18 hM hS => ?_)
  refine lv_aload_n hx hb dX4_hashWork_21 rfl (lv_at hl 1 rfl) ?_
  refine w_gr 4 2 7 (T := TX4) (N := 9) hx hb hts in4 hown hK.1 hM (by decide) (by decide) (by decide) (by decide) (by decide) rfl (by decide) k23 rfl dX4_hashWork_22 ?_
  refine lv_bipush (v := 120) hx hb dX4_hashWork_25 (by decide) ?_
  refine lv_aload_n hx hb dX4_hashWork_27 rfl (lv_at hl 1 rfl) ?_
  refine w_gr 4 2 7 (T := TX4) (N := 9) hx hb hts in4 hown hK.1 hM (by decide) (by decide) (by decide) (by decide) (by decide) rfl (by decide) k23 rfl dX4_hashWork_28 ?_
  refine w_gi 3 1 (T := TX3) (N := 2) hx hb hts in3 hown hK.1 hM (by decide) (by decide) (by decide) (by decide) (by decide) rfl (by decide) k55 rfl dX4_hashWork_31 ?_
  have q_6 : (V18 7 1 : Int32) = nI (l0 ++ [128]).length := hp18.1.1
  refine lv_eqi q_6 ?_
  refine lv_bipush (v := 64) hx hb dX4_hashWork_34 (by decide) ?_
  refine lv_irem hx hb dX4_hashWork_36 (by decide) ?_
  have q_7 : ((nI (l0 ++ [128]).length) - (nI (l0 ++ [128]).length) / 64 * 64 : Int32) = nI ((l0.length + 1) % 64) := rem64 (by omega) (by simp)
  refine lv_eqi q_7 ?_
  refine lv_isub hx hb dX4_hashWork_37 ?_
  have q_8 : (120 - (nI ((l0.length + 1) % 64)) : Int32) = nI (120 - (l0.length + 1) % 64) := sub120 (by omega)
  refine lv_eqi q_8 ?_
  refine lv_bipush (v := 64) hx hb dX4_hashWork_38 (by decide) ?_
  refine lv_irem hx hb dX4_hashWork_40 (by decide) ?_
  have q_9 : ((nI (120 - (l0.length + 1) % 64)) - (nI (120 - (l0.length + 1) % 64)) / 64 * 64 : Int32) = nI (zN l0.length) := rem64 (n := 120 - (l0.length + 1) % 64) (by omega) rfl
  refine lv_eqi q_9 ?_
  refine w_cVv (C := RX3) (As := [.int (nI (zN l0.length))]) (rest := []) ⟨hx, hb, hml, hown, hts⟩ (c_X3_pushZeros l rw7 hp18.1 (n := zN l0.length) (by simp; omega)) (cwV 1 hts gX4_hashWork_X3_pushZeros rfl rfl rfl (by decide +kernel) ⟨Nat.le_of_ble_eq_true rfl, Nat.le_of_ble_eq_true rfl⟩) (w_recv (ci := 3) hK hM (by decide) (by decide) (by decide) rfl) hM hK hS rfl hl.1 rfl (lv_room (Nat.le_of_ble_eq_true rfl)) dX4_hashWork_41 ⟨Nat.le_of_ble_eq_true rfl, Nat.le_of_ble_eq_true rfl⟩ (fun V41 H locs hp41 hM hS => ?_)
  refine lv_aload_n hx hb dX4_hashWork_44 rfl (lv_at hl 1 rfl) ?_
  refine w_gr 4 2 7 (T := TX4) (N := 9) hx hb hts in4 hown hK.1 hM (by decide) (by decide) (by decide) (by decide) (by decide) rfl (by decide) k23 rfl dX4_hashWork_45 ?_
  refine lv_iconst (v := 0) hx hb dX4_hashWork_48 (by decide) ?_
  refine w_cVv (C := RX3) (As := [.int 0]) (rest := []) ⟨hx, hb, hml, hown, hts⟩ (c_X3_pushWord l rw7 hp41.1 (by simp; omega) 0) (cwV 1 hts gX4_hashWork_X3_pushWord rfl rfl rfl (by decide +kernel) ⟨Nat.le_of_ble_eq_true rfl, Nat.le_of_ble_eq_true rfl⟩) (w_recv (ci := 3) hK hM (by decide) (by decide) (by decide) rfl) hM hK hS rfl hl.1 rfl (lv_room (Nat.le_of_ble_eq_true rfl)) dX4_hashWork_49 ⟨Nat.le_of_ble_eq_true rfl, Nat.le_of_ble_eq_true rfl⟩ (fun V49 H locs hp49 hM hS => ?_)
  refine lv_aload_n hx hb dX4_hashWork_52 rfl (lv_at hl 1 rfl) ?_
  refine w_gr 4 2 7 (T := TX4) (N := 9) hx hb hts in4 hown hK.1 hM (by decide) (by decide) (by decide) (by decide) (by decide) rfl (by decide) k23 rfl dX4_hashWork_53 ?_
  refine lv_iload_n hx hb dX4_hashWork_56 rfl (lv_at hl 0 rfl) ?_
  refine w_cVv (C := RX3) (As := [.int x2_10]) (rest := []) ⟨hx, hb, hml, hown, hts⟩ (c_X3_pushWord l rw7 hp49.1 (by simp [w4_len]; omega) x2_10) (cwV 1 hts gX4_hashWork_X3_pushWord rfl rfl rfl (by decide +kernel) ⟨Nat.le_of_ble_eq_true rfl, Nat.le_of_ble_eq_true rfl⟩) (w_recv (ci := 3) hK hM (by decide) (by decide) (by decide) rfl) hM hK hS rfl hl.1 rfl (lv_room (Nat.le_of_ble_eq_true rfl)) dX4_hashWork_57 ⟨Nat.le_of_ble_eq_true rfl, Nat.le_of_ble_eq_true rfl⟩ (fun V57 H locs hp57 hM hS => ?_)
  have h7p : rowIs V57 7 (padL l0) := by have := hp57.1; rw [pad_eq (nI_8 ex2_10)] at this; exact this
  have hf57 : frR V V57 7 := ((hp18.2.trans hp41.2).trans hp49.2).trans hp57.2
  refine va_gets hx hb hZ1 hS hown (hts (.fieldLink RX4 94 "LimitTokens$Sealer" "SQUARE_ROOTS" "[I") (by decide +kernel)) (fun _ h => h) dX4_hashWork_60 ?_
  refine lv_iconst (v := 0) hx hb dX4_hashWork_63 (by decide) ?_
  refine lv_aload_n hx hb dX4_hashWork_64 rfl (lv_at hl 1 rfl) ?_
  refine w_gr 4 0 5 (T := TX4) (N := 9) hx hb hts in4 hown hK.1 hM (by decide) (by decide) (by decide) (by decide) (by decide) rfl (by decide) k11 rfl dX4_hashWork_65 ?_
  refine lv_iconst (v := 0) hx hb dX4_hashWork_68 (by decide) ?_
  refine lv_bipush (v := 8) hx hb dX4_hashWork_69 (by decide) ?_
  refine w_cpyT hx hb (hml.trans hl.1.symm) hown (hts (.methodLink RX4 97 arraycopyName) (by decide +kernel)) (hts (.native arraycopyName) (by decide +kernel)) (hts (.static arraycopyName) (by decide +kernel)) (hts (.initialized "java/lang/System") (by decide +kernel)) hK hM hS hT1 (k1 := 5) (n1 := 8) (by decide) (by decide) (by decide) (by decide) (by decide) (by decide) (by decide) (by decide) (Nat.le_of_ble_eq_true rfl) (Nat.le_of_ble_eq_true rfl) dX4_hashWork_71 (fun H locs hM hS => ?_)
  rw [show (0 : Int32).toNatClampNeg = 0 by decide, show (8 : Int32).toNatClampNeg = 8 by decide] at hM
  generalize hV71 : va_up V57 5 (va_cpy (fun j => sqT.getD j 0) (V57 5) 0 0 8) = V71 at hM
  obtain ⟨hs71, hf71⟩ := cpy8 hV71
  refine lv_iconst (v := 0) hx hb dX4_hashWork_74 (by decide) ?_
  refine lv_istore_n (lv' := [(3, .int 0), (2, .int x2_10), (0, .ref (E.1 + 4)), (1, .ref (E.1 + k))]) hx hb dX4_hashWork_75 rfl hl (by decide) rfl (fun ls hl => ?_)
  have loop76 : ∀ (fu : Nat) (Vw : Vt) (H : Heap) (locs : List Loc) (ls : Array Slot) (n : Nat) (x : Int32) (ex : x = nI (64 * n)) (hn : 64 * n ≤ (padL l0).length) (hst : ∀ i, i < 8 → Vw 5 i = shaH (fL (padL l0)) n i) (hf : ∀ j, j ≠ 5 → j ≠ 6 → Vw j = V57 j), (padL l0).length - 64 * n < fu → Wd E Vw H → va_S (AE E) s.heap H locs → lv_has ls 4 [(0, .ref (E.1 + 4)), (1, .ref (E.1 + k)), (3, .int x)] → W p l e (headSpec wsX4_hashWork (rmD 2)).room s m ([.ref (E.1 + 4), .ref (E.1 + k)] : List Value).toArray below meth c H locs 0 0 (MQ below (QV E (fun V' => Wd E V') (fun V' => rowIs V' k (sha l0) ∧ frB V V' 5 8 k)) ([.ref (E.1 + 4), .ref (E.1 + k)] : List Value).toArray s 0 0 (AE E)) (F0 m 76 ls []) := by
    intro fu
    induction fu with
    | zero => intros; omega
    | succ fu ih =>
      intro Vw H locs ls n x ex hn hst hf hfu hM hS hl
      have h7w : rowIs Vw 7 (padL l0) := h7p.keep (hf 7 (by decide) (by decide)) (hf 8 (by decide) (by decide))
      refine lv_iload_n hx hb dX4_hashWork_76 rfl (lv_at hl 2 rfl) ?_
      refine lv_bipush (v := 64) hx hb dX4_hashWork_77 (by decide) ?_
      refine lv_iadd hx hb dX4_hashWork_79 ?_
      refine lv_aload_n hx hb dX4_hashWork_80 rfl (lv_at hl 0 rfl) ?_
      refine w_gr 4 2 7 (T := TX4) (N := 9) hx hb hts in4 hown hK.1 hM (by decide) (by decide) (by decide) (by decide) (by decide) rfl (by decide) k23 rfl dX4_hashWork_81 ?_
      refine w_gi 3 1 (T := TX3) (N := 2) hx hb hts in3 hown hK.1 hM (by decide) (by decide) (by decide) (by decide) (by decide) rfl (by decide) k55 rfl dX4_hashWork_84 ?_
      have q_20 : (Vw 7 1 : Int32) = nI (padL l0).length := h7w.1
      refine lv_eqi q_20 ?_
      refine lv_icmp_gt (tgt := 105) hx hb dX4_hashWork_87 (by decide) (fun c_87 => ?_) (fun c_87 => ?_)
      · have hnN : n = (padL l0).length / 64 := by
          have e64 : x + 64 = nI (64 * n + 64) := by rw [ex]; exact nI_add _ 64
          rw [e64] at c_87
          have := (nI_ltI (by omega) (by omega)).mp c_87
          omega
        refine lv_aload_n hx hb dX4_hashWork_105 rfl (lv_at hl 1 rfl) ?_
        refine w_cVv (C := RX3) (As := []) (rest := []) ⟨hx, hb, hml, hown, hts⟩ (c_X3_makeEmpty l hk) (cwV 0 hts gX4_hashWork_X3_makeEmpty rfl rfl rfl (by decide +kernel) ⟨Nat.le_of_ble_eq_true rfl, Nat.le_of_ble_eq_true rfl⟩) (w_recv (ci := 3) hK hM (hk).lt (hk).k (by decide) rfl) hM hK hS rfl hl.1 rfl (lv_room (Nat.le_of_ble_eq_true rfl)) dX4_hashWork_106 ⟨Nat.le_of_ble_eq_true rfl, Nat.le_of_ble_eq_true rfl⟩ (fun V106 H locs hp106 hM hS => ?_)
        refine lv_iconst (v := 0) hx hb dX4_hashWork_109 (by decide) ?_
        refine lv_istore_n (lv' := [(3, .int 0), (0, .ref (E.1 + 4)), (1, .ref (E.1 + k))]) hx hb dX4_hashWork_110 rfl hl (by decide) rfl (fun ls hl => ?_)
        have loop111 : ∀ (fu : Nat) (Vz : Vt) (H : Heap) (locs : List Loc) (ls : Array Slot) (j : Nat) (z : Int32) (ez : z = nI j) (hj : j ≤ 8) (hr : rowIs Vz k ((List.range j).flatMap (fun i => w4 (shaH (fL (padL l0)) n i)))) (hfz : frR V106 Vz k), 8 - j < fu → Wd E Vz H → va_S (AE E) s.heap H locs → lv_has ls 4 [(0, .ref (E.1 + 4)), (1, .ref (E.1 + k)), (3, .int z)] → W p l e (headSpec wsX4_hashWork (rmD 2)).room s m ([.ref (E.1 + 4), .ref (E.1 + k)] : List Value).toArray below meth c H locs 0 0 (MQ below (QV E (fun V' => Wd E V') (fun V' => rowIs V' k (sha l0) ∧ frB V V' 5 8 k)) ([.ref (E.1 + 4), .ref (E.1 + k)] : List Value).toArray s 0 0 (AE E)) (F0 m 111 ls []) := by
          intro fu
          induction fu with
          | zero => intros; omega
          | succ fu ih =>
            intro Vz H locs ls j z ez hj hr hfz hfu hM hS hl
            refine lv_iload_n hx hb dX4_hashWork_111 rfl (lv_at hl 2 rfl) ?_
            refine lv_bipush (v := 8) hx hb dX4_hashWork_112 (by decide) ?_
            refine lv_icmp_ge (tgt := 133) hx hb dX4_hashWork_114 (by decide) (fun c_114 => ?_) (fun c_114 => ?_)
            · exact w_vret (free := AE E) Vz hx hb hret hK hS hM (by have := nI_lei (a := 8) ez c_114 (by omega) (by omega); have h8 : j = 8 := (by omega); subst h8; rw [hnN, sha_def] at hr; exact ⟨hr, fun j a b c => by rw [hfz j b c, hp106.2 j b c, hf j (by omega) (by omega)]; exact hf57 j (by omega) (by omega)⟩) hlocks dX4_hashWork_133
            · have hlt := nI_ltn (a := 8) ez c_114 (by omega) (by omega)
              refine lv_aload_n hx hb dX4_hashWork_117 rfl (lv_at hl 1 rfl) ?_
              refine lv_aload_n hx hb dX4_hashWork_118 rfl (lv_at hl 0 rfl) ?_
              refine w_gr 4 0 5 (T := TX4) (N := 9) hx hb hts in4 hown hK.1 hM (by decide) (by decide) (by decide) (by decide) (by decide) rfl (by decide) k11 rfl dX4_hashWork_119 ?_
              refine lv_iload_n hx hb dX4_hashWork_122 rfl (lv_at hl 2 rfl) ?_
              refine w_ild (N := 8) hx hb hK.1 hM (by decide) (by decide) (by decide) (by rw [ez]; exact vp_in_nI (by omega) (by omega)) dX4_hashWork_123 ?_
              have q_26 : (Vz 5 z.toNatClampNeg : Int32) = shaH (fL (padL l0)) n j := by rw [ez, nI_clamp (by omega), hfz 5 (by omega) (by omega), hp106.2 5 (by omega) (by omega)]; exact hst j (by omega)
              refine lv_eqi q_26 ?_
              refine w_cVv (C := RX3) (As := [.int (shaH (fL (padL l0)) n j)]) (rest := []) ⟨hx, hb, hml, hown, hts⟩ (c_X3_pushWord l hk hr (by rw [flat_len]; omega) (shaH (fL (padL l0)) n j)) (cwV 1 hts gX4_hashWork_X3_pushWord rfl rfl rfl (by decide +kernel) ⟨Nat.le_of_ble_eq_true rfl, Nat.le_of_ble_eq_true rfl⟩) (w_recv (ci := 3) hK hM (hk).lt (hk).k (by decide) rfl) hM hK hS rfl hl.1 rfl (lv_room (Nat.le_of_ble_eq_true rfl)) dX4_hashWork_124 ⟨Nat.le_of_ble_eq_true rfl, Nat.le_of_ble_eq_true rfl⟩ (fun V124 H locs hp124 hM hS => ?_)
              obtain ⟨x3_127, ex3_127⟩ : ∃ y : Int32, y = z + 1 := ⟨_, rfl⟩
              refine lv_iinc (v := x3_127) (lv' := [(3, .int x3_127), (0, .ref (E.1 + 4)), (1, .ref (E.1 + k))]) hx hb dX4_hashWork_127 hl (k := 2) rfl (by rw [ex3_127]; rfl) (by decide) rfl (fun ls hl => ?_)
              refine lv_goto (tgt := 111) hx hb dX4_hashWork_130 (by decide) ?_
              exact ih V124 _ _ _ (j + 1) _ (by rw [ex3_127, ez, nI_1]) (by omega) (by rw [flat_s]; exact hp124.1) (hfz.trans hp124.2) (by omega) hM hS (lv_sub hl [1, 2, 0] rfl)
        exact loop111 _ V106 _ _ _ 0 0 (rfl) (Nat.zero_le _) (hp106.1) (frR.rf) (Nat.lt_succ_self _) hM hS (lv_sub hl [1, 2, 0] rfl)
      · have hle : 64 * n + 64 ≤ (padL l0).length := by
          have e64 : x + 64 = nI (64 * n + 64) := by rw [ex]; exact nI_add _ 64
          rw [e64] at c_87
          exact Nat.not_lt.mp (fun q => c_87 (nI_lt q (by omega)))
        refine lv_aload_n hx hb dX4_hashWork_90 rfl (lv_at hl 0 rfl) ?_
        refine lv_iload_n hx hb dX4_hashWork_91 rfl (lv_at hl 2 rfl) ?_
        have q_31 : (x : Int32) = nI (64 * n) := ex
        refine lv_eqi q_31 ?_
        refine w_cVv (C := RX4) (As := [.int (nI (64 * n))]) (rest := []) ⟨hx, hb, hml, hown, hts⟩ (c_X4_spreadWords l (a := 64 * n) (by omega)) (cwV 1 hts gX4_hashWork_X4_spreadWords rfl rfl rfl (by decide +kernel) ⟨Nat.le_of_ble_eq_true rfl, Nat.le_of_ble_eq_true rfl⟩) (w_recv (ci := 4) hK hM (by decide) (by decide) (by decide) rfl) hM hK hS rfl hl.1 rfl (lv_room (Nat.le_of_ble_eq_true rfl)) dX4_hashWork_92 ⟨Nat.le_of_ble_eq_true rfl, Nat.le_of_ble_eq_true rfl⟩ (fun V92 H locs hp92 hM hS => ?_)
        refine lv_aload_n hx hb dX4_hashWork_95 rfl (lv_at hl 0 rfl) ?_
        refine w_cVv (C := RX4) (As := []) (rest := []) ⟨hx, hb, hml, hown, hts⟩ (c_X4_mixWords l) (cwV 0 hts gX4_hashWork_X4_mixWords rfl rfl rfl (by decide +kernel) ⟨Nat.le_of_ble_eq_true rfl, Nat.le_of_ble_eq_true rfl⟩) (w_recv (ci := 4) hK hM (by decide) (by decide) (by decide) rfl) hM hK hS rfl hl.1 rfl (lv_room (Nat.le_of_ble_eq_true rfl)) dX4_hashWork_96 ⟨Nat.le_of_ble_eq_true rfl, Nat.le_of_ble_eq_true rfl⟩ (fun V96 H locs hp96 hM hS => ?_)
        obtain ⟨hst2, hf2⟩ := block_step h7w hle hst hp92 hp96
        obtain ⟨x3_99, ex3_99⟩ : ∃ y : Int32, y = x + 64 := ⟨_, rfl⟩
        refine lv_iinc (v := x3_99) (lv' := [(3, .int x3_99), (0, .ref (E.1 + 4)), (1, .ref (E.1 + k))]) hx hb dX4_hashWork_99 hl (k := 2) rfl (by rw [ex3_99]; rfl) (by decide) rfl (fun ls hl => ?_)
        refine lv_goto (tgt := 76) hx hb dX4_hashWork_102 (by decide) ?_
        exact ih V96 _ _ _ (n + 1) _ (by rw [ex3_99, ex]; exact nI_add _ 64) (by omega) hst2 (fun j h5 h6 => (hf2 j h5 h6).trans (hf j h5 h6)) (by omega) hM hS (lv_sub hl [1, 2, 0] rfl)
  exact loop76 _ V71 _ _ _ 0 0 (rfl) (Nat.zero_le _) (hs71) (fun j h5 _ => hf71 j h5) (Nat.lt_succ_self _) hM hS (lv_sub hl [2, 3, 0] rfl)

set_option maxHeartbeats 4000000 in
set_option maxRecDepth 100000 in
theorem c_X4_hashInto (l : Launch) {E : En} {V : Vt} {k cap k2 cap2 : Nat} (hk : isRow k cap) (hc32 : 32 ≤ cap) (h12 : 12 < k) (hk2 : isRow k2 cap2) {l2 : List Int32} (hr2 : rowIs V k2 l2) (h2l : l2.length ≤ cap2) (hl2 : l2.length ≤ 247) : CV l yX4_hashInto wsX4_hashInto 3 E V [.ref (E.1 + 4), .ref (E.1 + k), .ref (E.1 + k2)] (fun V' => rowIs V' k (sha l2) ∧ frB V V' 5 12 k) := by
  refine Met.ofW (cc := cX4_hashInto) (maxL := 3) (ret := none) (by decide) rfl ?_
  intro p e s m args below meth c s₁ B hml hv
  obtain ⟨rfl, hM, hK⟩ := hv
  have hx := B.exec
  have hb := B.bytes
  have hret := B.returns
  have hts := atoms_spec (ws := wsX4_hashInto) B.pre
  have hown : s.vm.findClass RX4 = some m.cls := findClass_of_methodNamed B.named
  have hlocks := B.notSynchronized
  have hsz : s.heap.size = E.1 + 610 := hM.1
  have hS : va_S (AE E) s.heap s.heap [] := va_S.rf
  have in4 : ∀ w ∈ u_ws RX4 TX4 9, w ∈ wsX4_hashInto := by decide +kernel
  have k23 := hts (.fieldLink RX4 23 "LimitTokens$Sealer" "work" "LLimitTokens$Row;") (by decide +kernel)
  have hl := lv_entry ([.ref (E.1 + 4), .ref (E.1 + k), .ref (E.1 + k2)]) (n := 3) (Nat.le_of_ble_eq_true rfl)
  rw [lg_entry_eq]
  generalize (lg_sl ([.ref (E.1 + 4), .ref (E.1 + k), .ref (E.1 + k2)]) ++ List.replicate (3 - (lg_sl ([.ref (E.1 + 4), .ref (E.1 + k), .ref (E.1 + k2)])).length) Slot.unset).toArray = ls at hl ⊢
  have hl : lv_has ls 3 [(0, .ref (E.1 + 4)), (1, .ref (E.1 + k)), (2, .ref (E.1 + k2))] := hl
  refine lv_aload_n hx hb dX4_hashInto_0 rfl (lv_at hl 0 rfl) ?_
  refine w_gr 4 2 7 (T := TX4) (N := 9) hx hb hts in4 hown hK.1 hM (by decide) (by decide) (by decide) (by decide) (by decide) rfl (by decide) k23 rfl dX4_hashInto_1 ?_
  refine lv_aload_n hx hb dX4_hashInto_4 rfl (lv_at hl 2 rfl) ?_
  refine w_cVv (C := RX3) (As := [.ref (E.1 + k2)]) (rest := []) ⟨hx, hb, hml, hown, hts⟩ (c_X3_takeOver l rw7 hk2 hr2 h2l (by omega)) (cwV 1 hts gX4_hashInto_X3_takeOver rfl rfl rfl (by decide +kernel) ⟨Nat.le_of_ble_eq_true rfl, Nat.le_of_ble_eq_true rfl⟩) (w_recv (ci := 3) hK hM (by decide) (by decide) (by decide) rfl) hM hK hS rfl hl.1 rfl (lv_room (Nat.le_of_ble_eq_true rfl)) dX4_hashInto_5 ⟨Nat.le_of_ble_eq_true rfl, Nat.le_of_ble_eq_true rfl⟩ (fun V5 H locs hp5 hM hS => ?_)
  refine lv_aload_n hx hb dX4_hashInto_8 rfl (lv_at hl 0 rfl) ?_
  refine lv_aload_n hx hb dX4_hashInto_9 rfl (lv_at hl 1 rfl) ?_
  refine w_cVv (C := RX4) (As := [.ref (E.1 + k)]) (rest := []) ⟨hx, hb, hml, hown, hts⟩ (c_X4_hashWork l hk hc32 (by omega) hp5.1 hl2) (cwV 1 hts gX4_hashInto_X4_hashWork rfl rfl rfl (by decide +kernel) ⟨Nat.le_of_ble_eq_true rfl, Nat.le_of_ble_eq_true rfl⟩) (w_recv (ci := 4) hK hM (by decide) (by decide) (by decide) rfl) hM hK hS rfl hl.1 rfl (lv_room (Nat.le_of_ble_eq_true rfl)) dX4_hashInto_10 ⟨Nat.le_of_ble_eq_true rfl, Nat.le_of_ble_eq_true rfl⟩ (fun V10 H locs hp10 hM hS => ?_)
  exact w_vret (free := AE E) V10 hx hb hret hK hS hM (⟨hp10.1, (hp5.2.toB (by omega)).trans (hp10.2.wide (by omega) (Or.inl rfl))⟩) hlocks dX4_hashInto_13

set_option maxHeartbeats 4000000 in
set_option maxRecDepth 100000 in
theorem c_X4_sealInto (l : Launch) {E : En} {V : Vt} {k cap k2 cap2 k3 cap3 : Nat} (hk : isRow k cap) (hc32 : 32 ≤ cap) (h12 : 12 < k) (hk2 : isRow k2 cap2) (h212 : 12 < k2) (hk3 : isRow k3 cap3) (h312 : 12 < k3) {lk lm : List Int32} (hr2 : rowIs V k2 lk) (hr3 : rowIs V k3 lm) (h2l : lk.length ≤ cap2) (h3l : lm.length ≤ cap3) (hlk : lk.length ≤ 100) (hlm : lm.length ≤ 100) : CV l yX4_sealInto wsX4_sealInto 3 E V [.ref (E.1 + 4), .ref (E.1 + k), .ref (E.1 + k2), .ref (E.1 + k3)] (fun V' => rowIs V' k (hmac lk lm) ∧ frB V V' 5 12 k) := by
  refine Met.ofW (cc := cX4_sealInto) (maxL := 4) (ret := none) (by decide) rfl ?_
  intro p e s m args below meth c s₁ B hml hv
  obtain ⟨rfl, hM, hK⟩ := hv
  have hx := B.exec
  have hb := B.bytes
  have hret := B.returns
  have hts := atoms_spec (ws := wsX4_sealInto) B.pre
  have hown : s.vm.findClass RX4 = some m.cls := findClass_of_methodNamed B.named
  have hlocks := B.notSynchronized
  have hsz : s.heap.size = E.1 + 610 := hM.1
  have hS : va_S (AE E) s.heap s.heap [] := va_S.rf
  have in3 : ∀ w ∈ u_ws RX3 TX3 2, w ∈ wsX4_sealInto := by decide +kernel
  have in4 : ∀ w ∈ u_ws RX4 TX4 9, w ∈ wsX4_sealInto := by decide +kernel
  have k55 := hts (.fieldLink RX4 55 "LimitTokens$Row" "length" "I") (by decide +kernel)
  have k27 := hts (.fieldLink RX4 27 "LimitTokens$Sealer" "keyBlock" "LLimitTokens$Row;") (by decide +kernel)
  have k23 := hts (.fieldLink RX4 23 "LimitTokens$Sealer" "work" "LLimitTokens$Row;") (by decide +kernel)
  have k30 := hts (.fieldLink RX4 30 "LimitTokens$Sealer" "inner" "LLimitTokens$Row;") (by decide +kernel)
  have hl := lv_entry ([.ref (E.1 + 4), .ref (E.1 + k), .ref (E.1 + k2), .ref (E.1 + k3)]) (n := 4) (Nat.le_of_ble_eq_true rfl)
  rw [lg_entry_eq]
  generalize (lg_sl ([.ref (E.1 + 4), .ref (E.1 + k), .ref (E.1 + k2), .ref (E.1 + k3)]) ++ List.replicate (4 - (lg_sl ([.ref (E.1 + 4), .ref (E.1 + k), .ref (E.1 + k2), .ref (E.1 + k3)])).length) Slot.unset).toArray = ls at hl ⊢
  have hl : lv_has ls 4 [(0, .ref (E.1 + 4)), (1, .ref (E.1 + k)), (2, .ref (E.1 + k2)), (3, .ref (E.1 + k3))] := hl
  have w1 := hk.where
  have w2 := hk2.where
  have w3 := hk3.where
  refine lv_aload_n hx hb dX4_sealInto_0 rfl (lv_at hl 2 rfl) ?_
  refine w_gi 3 1 (T := TX3) (N := 2) hx hb hts in3 hown hK.1 hM (hk2).lt (hk2).k (hk2).n (hk2).f1 (by decide) rfl (by decide) k55 rfl dX4_sealInto_1 ?_
  have q : (V k2 1 : Int32) = nI lk.length := hr2.1
  refine lv_eqi q ?_
  refine lv_bipush (v := 64) hx hb dX4_sealInto_4 (by decide) ?_
  have join36 : ∀ (Vj : Vt) (H : Heap) (locs : List Loc) (ls : Array Slot) (kk : List Int32) (hj9 : rowIs Vj 9 kk) (hkl : kk.length ≤ 64) (ekk : kk ++ List.replicate (64 - kk.length) 0 = kB lk) (hm : rowIs Vj k3 lm) (hfj : frB V Vj 5 12 k), Wd E Vj H → va_S (AE E) s.heap H locs → lv_has ls 4 [(0, .ref (E.1 + 4)), (1, .ref (E.1 + k)), (2, .ref (E.1 + k2)), (3, .ref (E.1 + k3))] → W p l e (headSpec wsX4_sealInto (rmD 3)).room s m ([.ref (E.1 + 4), .ref (E.1 + k), .ref (E.1 + k2), .ref (E.1 + k3)] : List Value).toArray below meth c H locs 0 0 (MQ below (QV E (fun V' => Wd E V') (fun V' => rowIs V' k (hmac lk lm) ∧ frB V V' 5 12 k)) ([.ref (E.1 + 4), .ref (E.1 + k), .ref (E.1 + k2), .ref (E.1 + k3)] : List Value).toArray s 0 0 (AE E)) (F0 m 36 ls []) := by
    intro Vj H locs ls kk hj9 hkl ekk hm hfj hM hS hl
    refine lv_aload_n hx hb dX4_sealInto_36 rfl (lv_at hl 0 rfl) ?_
    refine w_gr 4 3 9 (T := TX4) (N := 9) hx hb hts in4 hown hK.1 hM (by decide) (by decide) (by decide) (by decide) (by decide) rfl (by decide) k27 rfl dX4_sealInto_37 ?_
    refine lv_bipush (v := 64) hx hb dX4_sealInto_40 (by decide) ?_
    refine lv_aload_n hx hb dX4_sealInto_42 rfl (lv_at hl 0 rfl) ?_
    refine w_gr 4 3 9 (T := TX4) (N := 9) hx hb hts in4 hown hK.1 hM (by decide) (by decide) (by decide) (by decide) (by decide) rfl (by decide) k27 rfl dX4_sealInto_43 ?_
    refine w_gi 3 1 (T := TX3) (N := 2) hx hb hts in3 hown hK.1 hM (by decide) (by decide) (by decide) (by decide) (by decide) rfl (by decide) k55 rfl dX4_sealInto_46 ?_
    have q_2 : (Vj 9 1 : Int32) = nI kk.length := hj9.1
    refine lv_eqi q_2 ?_
    refine lv_isub hx hb dX4_sealInto_49 ?_
    have q_3 : (64 - (nI kk.length) : Int32) = nI (64 - kk.length) := pk_sub (a := 64) hkl
    refine lv_eqi q_3 ?_
    refine w_cVv (C := RX3) (As := [.int (nI (64 - kk.length))]) (rest := []) ⟨hx, hb, hml, hown, hts⟩ (c_X3_pushZeros l rw9 hj9 (n := 64 - kk.length) (by omega)) (cwV 1 hts gX4_sealInto_X3_pushZeros rfl rfl rfl (by decide +kernel) ⟨Nat.le_of_ble_eq_true rfl, Nat.le_of_ble_eq_true rfl⟩) (w_recv (ci := 3) hK hM (by decide) (by decide) (by decide) rfl) hM hK hS rfl hl.1 rfl (lv_room (Nat.le_of_ble_eq_true rfl)) dX4_sealInto_50 ⟨Nat.le_of_ble_eq_true rfl, Nat.le_of_ble_eq_true rfl⟩ (fun V50 H locs hp50 hM hS => ?_)
    have h9 : rowIs V50 9 (kB lk) := by have := hp50.1; rw [ekk] at this; exact this
    have f50 : frB V V50 5 12 k := hfj.trans (hp50.2.toB (by omega))
    refine lv_aload_n hx hb dX4_sealInto_53 rfl (lv_at hl 0 rfl) ?_
    refine lv_bipush (v := 54) hx hb dX4_sealInto_54 (by decide) ?_
    refine w_cVv (C := RX4) (As := [.int 54]) (rest := []) ⟨hx, hb, hml, hown, hts⟩ (c_X4_startWork l h9 (kB_len lk) 54) (cwV 1 hts gX4_sealInto_X4_startWork rfl rfl rfl (by decide +kernel) ⟨Nat.le_of_ble_eq_true rfl, Nat.le_of_ble_eq_true rfl⟩) (w_recv (ci := 4) hK hM (by decide) (by decide) (by decide) rfl) hM hK hS rfl hl.1 rfl (lv_room (Nat.le_of_ble_eq_true rfl)) dX4_sealInto_56 ⟨Nat.le_of_ble_eq_true rfl, Nat.le_of_ble_eq_true rfl⟩ (fun V56 H locs hp56 hM hS => ?_)
    have f56 : frB V V56 5 12 k := f50.trans (hp56.2.toB (by omega))
    have h9b : rowIs V56 9 (kB lk) := h9.otherR hp56.2 (by omega) (by omega) (by omega)
    have m56 : rowIs V56 k3 lm := hm.keep ((hp56.2 k3 (by omega) (by omega)).trans (hp50.2 k3 (by omega) (by omega))) ((hp56.2 (k3 + 1) (by omega) (by omega)).trans (hp50.2 (k3 + 1) (by omega) (by omega)))
    refine lv_aload_n hx hb dX4_sealInto_59 rfl (lv_at hl 0 rfl) ?_
    refine w_gr 4 2 7 (T := TX4) (N := 9) hx hb hts in4 hown hK.1 hM (by decide) (by decide) (by decide) (by decide) (by decide) rfl (by decide) k23 rfl dX4_sealInto_60 ?_
    refine lv_aload_n hx hb dX4_sealInto_63 rfl (lv_at hl 3 rfl) ?_
    refine w_cVv (C := RX3) (As := [.ref (E.1 + k3)]) (rest := []) ⟨hx, hb, hml, hown, hts⟩ (c_X3_pushAll l rw7 hk3 (by omega) hp56.1 m56 h3l (by rw [List.length_map, kB_len]; omega)) (cwV 1 hts gX4_sealInto_X3_pushAll rfl rfl rfl (by decide +kernel) ⟨Nat.le_of_ble_eq_true rfl, Nat.le_of_ble_eq_true rfl⟩) (w_recv (ci := 3) hK hM (by decide) (by decide) (by decide) rfl) hM hK hS rfl hl.1 rfl (lv_room (Nat.le_of_ble_eq_true rfl)) dX4_sealInto_64 ⟨Nat.le_of_ble_eq_true rfl, Nat.le_of_ble_eq_true rfl⟩ (fun V64 H locs hp64 hM hS => ?_)
    have f64 : frB V V64 5 12 k := f56.trans (hp64.2.toB (by omega))
    have h9c : rowIs V64 9 (kB lk) := h9b.otherR hp64.2 (by omega) (by omega) (by omega)
    refine lv_aload_n hx hb dX4_sealInto_67 rfl (lv_at hl 0 rfl) ?_
    refine lv_aload_n hx hb dX4_sealInto_68 rfl (lv_at hl 0 rfl) ?_
    refine w_gr 4 4 11 (T := TX4) (N := 9) hx hb hts in4 hown hK.1 hM (by decide) (by decide) (by decide) (by decide) (by decide) rfl (by decide) k30 rfl dX4_sealInto_69 ?_
    refine w_cVv (C := RX4) (As := [.ref (E.1 + 11)]) (rest := []) ⟨hx, hb, hml, hown, hts⟩ (c_X4_hashWork l rw11 (by decide) (by decide) hp64.1 (by rw [List.length_append, List.length_map, kB_len]; omega)) (cwV 1 hts gX4_sealInto_X4_hashWork rfl rfl rfl (by decide +kernel) ⟨Nat.le_of_ble_eq_true rfl, Nat.le_of_ble_eq_true rfl⟩) (w_recv (ci := 4) hK hM (by decide) (by decide) (by decide) rfl) hM hK hS rfl hl.1 rfl (lv_room (Nat.le_of_ble_eq_true rfl)) dX4_sealInto_72 ⟨Nat.le_of_ble_eq_true rfl, Nat.le_of_ble_eq_true rfl⟩ (fun V72 H locs hp72 hM hS => ?_)
    have f72 : frB V V72 5 12 k := f64.trans (hp72.2.wide (by omega) (Or.inr (by omega)))
    have h9d : rowIs V72 9 (kB lk) := h9c.other hp72.2 (by omega) (by omega) (by omega) (by omega)
    refine lv_aload_n hx hb dX4_sealInto_75 rfl (lv_at hl 0 rfl) ?_
    refine lv_bipush (v := 92) hx hb dX4_sealInto_76 (by decide) ?_
    refine w_cVv (C := RX4) (As := [.int 92]) (rest := []) ⟨hx, hb, hml, hown, hts⟩ (c_X4_startWork l h9d (kB_len lk) 92) (cwV 1 hts gX4_sealInto_X4_startWork rfl rfl rfl (by decide +kernel) ⟨Nat.le_of_ble_eq_true rfl, Nat.le_of_ble_eq_true rfl⟩) (w_recv (ci := 4) hK hM (by decide) (by decide) (by decide) rfl) hM hK hS rfl hl.1 rfl (lv_room (Nat.le_of_ble_eq_true rfl)) dX4_sealInto_78 ⟨Nat.le_of_ble_eq_true rfl, Nat.le_of_ble_eq_true rfl⟩ (fun V78 H locs hp78 hM hS => ?_)
    have f78 : frB V V78 5 12 k := f72.trans (hp78.2.toB (by omega))
    have h11 := hp72.1.otherR hp78.2 (by omega) (by omega) (by omega)
    refine lv_aload_n hx hb dX4_sealInto_81 rfl (lv_at hl 0 rfl) ?_
    refine w_gr 4 2 7 (T := TX4) (N := 9) hx hb hts in4 hown hK.1 hM (by decide) (by decide) (by decide) (by decide) (by decide) rfl (by decide) k23 rfl dX4_sealInto_82 ?_
    refine lv_aload_n hx hb dX4_sealInto_85 rfl (lv_at hl 0 rfl) ?_
    refine w_gr 4 4 11 (T := TX4) (N := 9) hx hb hts in4 hown hK.1 hM (by decide) (by decide) (by decide) (by decide) (by decide) rfl (by decide) k30 rfl dX4_sealInto_86 ?_
    refine w_cVv (C := RX3) (As := [.ref (E.1 + 11)]) (rest := []) ⟨hx, hb, hml, hown, hts⟩ (c_X3_pushAll l rw7 rw11 (by omega) hp78.1 h11 (by rw [sha_len]; omega) (by rw [List.length_map, kB_len, sha_len]; omega)) (cwV 1 hts gX4_sealInto_X3_pushAll rfl rfl rfl (by decide +kernel) ⟨Nat.le_of_ble_eq_true rfl, Nat.le_of_ble_eq_true rfl⟩) (w_recv (ci := 3) hK hM (by decide) (by decide) (by decide) rfl) hM hK hS rfl hl.1 rfl (lv_room (Nat.le_of_ble_eq_true rfl)) dX4_sealInto_89 ⟨Nat.le_of_ble_eq_true rfl, Nat.le_of_ble_eq_true rfl⟩ (fun V89 H locs hp89 hM hS => ?_)
    have f89 : frB V V89 5 12 k := f78.trans (hp89.2.toB (by omega))
    refine lv_aload_n hx hb dX4_sealInto_92 rfl (lv_at hl 0 rfl) ?_
    refine lv_aload_n hx hb dX4_sealInto_93 rfl (lv_at hl 1 rfl) ?_
    refine w_cVv (C := RX4) (As := [.ref (E.1 + k)]) (rest := []) ⟨hx, hb, hml, hown, hts⟩ (c_X4_hashWork l hk hc32 (by omega) hp89.1 (by rw [List.length_append, List.length_map, kB_len, sha_len]; omega)) (cwV 1 hts gX4_sealInto_X4_hashWork rfl rfl rfl (by decide +kernel) ⟨Nat.le_of_ble_eq_true rfl, Nat.le_of_ble_eq_true rfl⟩) (w_recv (ci := 4) hK hM (by decide) (by decide) (by decide) rfl) hM hK hS rfl hl.1 rfl (lv_room (Nat.le_of_ble_eq_true rfl)) dX4_sealInto_94 ⟨Nat.le_of_ble_eq_true rfl, Nat.le_of_ble_eq_true rfl⟩ (fun V94 H locs hp94 hM hS => ?_)
    have f94 : frB V V94 5 12 k := f89.trans (hp94.2.wide (by omega) (Or.inl rfl))
    exact w_vret (free := AE E) V94 hx hb hret hK hS hM (⟨hp94.1, f94⟩) hlocks dX4_sealInto_97
  refine lv_icmp_le (tgt := 28) hx hb dX4_sealInto_6 (by decide) (fun c_6 => ?_) (fun c_6 => ?_)
  · have hle : lk.length ≤ 64 := (nI_leI (b := 64) (by omega) (by omega)).mp c_6
    refine lv_aload_n hx hb dX4_sealInto_28 rfl (lv_at hl 0 rfl) ?_
    refine w_gr 4 3 9 (T := TX4) (N := 9) hx hb hts in4 hown hK.1 hM (by decide) (by decide) (by decide) (by decide) (by decide) rfl (by decide) k27 rfl dX4_sealInto_29 ?_
    refine lv_aload_n hx hb dX4_sealInto_32 rfl (lv_at hl 2 rfl) ?_
    refine w_cVv (C := RX3) (As := [.ref (E.1 + k2)]) (rest := []) ⟨hx, hb, hml, hown, hts⟩ (c_X3_takeOver l rw9 hk2 hr2 h2l hle) (cwV 1 hts gX4_sealInto_X3_takeOver rfl rfl rfl (by decide +kernel) ⟨Nat.le_of_ble_eq_true rfl, Nat.le_of_ble_eq_true rfl⟩) (w_recv (ci := 3) hK hM (by decide) (by decide) (by decide) rfl) hM hK hS rfl hl.1 rfl (lv_room (Nat.le_of_ble_eq_true rfl)) dX4_sealInto_33 ⟨Nat.le_of_ble_eq_true rfl, Nat.le_of_ble_eq_true rfl⟩ (fun V33 H locs hp33 hM hS => ?_)
    exact join36 V33 _ _ _ lk hp33.1 hle (by unfold kB; rw [if_neg (by omega)]) (hr3.otherR hp33.2 (by omega) (by omega) (by omega)) (hp33.2.toB (by omega)) hM hS (lv_sub hl [0, 1, 2, 3] rfl)
  · have hgt : lk.length > 64 := Nat.not_le.mp (fun q => c_6 (nI_le (b := 64) q (by omega)))
    refine lv_aload_n hx hb dX4_sealInto_9 rfl (lv_at hl 0 rfl) ?_
    refine w_gr 4 2 7 (T := TX4) (N := 9) hx hb hts in4 hown hK.1 hM (by decide) (by decide) (by decide) (by decide) (by decide) rfl (by decide) k23 rfl dX4_sealInto_10 ?_
    refine lv_aload_n hx hb dX4_sealInto_13 rfl (lv_at hl 2 rfl) ?_
    refine w_cVv (C := RX3) (As := [.ref (E.1 + k2)]) (rest := []) ⟨hx, hb, hml, hown, hts⟩ (c_X3_takeOver l rw7 hk2 hr2 h2l (by omega)) (cwV 1 hts gX4_sealInto_X3_takeOver rfl rfl rfl (by decide +kernel) ⟨Nat.le_of_ble_eq_true rfl, Nat.le_of_ble_eq_true rfl⟩) (w_recv (ci := 3) hK hM (by decide) (by decide) (by decide) rfl) hM hK hS rfl hl.1 rfl (lv_room (Nat.le_of_ble_eq_true rfl)) dX4_sealInto_14 ⟨Nat.le_of_ble_eq_true rfl, Nat.le_of_ble_eq_true rfl⟩ (fun V14 H locs hp14 hM hS => ?_)
    refine lv_aload_n hx hb dX4_sealInto_17 rfl (lv_at hl 0 rfl) ?_
    refine lv_aload_n hx hb dX4_sealInto_18 rfl (lv_at hl 0 rfl) ?_
    refine w_gr 4 3 9 (T := TX4) (N := 9) hx hb hts in4 hown hK.1 hM (by decide) (by decide) (by decide) (by decide) (by decide) rfl (by decide) k27 rfl dX4_sealInto_19 ?_
    refine w_cVv (C := RX4) (As := [.ref (E.1 + 9)]) (rest := []) ⟨hx, hb, hml, hown, hts⟩ (c_X4_hashWork l rw9 (by decide) (by decide) hp14.1 (by omega)) (cwV 1 hts gX4_sealInto_X4_hashWork rfl rfl rfl (by decide +kernel) ⟨Nat.le_of_ble_eq_true rfl, Nat.le_of_ble_eq_true rfl⟩) (w_recv (ci := 4) hK hM (by decide) (by decide) (by decide) rfl) hM hK hS rfl hl.1 rfl (lv_room (Nat.le_of_ble_eq_true rfl)) dX4_sealInto_22 ⟨Nat.le_of_ble_eq_true rfl, Nat.le_of_ble_eq_true rfl⟩ (fun V22 H locs hp22 hM hS => ?_)
    refine lv_goto (tgt := 36) hx hb dX4_sealInto_25 (by decide) ?_
    exact join36 V22 _ _ _ (sha lk) hp22.1 (by rw [sha_len]; omega) (by unfold kB; rw [if_pos hgt]) ((hr3.otherR hp14.2 (by omega) (by omega) (by omega)).other hp22.2 (by omega) (by omega) (by omega) (by omega)) ((hp14.2.toB (by omega)).trans (hp22.2.wide (by omega) (Or.inr (by omega)))) hM hS (lv_sub hl [0, 1, 2, 3] rfl)

set_option maxHeartbeats 4000000 in
set_option maxRecDepth 100000 in
theorem c_X4_goOnOwn (l : Launch) {E : En} {V : Vt} {k cap b : Nat} (hk : isRow k cap) (hc32 : 32 ≤ cap) (h12 : 18 < k) (hb5 : isLim b) (hb12 : 18 < b) {ls0 lt : List Int32} (hr1 : rowIs V k ls0) (hr2 : rowIs V (b + 1) lt) (h1l : ls0.length ≤ 32) (h2l : lt.length ≤ 60) : CV l yX4_goOnOwn wsX4_goOnOwn 4 E V [.ref (E.1 + 4), .ref (E.1 + k), .ref (E.1 + b)] (fun V' => rowIs V' k (hmac ls0 lt) ∧ frB V V' 5 12 k) := by
  refine Met.ofW (cc := cX4_goOnOwn) (maxL := 3) (ret := none) (by decide) rfl ?_
  intro p e s m args below meth c s₁ B hml hv
  obtain ⟨rfl, hM, hK⟩ := hv
  have hx := B.exec
  have hb := B.bytes
  have hret := B.returns
  have hts := atoms_spec (ws := wsX4_goOnOwn) B.pre
  have hown : s.vm.findClass RX4 = some m.cls := findClass_of_methodNamed B.named
  have hlocks := B.notSynchronized
  have hsz : s.heap.size = E.1 + 610 := hM.1
  have hS : va_S (AE E) s.heap s.heap [] := va_S.rf
  have in1 : ∀ w ∈ u_ws RX1 TX1 2, w ∈ wsX4_goOnOwn := by decide +kernel
  have k65 := hts (.fieldLink RX4 65 "LimitTokens$Limit" "text" "LLimitTokens$Row;") (by decide +kernel)
  have hl := lv_entry ([.ref (E.1 + 4), .ref (E.1 + k), .ref (E.1 + b)]) (n := 3) (Nat.le_of_ble_eq_true rfl)
  rw [lg_entry_eq]
  generalize (lg_sl ([.ref (E.1 + 4), .ref (E.1 + k), .ref (E.1 + b)]) ++ List.replicate (3 - (lg_sl ([.ref (E.1 + 4), .ref (E.1 + k), .ref (E.1 + b)])).length) Slot.unset).toArray = ls at hl ⊢
  have hl : lv_has ls 3 [(0, .ref (E.1 + 4)), (1, .ref (E.1 + k)), (2, .ref (E.1 + b))] := hl
  refine lv_aload_n hx hb dX4_goOnOwn_0 rfl (lv_at hl 0 rfl) ?_
  refine lv_aload_n hx hb dX4_goOnOwn_1 rfl (lv_at hl 1 rfl) ?_
  refine lv_aload_n hx hb dX4_goOnOwn_2 rfl (lv_at hl 1 rfl) ?_
  refine lv_aload_n hx hb dX4_goOnOwn_3 rfl (lv_at hl 2 rfl) ?_
  refine w_gr 1 0 (b + 1) (T := TX1) (N := 2) hx hb hts in1 hown hK.1 hM (hb5).lt (hb5).k (hb5).n (hb5).f0 (by decide) rfl (by decide) k65 rfl dX4_goOnOwn_4 ?_
  refine w_cVv (C := RX4) (As := [.ref (E.1 + k), .ref (E.1 + k), .ref (E.1 + (b + 1))]) (rest := []) ⟨hx, hb, hml, hown, hts⟩ (c_X4_sealInto l hk hc32 (by omega) hk (by omega) hb5.text (by omega) hr1 hr2 (by omega) (by omega) (by omega) (by omega)) (cwV 3 hts gX4_goOnOwn_X4_sealInto rfl rfl rfl (by decide +kernel) ⟨Nat.le_of_ble_eq_true rfl, Nat.le_of_ble_eq_true rfl⟩) (w_recv (ci := 4) hK hM (by decide) (by decide) (by decide) rfl) hM hK hS rfl hl.1 rfl (lv_room (Nat.le_of_ble_eq_true rfl)) dX4_goOnOwn_7 ⟨Nat.le_of_ble_eq_true rfl, Nat.le_of_ble_eq_true rfl⟩ (fun V7 H locs hp7 hM hS => ?_)
  exact w_vret (free := AE E) V7 hx hb hret hK hS hM (hp7) hlocks dX4_goOnOwn_10

set_option maxHeartbeats 4000000 in
set_option maxRecDepth 100000 in
theorem c_X4_goOnOthers (l : Launch) {E : En} {V : Vt} {k cap b : Nat} (hk : isRow k cap) (hc32 : 32 ≤ cap) (h12 : 18 < k) (hb5 : isLim b) (hb12 : 18 < b) (hd : k + 1 < b ∨ b + 4 < k) {ls0 lt lo : List Int32} (hr1 : rowIs V k ls0) (hr2 : rowIs V (b + 1) lt) (hr3 : rowIs V (b + 3) lo) (h1l : ls0.length ≤ 32) (h2l : lt.length ≤ 60) (h3l : lo.length ≤ 32) : CV l yX4_goOnOthers wsX4_goOnOthers 4 E V [.ref (E.1 + 4), .ref (E.1 + k), .ref (E.1 + b)] (fun V' => rowIs V' k (hmac ls0 (hmac ls0 lo ++ hmac ls0 lt)) ∧ frB V V' 5 18 k) := by
  refine Met.ofW (cc := cX4_goOnOthers) (maxL := 3) (ret := none) (by decide) rfl ?_
  intro p e s m args below meth c s₁ B hml hv
  obtain ⟨rfl, hM, hK⟩ := hv
  have hx := B.exec
  have hb := B.bytes
  have hret := B.returns
  have hts := atoms_spec (ws := wsX4_goOnOthers) B.pre
  have hown : s.vm.findClass RX4 = some m.cls := findClass_of_methodNamed B.named
  have hlocks := B.notSynchronized
  have hsz : s.heap.size = E.1 + 610 := hM.1
  have hS : va_S (AE E) s.heap s.heap [] := va_S.rf
  have in1 : ∀ w ∈ u_ws RX1 TX1 2, w ∈ wsX4_goOnOthers := by decide +kernel
  have in4 : ∀ w ∈ u_ws RX4 TX4 9, w ∈ wsX4_goOnOthers := by decide +kernel
  have k39 := hts (.fieldLink RX4 39 "LimitTokens$Sealer" "lockSeal" "LLimitTokens$Row;") (by decide +kernel)
  have k74 := hts (.fieldLink RX4 74 "LimitTokens$Limit" "lock" "LLimitTokens$Row;") (by decide +kernel)
  have k36 := hts (.fieldLink RX4 36 "LimitTokens$Sealer" "textSeal" "LLimitTokens$Row;") (by decide +kernel)
  have k65 := hts (.fieldLink RX4 65 "LimitTokens$Limit" "text" "LLimitTokens$Row;") (by decide +kernel)
  have k33 := hts (.fieldLink RX4 33 "LimitTokens$Sealer" "pair" "LLimitTokens$Row;") (by decide +kernel)
  have hl := lv_entry ([.ref (E.1 + 4), .ref (E.1 + k), .ref (E.1 + b)]) (n := 3) (Nat.le_of_ble_eq_true rfl)
  rw [lg_entry_eq]
  generalize (lg_sl ([.ref (E.1 + 4), .ref (E.1 + k), .ref (E.1 + b)]) ++ List.replicate (3 - (lg_sl ([.ref (E.1 + 4), .ref (E.1 + k), .ref (E.1 + b)])).length) Slot.unset).toArray = ls at hl ⊢
  have hl : lv_has ls 3 [(0, .ref (E.1 + 4)), (1, .ref (E.1 + k)), (2, .ref (E.1 + b))] := hl
  refine lv_aload_n hx hb dX4_goOnOthers_0 rfl (lv_at hl 0 rfl) ?_
  refine lv_aload_n hx hb dX4_goOnOthers_1 rfl (lv_at hl 0 rfl) ?_
  refine w_gr 4 7 17 (T := TX4) (N := 9) hx hb hts in4 hown hK.1 hM (by decide) (by decide) (by decide) (by decide) (by decide) rfl (by decide) k39 rfl dX4_goOnOthers_2 ?_
  refine lv_aload_n hx hb dX4_goOnOthers_5 rfl (lv_at hl 1 rfl) ?_
  refine lv_aload_n hx hb dX4_goOnOthers_6 rfl (lv_at hl 2 rfl) ?_
  refine w_gr 1 1 (b + 3) (T := TX1) (N := 2) hx hb hts in1 hown hK.1 hM (hb5).lt (hb5).k (hb5).n (hb5).f1 (by decide) rfl (by decide) k74 rfl dX4_goOnOthers_7 ?_
  refine w_cVv (C := RX4) (As := [.ref (E.1 + 17), .ref (E.1 + k), .ref (E.1 + (b + 3))]) (rest := []) ⟨hx, hb, hml, hown, hts⟩ (c_X4_sealInto l rw17 (by decide) (by decide) hk (by omega) hb5.lock (by omega) hr1 hr3 (by omega) (by omega) (by omega) (by omega)) (cwV 3 hts gX4_goOnOthers_X4_sealInto rfl rfl rfl (by decide +kernel) ⟨Nat.le_of_ble_eq_true rfl, Nat.le_of_ble_eq_true rfl⟩) (w_recv (ci := 4) hK hM (by decide) (by decide) (by decide) rfl) hM hK hS rfl hl.1 rfl (lv_room (Nat.le_of_ble_eq_true rfl)) dX4_goOnOthers_10 ⟨Nat.le_of_ble_eq_true rfl, Nat.le_of_ble_eq_true rfl⟩ (fun V10 H locs hp10 hM hS => ?_)
  have a1 := hr1.other hp10.2 (by omega) (by omega) (by omega) (by omega)
  have a2 := hr2.other hp10.2 (by omega) (by omega) (by omega) (by omega)
  refine lv_aload_n hx hb dX4_goOnOthers_13 rfl (lv_at hl 0 rfl) ?_
  refine lv_aload_n hx hb dX4_goOnOthers_14 rfl (lv_at hl 0 rfl) ?_
  refine w_gr 4 6 15 (T := TX4) (N := 9) hx hb hts in4 hown hK.1 hM (by decide) (by decide) (by decide) (by decide) (by decide) rfl (by decide) k36 rfl dX4_goOnOthers_15 ?_
  refine lv_aload_n hx hb dX4_goOnOthers_18 rfl (lv_at hl 1 rfl) ?_
  refine lv_aload_n hx hb dX4_goOnOthers_19 rfl (lv_at hl 2 rfl) ?_
  refine w_gr 1 0 (b + 1) (T := TX1) (N := 2) hx hb hts in1 hown hK.1 hM (hb5).lt (hb5).k (hb5).n (hb5).f0 (by decide) rfl (by decide) k65 rfl dX4_goOnOthers_20 ?_
  refine w_cVv (C := RX4) (As := [.ref (E.1 + 15), .ref (E.1 + k), .ref (E.1 + (b + 1))]) (rest := []) ⟨hx, hb, hml, hown, hts⟩ (c_X4_sealInto l rw15 (by decide) (by decide) hk (by omega) hb5.text (by omega) a1 a2 (by omega) (by omega) (by omega) (by omega)) (cwV 3 hts gX4_goOnOthers_X4_sealInto rfl rfl rfl (by decide +kernel) ⟨Nat.le_of_ble_eq_true rfl, Nat.le_of_ble_eq_true rfl⟩) (w_recv (ci := 4) hK hM (by decide) (by decide) (by decide) rfl) hM hK hS rfl hl.1 rfl (lv_room (Nat.le_of_ble_eq_true rfl)) dX4_goOnOthers_23 ⟨Nat.le_of_ble_eq_true rfl, Nat.le_of_ble_eq_true rfl⟩ (fun V23 H locs hp23 hM hS => ?_)
  have b1 := a1.other hp23.2 (by omega) (by omega) (by omega) (by omega)
  have b17 := hp10.1.other hp23.2 (by omega) (by omega) (by omega) (by omega)
  refine lv_aload_n hx hb dX4_goOnOthers_26 rfl (lv_at hl 0 rfl) ?_
  refine w_gr 4 5 13 (T := TX4) (N := 9) hx hb hts in4 hown hK.1 hM (by decide) (by decide) (by decide) (by decide) (by decide) rfl (by decide) k33 rfl dX4_goOnOthers_27 ?_
  refine lv_aload_n hx hb dX4_goOnOthers_30 rfl (lv_at hl 0 rfl) ?_
  refine w_gr 4 7 17 (T := TX4) (N := 9) hx hb hts in4 hown hK.1 hM (by decide) (by decide) (by decide) (by decide) (by decide) rfl (by decide) k39 rfl dX4_goOnOthers_31 ?_
  refine w_cVv (C := RX3) (As := [.ref (E.1 + 17)]) (rest := []) ⟨hx, hb, hml, hown, hts⟩ (c_X3_takeOver l rw13 rw17 b17 (by rw [hmac_len]; omega) (by rw [hmac_len]; omega)) (cwV 1 hts gX4_goOnOthers_X3_takeOver rfl rfl rfl (by decide +kernel) ⟨Nat.le_of_ble_eq_true rfl, Nat.le_of_ble_eq_true rfl⟩) (w_recv (ci := 3) hK hM (by decide) (by decide) (by decide) rfl) hM hK hS rfl hl.1 rfl (lv_room (Nat.le_of_ble_eq_true rfl)) dX4_goOnOthers_34 ⟨Nat.le_of_ble_eq_true rfl, Nat.le_of_ble_eq_true rfl⟩ (fun V34 H locs hp34 hM hS => ?_)
  have c1 := b1.otherR hp34.2 (by omega) (by omega) (by omega)
  have c15 := hp23.1.otherR hp34.2 (by omega) (by omega) (by omega)
  refine lv_aload_n hx hb dX4_goOnOthers_37 rfl (lv_at hl 0 rfl) ?_
  refine w_gr 4 5 13 (T := TX4) (N := 9) hx hb hts in4 hown hK.1 hM (by decide) (by decide) (by decide) (by decide) (by decide) rfl (by decide) k33 rfl dX4_goOnOthers_38 ?_
  refine lv_aload_n hx hb dX4_goOnOthers_41 rfl (lv_at hl 0 rfl) ?_
  refine w_gr 4 6 15 (T := TX4) (N := 9) hx hb hts in4 hown hK.1 hM (by decide) (by decide) (by decide) (by decide) (by decide) rfl (by decide) k36 rfl dX4_goOnOthers_42 ?_
  refine w_cVv (C := RX3) (As := [.ref (E.1 + 15)]) (rest := []) ⟨hx, hb, hml, hown, hts⟩ (c_X3_pushAll l rw13 rw15 (by omega) hp34.1 c15 (by rw [hmac_len]; omega) (by rw [hmac_len, hmac_len]; omega)) (cwV 1 hts gX4_goOnOthers_X3_pushAll rfl rfl rfl (by decide +kernel) ⟨Nat.le_of_ble_eq_true rfl, Nat.le_of_ble_eq_true rfl⟩) (w_recv (ci := 3) hK hM (by decide) (by decide) (by decide) rfl) hM hK hS rfl hl.1 rfl (lv_room (Nat.le_of_ble_eq_true rfl)) dX4_goOnOthers_45 ⟨Nat.le_of_ble_eq_true rfl, Nat.le_of_ble_eq_true rfl⟩ (fun V45 H locs hp45 hM hS => ?_)
  have d1 := c1.otherR hp45.2 (by omega) (by omega) (by omega)
  refine lv_aload_n hx hb dX4_goOnOthers_48 rfl (lv_at hl 0 rfl) ?_
  refine lv_aload_n hx hb dX4_goOnOthers_49 rfl (lv_at hl 1 rfl) ?_
  refine lv_aload_n hx hb dX4_goOnOthers_50 rfl (lv_at hl 1 rfl) ?_
  refine lv_aload_n hx hb dX4_goOnOthers_51 rfl (lv_at hl 0 rfl) ?_
  refine w_gr 4 5 13 (T := TX4) (N := 9) hx hb hts in4 hown hK.1 hM (by decide) (by decide) (by decide) (by decide) (by decide) rfl (by decide) k33 rfl dX4_goOnOthers_52 ?_
  refine w_cVv (C := RX4) (As := [.ref (E.1 + k), .ref (E.1 + k), .ref (E.1 + 13)]) (rest := []) ⟨hx, hb, hml, hown, hts⟩ (c_X4_sealInto l hk hc32 (by omega) hk (by omega) rw13 (by omega) d1 hp45.1 (by omega) (by rw [List.length_append, hmac_len, hmac_len]; omega) (by omega) (by rw [List.length_append, hmac_len, hmac_len]; omega)) (cwV 3 hts gX4_goOnOthers_X4_sealInto rfl rfl rfl (by decide +kernel) ⟨Nat.le_of_ble_eq_true rfl, Nat.le_of_ble_eq_true rfl⟩) (w_recv (ci := 4) hK hM (by decide) (by decide) (by decide) rfl) hM hK hS rfl hl.1 rfl (lv_room (Nat.le_of_ble_eq_true rfl)) dX4_goOnOthers_55 ⟨Nat.le_of_ble_eq_true rfl, Nat.le_of_ble_eq_true rfl⟩ (fun V55 H locs hp55 hM hS => ?_)
  exact w_vret (free := AE E) V55 hx hb hret hK hS hM (⟨hp55.1, ((hp10.2.wide (by omega) (Or.inr (by omega))).trans (hp23.2.wide (by omega) (Or.inr (by omega)))).trans (((hp34.2.toB (by omega)).trans (hp45.2.toB (by omega))).trans (hp55.2.wide (by omega) (Or.inl rfl)))⟩) hlocks dX4_goOnOthers_58

set_option maxHeartbeats 4000000 in
set_option maxRecDepth 100000 in
theorem c_X4_turnKey (l : Launch) {E : En} {V : Vt} {k cap k2 cap2 k3 cap3 k4 cap4 : Nat} (hk : isRow k cap) (hc32 : 32 ≤ cap) (h12 : 18 < k) (hk2 : isRow k2 cap2) (h212 : 18 < k2) (hk3 : isRow k3 cap3) (h312 : 18 < k3) (hk4 : isRow k4 cap4) (h412 : 18 < k4) {l2 l3 l4 : List Int32} (hr2 : rowIs V k2 l2) (hr3 : rowIs V k3 l3) (hr4 : rowIs V k4 l4) (h2l : l2.length = 32) (h2c : 32 ≤ cap2) (h3l : l3.length ≤ 32) (h3c : 32 ≤ cap3) (h4l : l4.length ≤ 60) (h4c : 60 ≤ cap4) : CV l yX4_turnKey wsX4_turnKey 4 E V [.ref (E.1 + 4), .ref (E.1 + k), .ref (E.1 + k2), .ref (E.1 + k3), .ref (E.1 + k4)] (fun V' => rowIs V' k (xorL l2 (hmac l3 l4)) ∧ frB V V' 5 18 k) := by
  refine Met.ofW (cc := cX4_turnKey) (maxL := 6) (ret := none) (by decide) rfl ?_
  intro p e s m args below meth c s₁ B hml hv
  obtain ⟨rfl, hM, hK⟩ := hv
  have hx := B.exec
  have hb := B.bytes
  have hret := B.returns
  have hts := atoms_spec (ws := wsX4_turnKey) B.pre
  have hown : s.vm.findClass RX4 = some m.cls := findClass_of_methodNamed B.named
  have hlocks := B.notSynchronized
  have hsz : s.heap.size = E.1 + 610 := hM.1
  have hS : va_S (AE E) s.heap s.heap [] := va_S.rf
  have in4 : ∀ w ∈ u_ws RX4 TX4 9, w ∈ wsX4_turnKey := by decide +kernel
  have k36 := hts (.fieldLink RX4 36 "LimitTokens$Sealer" "textSeal" "LLimitTokens$Row;") (by decide +kernel)
  have hl := lv_entry ([.ref (E.1 + 4), .ref (E.1 + k), .ref (E.1 + k2), .ref (E.1 + k3), .ref (E.1 + k4)]) (n := 6) (Nat.le_of_ble_eq_true rfl)
  rw [lg_entry_eq]
  generalize (lg_sl ([.ref (E.1 + 4), .ref (E.1 + k), .ref (E.1 + k2), .ref (E.1 + k3), .ref (E.1 + k4)]) ++ List.replicate (6 - (lg_sl ([.ref (E.1 + 4), .ref (E.1 + k), .ref (E.1 + k2), .ref (E.1 + k3), .ref (E.1 + k4)])).length) Slot.unset).toArray = ls at hl ⊢
  have hl : lv_has ls 6 [(0, .ref (E.1 + 4)), (1, .ref (E.1 + k)), (2, .ref (E.1 + k2)), (3, .ref (E.1 + k3)), (4, .ref (E.1 + k4))] := hl
  have hh := hmac_len l3 l4
  have hle : l2.length = (hmac l3 l4).length := by omega
  refine lv_aload_n hx hb dX4_turnKey_0 rfl (lv_at hl 0 rfl) ?_
  refine lv_aload_n hx hb dX4_turnKey_1 rfl (lv_at hl 0 rfl) ?_
  refine w_gr 4 6 15 (T := TX4) (N := 9) hx hb hts in4 hown hK.1 hM (by decide) (by decide) (by decide) (by decide) (by decide) rfl (by decide) k36 rfl dX4_turnKey_2 ?_
  refine lv_aload_n hx hb dX4_turnKey_5 rfl (lv_at hl 3 rfl) ?_
  refine lv_aload hx hb dX4_turnKey_6 (lv_at hl 4 rfl) ?_
  refine w_cVv (C := RX4) (As := [.ref (E.1 + 15), .ref (E.1 + k3), .ref (E.1 + k4)]) (rest := []) ⟨hx, hb, hml, hown, hts⟩ (c_X4_sealInto l rw15 (by decide) (by decide) hk3 (by omega) hk4 (by omega) hr3 hr4 (by omega) (by omega) (by omega) (by omega)) (cwV 3 hts gX4_turnKey_X4_sealInto rfl rfl rfl (by decide +kernel) ⟨Nat.le_of_ble_eq_true rfl, Nat.le_of_ble_eq_true rfl⟩) (w_recv (ci := 4) hK hM (by decide) (by decide) (by decide) rfl) hM hK hS rfl hl.1 rfl (lv_room (Nat.le_of_ble_eq_true rfl)) dX4_turnKey_8 ⟨Nat.le_of_ble_eq_true rfl, Nat.le_of_ble_eq_true rfl⟩ (fun V8 H locs hp8 hM hS => ?_)
  have a2 := hr2.other hp8.2 (by omega) (by omega) (by omega) (by omega)
  refine lv_aload_n hx hb dX4_turnKey_11 rfl (lv_at hl 1 rfl) ?_
  refine lv_aload_n hx hb dX4_turnKey_12 rfl (lv_at hl 2 rfl) ?_
  refine w_cVv (C := RX3) (As := [.ref (E.1 + k2)]) (rest := []) ⟨hx, hb, hml, hown, hts⟩ (c_X3_takeOver l hk hk2 a2 (by omega) (by omega)) (cwV 1 hts gX4_turnKey_X3_takeOver rfl rfl rfl (by decide +kernel) ⟨Nat.le_of_ble_eq_true rfl, Nat.le_of_ble_eq_true rfl⟩) (w_recv (ci := 3) hK hM (hk).lt (hk).k (by decide) rfl) hM hK hS rfl hl.1 rfl (lv_room (Nat.le_of_ble_eq_true rfl)) dX4_turnKey_13 ⟨Nat.le_of_ble_eq_true rfl, Nat.le_of_ble_eq_true rfl⟩ (fun V13 H locs hp13 hM hS => ?_)
  have a15 := hp8.1.otherR hp13.2 (by omega) (by omega) (by omega)
  refine lv_iconst (v := 0) hx hb dX4_turnKey_16 (by decide) ?_
  refine lv_istore (lv' := [(5, .int 0), (0, .ref (E.1 + 4)), (1, .ref (E.1 + k)), (2, .ref (E.1 + k2)), (3, .ref (E.1 + k3)), (4, .ref (E.1 + k4))]) hx hb dX4_turnKey_17 hl (by decide) rfl (fun ls hl => ?_)
  have loop19 : ∀ (fu : Nat) (Vw : Vt) (H : Heap) (locs : List Loc) (ls : Array Slot) (j : Nat) (hj : j ≤ 32) (hr : rowIs Vw k (xorJ l2 (hmac l3 l4) j)) (hf : frR V13 Vw k), 32 - j < fu → Wd E Vw H → va_S (AE E) s.heap H locs → lv_has ls 6 [(0, .ref (E.1 + 4)), (1, .ref (E.1 + k)), (5, .int (nI j))] → W p l e (headSpec wsX4_turnKey (rmD 4)).room s m ([.ref (E.1 + 4), .ref (E.1 + k), .ref (E.1 + k2), .ref (E.1 + k3), .ref (E.1 + k4)] : List Value).toArray below meth c H locs 0 0 (MQ below (QV E (fun V' => Wd E V') (fun V' => rowIs V' k (xorL l2 (hmac l3 l4)) ∧ frB V V' 5 18 k)) ([.ref (E.1 + 4), .ref (E.1 + k), .ref (E.1 + k2), .ref (E.1 + k3), .ref (E.1 + k4)] : List Value).toArray s 0 0 (AE E)) (F0 m 19 ls []) := by
    intro fu
    induction fu with
    | zero => intros; omega
    | succ fu ih =>
      intro Vw H locs ls j hj hr hf hfu hM hS hl
      have b15 := a15.otherR hf (by omega) (by omega) (by omega)
      refine lv_iload hx hb dX4_turnKey_19 (lv_at hl 2 rfl) ?_
      refine lv_bipush (v := 32) hx hb dX4_turnKey_21 (by decide) ?_
      refine lv_icmp_ge (tgt := 48) hx hb dX4_turnKey_23 (by decide) (fun c_23 => ?_) (fun c_23 => ?_)
      · exact w_vret (free := AE E) Vw hx hb hret hK hS hM (by have := nI_lei (a := 32) rfl c_23 (by omega) (by omega); have h32 : j = l2.length := (by omega); subst h32; rw [xorJ_all hle] at hr; exact ⟨hr, (hp8.2.wide (by omega) (Or.inr (by omega))).trans (hp13.2.toK.trans hf.toK)⟩) hlocks dX4_turnKey_48
      · have hlt := nI_ltn (a := 32) rfl c_23 (by omega) (by omega)
        refine lv_aload_n hx hb dX4_turnKey_26 rfl (lv_at hl 1 rfl) ?_
        refine lv_iload hx hb dX4_turnKey_27 (lv_at hl 2 rfl) ?_
        refine lv_aload_n hx hb dX4_turnKey_29 rfl (lv_at hl 0 rfl) ?_
        refine w_gr 4 6 15 (T := TX4) (N := 9) hx hb hts in4 hown hK.1 hM (by decide) (by decide) (by decide) (by decide) (by decide) rfl (by decide) k36 rfl dX4_turnKey_30 ?_
        refine lv_iload hx hb dX4_turnKey_33 (lv_at hl 2 rfl) ?_
        refine w_cVi (C := RX3) (As := [.int (nI j)]) (rest := [.int (nI j), .ref (E.1 + k)]) ⟨hx, hb, hml, hown, hts⟩ (c_X3_byteAt l rw15 b15 (by omega) (nI j)) (cwV 1 hts gX4_turnKey_X3_byteAt rfl rfl rfl (by decide +kernel) ⟨Nat.le_of_ble_eq_true rfl, Nat.le_of_ble_eq_true rfl⟩) (w_recv (ci := 3) hK hM (by decide) (by decide) (by decide) rfl) hM hK hS rfl hl.1 rfl (lv_room (Nat.le_of_ble_eq_true rfl)) dX4_turnKey_35 ⟨Nat.le_of_ble_eq_true rfl, Nat.le_of_ble_eq_true rfl⟩ (fun r35 V35 H locs hp35 hM hS => ?_)
        obtain ⟨er35, eV⟩ := hp35
        rw [eV] at hM; clear eV
        have q : (r35 : Int32) = (hmac l3 l4).getD j 0 := er35.trans (bAt_in rfl (by omega) (by omega))
        refine lv_eqi q ?_
        refine w_cVi (C := RX3) (As := [.int (nI j), .int ((hmac l3 l4).getD j 0)]) (rest := []) ⟨hx, hb, hml, hown, hts⟩ (c_X3_flip l hk hr (by rw [xorJ_len hle]; omega) (j := j) (by rw [xorJ_len hle]; omega) ((hmac l3 l4).getD j 0)) (cwV 2 hts gX4_turnKey_X3_flip rfl rfl rfl (by decide +kernel) ⟨Nat.le_of_ble_eq_true rfl, Nat.le_of_ble_eq_true rfl⟩) (w_recv (ci := 3) hK hM (hk).lt (hk).k (by decide) rfl) hM hK hS rfl hl.1 rfl (lv_room (Nat.le_of_ble_eq_true rfl)) dX4_turnKey_38 ⟨Nat.le_of_ble_eq_true rfl, Nat.le_of_ble_eq_true rfl⟩ (fun r38 V38 H locs hp38 hM hS => ?_)
        refine lv_pop hx hb dX4_turnKey_41 rfl ?_
        obtain ⟨x5_42, ex5_42⟩ : ∃ y : Int32, y = (nI j) + 1 := ⟨_, rfl⟩
        refine lv_iinc (v := x5_42) (lv' := [(5, .int x5_42), (0, .ref (E.1 + 4)), (1, .ref (E.1 + k))]) hx hb dX4_turnKey_42 hl (k := 2) rfl (by rw [ex5_42]; rfl) (by decide) rfl (fun ls hl => ?_)
        refine lv_goto (tgt := 19) hx hb dX4_turnKey_45 (by decide) ?_
        subst ex5_42
        rw [nI_1] at hl
        exact ih V38 _ _ _ (j + 1) (by omega) (by rw [← xorJ_s hle (by omega)]; exact hp38.2.1) (hf.trans hp38.2.2) (by omega) hM hS (lv_sub hl [1, 2, 0] rfl)
  exact loop19 _ V13 _ _ _ 0 (Nat.zero_le _) (by rw [xorJ_0]; exact hp13.1) (frR.rf) (Nat.lt_succ_self _) hM hS (lv_sub hl [1, 2, 0] rfl)

set_option maxHeartbeats 4000000 in
set_option maxRecDepth 100000 in
theorem c_X4_bindSign (l : Launch) {E : En} {V : Vt} {k cap k2 cap2 : Nat} (hk : isRow k cap) (hc32 : 32 ≤ cap) (h12 : 20 < k) (hk2 : isRow k2 cap2) (h212 : 20 < k2) {l1 l2 : List Int32} (hr1 : rowIs V k l1) (hr2 : rowIs V k2 l2) (h1l : l1.length = 32) (h2l : l2.length = 32) (h2c : 32 ≤ cap2) (h19 : rowIs V 19 (List.replicate 32 0)) : CV l yX4_bindSign wsX4_bindSign 4 E V [.ref (E.1 + 4), .ref (E.1 + k), .ref (E.1 + k2)] (fun V' => rowIs V' k (hmac (List.replicate 32 0) (l2 ++ l1)) ∧ frB V V' 5 18 k) := by
  refine Met.ofW (cc := cX4_bindSign) (maxL := 3) (ret := none) (by decide) rfl ?_
  intro p e s m args below meth c s₁ B hml hv
  obtain ⟨rfl, hM, hK⟩ := hv
  have hx := B.exec
  have hb := B.bytes
  have hret := B.returns
  have hts := atoms_spec (ws := wsX4_bindSign) B.pre
  have hown : s.vm.findClass RX4 = some m.cls := findClass_of_methodNamed B.named
  have hlocks := B.notSynchronized
  have hsz : s.heap.size = E.1 + 610 := hM.1
  have hS : va_S (AE E) s.heap s.heap [] := va_S.rf
  have in4 : ∀ w ∈ u_ws RX4 TX4 9, w ∈ wsX4_bindSign := by decide +kernel
  have k33 := hts (.fieldLink RX4 33 "LimitTokens$Sealer" "pair" "LLimitTokens$Row;") (by decide +kernel)
  have k42 := hts (.fieldLink RX4 42 "LimitTokens$Sealer" "zeroKey" "LLimitTokens$Row;") (by decide +kernel)
  have hl := lv_entry ([.ref (E.1 + 4), .ref (E.1 + k), .ref (E.1 + k2)]) (n := 3) (Nat.le_of_ble_eq_true rfl)
  rw [lg_entry_eq]
  generalize (lg_sl ([.ref (E.1 + 4), .ref (E.1 + k), .ref (E.1 + k2)]) ++ List.replicate (3 - (lg_sl ([.ref (E.1 + 4), .ref (E.1 + k), .ref (E.1 + k2)])).length) Slot.unset).toArray = ls at hl ⊢
  have hl : lv_has ls 3 [(0, .ref (E.1 + 4)), (1, .ref (E.1 + k)), (2, .ref (E.1 + k2))] := hl
  refine lv_aload_n hx hb dX4_bindSign_0 rfl (lv_at hl 0 rfl) ?_
  refine w_gr 4 5 13 (T := TX4) (N := 9) hx hb hts in4 hown hK.1 hM (by decide) (by decide) (by decide) (by decide) (by decide) rfl (by decide) k33 rfl dX4_bindSign_1 ?_
  refine lv_aload_n hx hb dX4_bindSign_4 rfl (lv_at hl 2 rfl) ?_
  refine w_cVv (C := RX3) (As := [.ref (E.1 + k2)]) (rest := []) ⟨hx, hb, hml, hown, hts⟩ (c_X3_takeOver l rw13 hk2 hr2 (by omega) (by omega)) (cwV 1 hts gX4_bindSign_X3_takeOver rfl rfl rfl (by decide +kernel) ⟨Nat.le_of_ble_eq_true rfl, Nat.le_of_ble_eq_true rfl⟩) (w_recv (ci := 3) hK hM (by decide) (by decide) (by decide) rfl) hM hK hS rfl hl.1 rfl (lv_room (Nat.le_of_ble_eq_true rfl)) dX4_bindSign_5 ⟨Nat.le_of_ble_eq_true rfl, Nat.le_of_ble_eq_true rfl⟩ (fun V5 H locs hp5 hM hS => ?_)
  have a1 := hr1.otherR hp5.2 (by omega) (by omega) (by omega)
  have a19 := h19.otherR hp5.2 (by omega) (by omega) (by omega)
  refine lv_aload_n hx hb dX4_bindSign_8 rfl (lv_at hl 0 rfl) ?_
  refine w_gr 4 5 13 (T := TX4) (N := 9) hx hb hts in4 hown hK.1 hM (by decide) (by decide) (by decide) (by decide) (by decide) rfl (by decide) k33 rfl dX4_bindSign_9 ?_
  refine lv_aload_n hx hb dX4_bindSign_12 rfl (lv_at hl 1 rfl) ?_
  refine w_cVv (C := RX3) (As := [.ref (E.1 + k)]) (rest := []) ⟨hx, hb, hml, hown, hts⟩ (c_X3_pushAll l rw13 hk (by omega) hp5.1 a1 (by omega) (by omega)) (cwV 1 hts gX4_bindSign_X3_pushAll rfl rfl rfl (by decide +kernel) ⟨Nat.le_of_ble_eq_true rfl, Nat.le_of_ble_eq_true rfl⟩) (w_recv (ci := 3) hK hM (by decide) (by decide) (by decide) rfl) hM hK hS rfl hl.1 rfl (lv_room (Nat.le_of_ble_eq_true rfl)) dX4_bindSign_13 ⟨Nat.le_of_ble_eq_true rfl, Nat.le_of_ble_eq_true rfl⟩ (fun V13 H locs hp13 hM hS => ?_)
  have b19 := a19.otherR hp13.2 (by omega) (by omega) (by omega)
  refine lv_aload_n hx hb dX4_bindSign_16 rfl (lv_at hl 0 rfl) ?_
  refine lv_aload_n hx hb dX4_bindSign_17 rfl (lv_at hl 1 rfl) ?_
  refine lv_aload_n hx hb dX4_bindSign_18 rfl (lv_at hl 0 rfl) ?_
  refine w_gr 4 8 19 (T := TX4) (N := 9) hx hb hts in4 hown hK.1 hM (by decide) (by decide) (by decide) (by decide) (by decide) rfl (by decide) k42 rfl dX4_bindSign_19 ?_
  refine lv_aload_n hx hb dX4_bindSign_22 rfl (lv_at hl 0 rfl) ?_
  refine w_gr 4 5 13 (T := TX4) (N := 9) hx hb hts in4 hown hK.1 hM (by decide) (by decide) (by decide) (by decide) (by decide) rfl (by decide) k33 rfl dX4_bindSign_23 ?_
  refine w_cVv (C := RX4) (As := [.ref (E.1 + k), .ref (E.1 + 19), .ref (E.1 + 13)]) (rest := []) ⟨hx, hb, hml, hown, hts⟩ (c_X4_sealInto l hk hc32 (by omega) rw19 (by decide) rw13 (by decide) b19 hp13.1 (by simp) (by rw [List.length_append]; omega) (by simp) (by rw [List.length_append]; omega)) (cwV 3 hts gX4_bindSign_X4_sealInto rfl rfl rfl (by decide +kernel) ⟨Nat.le_of_ble_eq_true rfl, Nat.le_of_ble_eq_true rfl⟩) (w_recv (ci := 4) hK hM (by decide) (by decide) (by decide) rfl) hM hK hS rfl hl.1 rfl (lv_room (Nat.le_of_ble_eq_true rfl)) dX4_bindSign_26 ⟨Nat.le_of_ble_eq_true rfl, Nat.le_of_ble_eq_true rfl⟩ (fun V26 H locs hp26 hM hS => ?_)
  exact w_vret (free := AE E) V26 hx hb hret hK hS hM (⟨hp26.1, ((hp5.2.toB (by omega)).trans (hp13.2.toB (by omega))).trans (hp26.2.wide (by omega) (Or.inl rfl))⟩) hlocks dX4_bindSign_29
