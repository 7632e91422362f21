set_option maxHeartbeats 4000000 in
set_option maxRecDepth 100000 in
theorem c_X4_startWork (l : Launch) {E : En} {V : Vt} {kb : List Int32} (h9 : rowIs V 9 kb) (hlen : kb.length = 64) (mask : Int32) : CV l yX4_startWork wsX4_startWork 1 E V [.ref (E.1 + 4), .int mask] (fun V' => rowIs V' 7 (kb.map (fun x => x ^^^ mask)) ∧ frR V V' 7) := by
  refine Met.ofW (cc := cX4_startWork) (maxL := 3) (ret := none) (by decide) rfl ?_
  intro p e s m args below meth c s₁ B hml hv
  obtain ⟨rfl, hM, hK⟩ := hv
  have hx := B.exec
  have hb := B.bytes
  have hr := B.returns
  have hts := atoms_spec (ws := wsX4_startWork) B.pre
  have hown : s.vm.findClass RX4 = some m.cls := findClass_of_methodNamed B.named
  have hlocks := B.notSynchronized
  have hsz : s.heap.size = E.1 + 610 := hM.1
  have hS : va_S (AE E) s.heap s.heap [] := va_S.rf
  have in3 : ∀ w ∈ u_ws RX3 TX3 2, w ∈ wsX4_startWork := by decide +kernel
  have in4 : ∀ w ∈ u_ws RX4 TX4 9, w ∈ wsX4_startWork := by decide +kernel
  have k23 := hts (.fieldLink RX4 23 "LimitTokens$Sealer" "work" "LLimitTokens$Row;") (by decide +kernel)
  have k27 := hts (.fieldLink RX4 27 "LimitTokens$Sealer" "keyBlock" "LLimitTokens$Row;") (by decide +kernel)
  have k55 := hts (.fieldLink RX4 55 "LimitTokens$Row" "length" "I") (by decide +kernel)
  have hl := lv_entry ([.ref (E.1 + 4), .int mask]) (n := 3) (Nat.le_of_ble_eq_true rfl)
  rw [lg_entry_eq]
  generalize (lg_sl ([.ref (E.1 + 4), .int mask]) ++ List.replicate (3 - (lg_sl ([.ref (E.1 + 4), .int mask])).length) Slot.unset).toArray = ls at hl ⊢
  have hl : lv_has ls 3 [(0, .ref (E.1 + 4)), (1, .int mask)] := hl
  refine lv_aload_n hx hb dX4_startWork_0 rfl (lv_at hl 0 rfl) ?_
  refine w_gr 4 2 7 (T := TX4) (N := 9) hx hb hts in4 hown hK.1 hM (by decide) (by decide) (by decide) (by decide) (by decide) rfl (by decide) k23 rfl dX4_startWork_1 ?_
  refine w_cVv (C := RX3) (As := []) (rest := []) ⟨hx, hb, hml, hown, hts⟩ (c_X3_makeEmpty l rw7) (cwV 0 hts gX4_startWork_X3_makeEmpty rfl rfl rfl (by decide +kernel) ⟨Nat.le_of_ble_eq_true rfl, Nat.le_of_ble_eq_true rfl⟩) (w_recv (ci := 3) hK hM (by decide) (by decide) (by decide) rfl) hM hK hS rfl hl.1 rfl (lv_room (Nat.le_of_ble_eq_true rfl)) dX4_startWork_4 ⟨Nat.le_of_ble_eq_true rfl, Nat.le_of_ble_eq_true rfl⟩ (fun V4 H locs hp4 hM hS => ?_)
  refine lv_iconst (v := 0) hx hb dX4_startWork_7 (by decide) ?_
  refine lv_istore_n (lv' := [(2, .int 0), (0, .ref (E.1 + 4)), (1, .int mask)]) hx hb dX4_startWork_8 rfl hl (by decide) rfl (fun ls hl => ?_)
  have loop9 : ∀ (fu : Nat) (Vw : Vt) (H : Heap) (locs : List Loc) (ls : Array Slot) (j : Nat) (x : Int32) (ex : x = nI j) (hj : j ≤ 64) (hw : rowIs Vw 7 ((kb.take j).map (fun x => x ^^^ mask))) (hf : frR V Vw 7), 64 - j < fu → Wd E Vw H → va_S (AE E) s.heap H locs → lv_has ls 3 [(0, .ref (E.1 + 4)), (1, .int mask), (2, .int x)] → W p l e (headSpec wsX4_startWork (rmD 1)).room s m ([.ref (E.1 + 4), .int mask] : List Value).toArray below meth c H locs 0 0 (MQ below (QV E (fun V' => Wd E V') (fun V' => rowIs V' 7 (kb.map (fun x => x ^^^ mask)) ∧ frR V V' 7)) ([.ref (E.1 + 4), .int mask] : List Value).toArray s 0 0 (AE E)) (F0 m 9 ls []) := by
    intro fu
    induction fu with
    | zero => intros; omega
    | succ fu ih =>
      intro Vw H locs ls j x ex hj hw hf hfu hM hS hl
      have h9w : rowIs Vw 9 kb := h9.otherR hf (by decide) (by decide) (by decide)
      refine lv_iload_n hx hb dX4_startWork_9 rfl (lv_at hl 2 rfl) ?_
      refine lv_aload_n hx hb dX4_startWork_10 rfl (lv_at hl 0 rfl) ?_
      refine w_gr 4 3 9 (T := TX4) (N := 9) hx hb hts in4 hown hK.1 hM (by decide) (by decide) (by decide) (by decide) (by decide) rfl (by decide) k27 rfl dX4_startWork_11 ?_
      refine w_gi 3 1 (T := TX3) (N := 2) hx hb hts in3 hown hK.1 hM (by decide) (by decide) (by decide) (by decide) (by decide) rfl (by decide) k55 rfl dX4_startWork_14 ?_
      refine lv_eqi (show Vw 9 1 = nI kb.length from h9w.1) ?_
      refine lv_icmp_ge (tgt := 43) hx hb dX4_startWork_17 (by decide) (fun c_17 => ?_) (fun c_17 => ?_)
      · exact w_vret (free := AE E) Vw hx hb hr hK hS hM (by have := nI_lei ex c_17 (by omega) (by omega); rw [List.take_of_length_le (by omega)] at hw; exact ⟨hw, hf⟩) hlocks dX4_startWork_43
      · have hlt := nI_ltn ex c_17 (by omega) (by omega)
        refine lv_aload_n hx hb dX4_startWork_20 rfl (lv_at hl 0 rfl) ?_
        refine w_gr 4 2 7 (T := TX4) (N := 9) hx hb hts in4 hown hK.1 hM (by decide) (by decide) (by decide) (by decide) (by decide) rfl (by decide) k23 rfl dX4_startWork_21 ?_
        refine lv_aload_n hx hb dX4_startWork_24 rfl (lv_at hl 0 rfl) ?_
        refine w_gr 4 3 9 (T := TX4) (N := 9) hx hb hts in4 hown hK.1 hM (by decide) (by decide) (by decide) (by decide) (by decide) rfl (by decide) k27 rfl dX4_startWork_25 ?_
        refine lv_iload_n hx hb dX4_startWork_28 rfl (lv_at hl 2 rfl) ?_
        refine w_cVi (C := RX3) (As := [.int x]) (rest := [.ref (E.1 + 7)]) ⟨hx, hb, hml, hown, hts⟩ (c_X3_byteAt l rw9 (b := kb) h9w (by omega) x) (cwV 1 hts gX4_startWork_X3_byteAt rfl rfl rfl (by decide +kernel) ⟨Nat.le_of_ble_eq_true rfl, Nat.le_of_ble_eq_true rfl⟩) (w_recv (ci := 3) hK hM (by decide) (by decide) (by decide) rfl) hM hK hS rfl hl.1 rfl (lv_room (Nat.le_of_ble_eq_true rfl)) dX4_startWork_29 ⟨Nat.le_of_ble_eq_true rfl, Nat.le_of_ble_eq_true rfl⟩ (fun r29 V29 H locs hp29 hM hS => ?_)
        obtain ⟨er29, eV⟩ := hp29
        rw [eV] at hM; clear eV
        refine lv_eqi (show r29 = kb.getD j 0 from er29.trans (bAt_in ex (by omega) (by omega))) ?_
        refine lv_iload_n hx hb dX4_startWork_32 rfl (lv_at hl 1 rfl) ?_
        refine lv_ixor hx hb dX4_startWork_33 ?_
        refine w_cVv (C := RX3) (As := [.int ((kb.getD j 0) ^^^ mask)]) (rest := []) ⟨hx, hb, hml, hown, hts⟩ (c_X3_push l rw7 hw (by simp; omega) (kb.getD j 0 ^^^ mask)) (cwV 1 hts gX4_startWork_X3_push rfl rfl rfl (by decide +kernel) ⟨Nat.le_of_ble_eq_true rfl, Nat.le_of_ble_eq_true rfl⟩) (w_recv (ci := 3) hK hM (by decide) (by decide) (by decide) rfl) hM hK hS rfl hl.1 rfl (lv_room (Nat.le_of_ble_eq_true rfl)) dX4_startWork_34 ⟨Nat.le_of_ble_eq_true rfl, Nat.le_of_ble_eq_true rfl⟩ (fun V34 H locs hp34 hM hS => ?_)
        obtain ⟨x2_37, ex2_37⟩ : ∃ y : Int32, y = x + 1 := ⟨_, rfl⟩
        refine lv_iinc (v := x2_37) (lv' := [(2, .int x2_37), (0, .ref (E.1 + 4)), (1, .int mask)]) hx hb dX4_startWork_37 hl (k := 2) rfl (by rw [ex2_37]; rfl) (by decide) rfl (fun ls hl => ?_)
        refine lv_goto (tgt := 9) hx hb dX4_startWork_40 (by decide) ?_
        exact ih V34 _ _ _ (j + 1) _ (by rw [ex2_37, ex, nI_1]) (by omega) (by rw [map_take_s (by omega)]; exact hp34.1) (hf.trans hp34.2) (by omega) hM hS (lv_sub hl [1, 2, 0] rfl)
  exact loop9 _ V4 _ _ _ 0 0 (rfl) (Nat.zero_le _) (hp4.1) (hp4.2) (Nat.lt_succ_self _) hM hS (lv_sub hl [1, 2, 0] rfl)

set_option maxHeartbeats 4000000 in
set_option maxRecDepth 100000 in
theorem c_X4_spreadWords (l : Launch) {E : En} {V : Vt} {a : Nat} (ha : a + 64 ≤ 256) : CV l yX4_spreadWords wsX4_spreadWords 0 E V [.ref (E.1 + 4), .int (nI a)] (fun V' => (∀ t, t < 64 → V' 6 t = sched (be32 (V 8) a) 48 t) ∧ ∀ j, j ≠ 6 → V' j = V j) := by
  refine Met.ofW (cc := cX4_spreadWords) (maxL := 6) (ret := none) (by decide) rfl ?_
  intro p e s m args below meth c s₁ B hml hv
  obtain ⟨rfl, hM, hK⟩ := hv
  have hx := B.exec
  have hb := B.bytes
  have hr := B.returns
  have hts := atoms_spec (ws := wsX4_spreadWords) B.pre
  have hown : s.vm.findClass RX4 = some m.cls := findClass_of_methodNamed B.named
  have hlocks := B.notSynchronized
  have hsz : s.heap.size = E.1 + 610 := hM.1
  have hS : va_S (AE E) s.heap s.heap [] := va_S.rf
  have in3 : ∀ w ∈ u_ws RX3 TX3 2, w ∈ wsX4_spreadWords := by decide +kernel
  have in4 : ∀ w ∈ u_ws RX4 TX4 9, w ∈ wsX4_spreadWords := by decide +kernel
  have k23 := hts (.fieldLink RX4 23 "LimitTokens$Sealer" "work" "LLimitTokens$Row;") (by decide +kernel)
  have k112 := hts (.fieldLink RX4 112 "LimitTokens$Row" "bytes" "[I") (by decide +kernel)
  have k15 := hts (.fieldLink RX4 15 "LimitTokens$Sealer" "words" "[I") (by decide +kernel)
  have hl := lv_entry ([.ref (E.1 + 4), .int (nI a)]) (n := 6) (Nat.le_of_ble_eq_true rfl)
  rw [lg_entry_eq]
  generalize (lg_sl ([.ref (E.1 + 4), .int (nI a)]) ++ List.replicate (6 - (lg_sl ([.ref (E.1 + 4), .int (nI a)])).length) Slot.unset).toArray = ls at hl ⊢
  have hl : lv_has ls 6 [(0, .ref (E.1 + 4)), (1, .int (nI a))] := hl
  refine lv_aload_n hx hb dX4_spreadWords_0 rfl (lv_at hl 0 rfl) ?_
  refine w_gr 4 2 7 (T := TX4) (N := 9) hx hb hts in4 hown hK.1 hM (by decide) (by decide) (by decide) (by decide) (by decide) rfl (by decide) k23 rfl dX4_spreadWords_1 ?_
  refine w_gr 3 0 8 (T := TX3) (N := 2) hx hb hts in3 hown hK.1 hM (by decide) (by decide) (by decide) (by decide) (by decide) rfl (by decide) k112 rfl dX4_spreadWords_4 ?_
  refine lv_astore_n (lv' := [(2, .ref (E.1 + 8)), (0, .ref (E.1 + 4)), (1, .int (nI a))]) hx hb dX4_spreadWords_7 rfl hl (by decide) rfl (fun ls hl => ?_)
  refine lv_iconst (v := 0) hx hb dX4_spreadWords_8 (by decide) ?_
  refine lv_istore_n (lv' := [(3, .int 0), (2, .ref (E.1 + 8)), (0, .ref (E.1 + 4)), (1, .int (nI a))]) hx hb dX4_spreadWords_9 rfl hl (by decide) rfl (fun ls hl => ?_)
  have loop10 : ∀ (fu : Nat) (Vw : Vt) (H : Heap) (locs : List Loc) (ls : Array Slot) (j : Nat) (x : Int32) (ex : x = nI j) (hj : j ≤ 16) (hw : ∀ t, t < j → Vw 6 t = be32 (V 8) a t) (hf : ∀ i, i ≠ 6 → Vw i = V i), 16 - j < fu → Wd E Vw H → va_S (AE E) s.heap H locs → lv_has ls 6 [(0, .ref (E.1 + 4)), (1, .int (nI a)), (2, .ref (E.1 + 8)), (3, .int x)] → W p l e (headSpec wsX4_spreadWords (rmD 0)).room s m ([.ref (E.1 + 4), .int (nI a)] : List Value).toArray below meth c H locs 0 0 (MQ below (QV E (fun V' => Wd E V') (fun V' => (∀ t, t < 64 → V' 6 t = sched (be32 (V 8) a) 48 t) ∧ ∀ j, j ≠ 6 → V' j = V j)) ([.ref (E.1 + 4), .int (nI a)] : List Value).toArray s 0 0 (AE E)) (F0 m 10 ls []) := by
    intro fu
    induction fu with
    | zero => intros; omega
    | succ fu ih =>
      intro Vw H locs ls j x ex hj hw hf hfu hM hS hl
      refine lv_iload_n hx hb dX4_spreadWords_10 rfl (lv_at hl 3 rfl) ?_
      refine lv_bipush (v := 16) hx hb dX4_spreadWords_11 (by decide) ?_
      refine lv_icmp_ge (tgt := 69) hx hb dX4_spreadWords_13 (by decide) (fun c_13 => ?_) (fun c_13 => ?_)
      · refine lv_bipush (v := 16) hx hb dX4_spreadWords_69 (by decide) ?_
        refine lv_istore_n (lv' := [(3, .int 16), (0, .ref (E.1 + 4)), (1, .int (nI a)), (2, .ref (E.1 + 8))]) hx hb dX4_spreadWords_71 rfl hl (by decide) rfl (fun ls hl => ?_)
        have loop72 : ∀ (fu : Nat) (Vz : Vt) (H : Heap) (locs : List Loc) (ls : Array Slot) (n : Nat) (x : Int32) (ex : x = nI (16 + n)) (hn : n ≤ 48) (hz : ∀ t, t < 16 + n → Vz 6 t = sched (be32 (V 8) a) n t) (hfz : ∀ i, i ≠ 6 → Vz i = V i), 48 - n < fu → Wd E Vz H → va_S (AE E) s.heap H locs → lv_has ls 6 [(0, .ref (E.1 + 4)), (3, .int x)] → W p l e (headSpec wsX4_spreadWords (rmD 0)).room s m ([.ref (E.1 + 4), .int (nI a)] : List Value).toArray below meth c H locs 0 0 (MQ below (QV E (fun V' => Wd E V') (fun V' => (∀ t, t < 64 → V' 6 t = sched (be32 (V 8) a) 48 t) ∧ ∀ j, j ≠ 6 → V' j = V j)) ([.ref (E.1 + 4), .int (nI a)] : List Value).toArray s 0 0 (AE E)) (F0 m 72 ls []) := by
          intro fu
          induction fu with
          | zero => intros; omega
          | succ fu ih =>
            intro Vz H locs ls n x ex hn hz hfz hfu hM hS hl
            refine lv_iload_n hx hb dX4_spreadWords_72 rfl (lv_at hl 1 rfl) ?_
            refine lv_bipush (v := 64) hx hb dX4_spreadWords_73 (by decide) ?_
            refine lv_icmp_ge (tgt := 189) hx hb dX4_spreadWords_75 (by decide) (fun c_75 => ?_) (fun c_75 => ?_)
            · exact w_vret (free := AE E) Vz hx hb hr hK hS hM (by have := nI_lei (a := 64) ex c_75 (by omega) (by omega); have h48 : n = 48 := (by omega); subst h48; exact ⟨hz, hfz⟩) hlocks dX4_spreadWords_189
            · have hlt := nI_ltn (a := 64) ex c_75 (by omega) (by omega)
              have s15 := nI_sub' ex 15 (b := 15) rfl (by omega)
              have s2 := nI_sub' ex 2 (b := 2) rfl (by omega)
              have s16 := nI_sub' ex 16 (b := 16) rfl (by omega)
              have s7 := nI_sub' ex 7 (b := 7) rfl (by omega)
              refine lv_aload_n hx hb dX4_spreadWords_78 rfl (lv_at hl 0 rfl) ?_
              refine w_gr 4 1 6 (T := TX4) (N := 9) hx hb hts in4 hown hK.1 hM (by decide) (by decide) (by decide) (by decide) (by decide) rfl (by decide) k15 rfl dX4_spreadWords_79 ?_
              refine lv_iload_n hx hb dX4_spreadWords_82 rfl (lv_at hl 1 rfl) ?_
              refine lv_bipush (v := 15) hx hb dX4_spreadWords_83 (by decide) ?_
              refine lv_isub hx hb dX4_spreadWords_85 ?_
              refine w_ild (N := 64) hx hb hK.1 hM (by decide) (by decide) (by decide) (by rw [s15]; exact vp_in_nI (by omega) (by omega)) dX4_spreadWords_86 ?_
              refine lv_topi (fun x4_87 ex4_87 => ?_)
              refine lv_istore (lv' := [(4, .int x4_87), (0, .ref (E.1 + 4)), (3, .int x)]) hx hb dX4_spreadWords_87 hl (by decide) rfl (fun ls hl => ?_)
              refine lv_aload_n hx hb dX4_spreadWords_89 rfl (lv_at hl 1 rfl) ?_
              refine w_gr 4 1 6 (T := TX4) (N := 9) hx hb hts in4 hown hK.1 hM (by decide) (by decide) (by decide) (by decide) (by decide) rfl (by decide) k15 rfl dX4_spreadWords_90 ?_
              refine lv_iload_n hx hb dX4_spreadWords_93 rfl (lv_at hl 2 rfl) ?_
              refine lv_iconst (v := 2) hx hb dX4_spreadWords_94 (by decide) ?_
              refine lv_isub hx hb dX4_spreadWords_95 ?_
              refine w_ild (N := 64) hx hb hK.1 hM (by decide) (by decide) (by decide) (by rw [s2]; exact vp_in_nI (by omega) (by omega)) dX4_spreadWords_96 ?_
              refine lv_topi (fun x5_97 ex5_97 => ?_)
              refine lv_istore (lv' := [(5, .int x5_97), (4, .int x4_87), (0, .ref (E.1 + 4)), (3, .int x)]) hx hb dX4_spreadWords_97 hl (by decide) rfl (fun ls hl => ?_)
              refine lv_aload_n hx hb dX4_spreadWords_99 rfl (lv_at hl 2 rfl) ?_
              refine w_gr 4 1 6 (T := TX4) (N := 9) hx hb hts in4 hown hK.1 hM (by decide) (by decide) (by decide) (by decide) (by decide) rfl (by decide) k15 rfl dX4_spreadWords_100 ?_
              refine lv_iload_n hx hb dX4_spreadWords_103 rfl (lv_at hl 3 rfl) ?_
              refine lv_aload_n hx hb dX4_spreadWords_104 rfl (lv_at hl 2 rfl) ?_
              refine w_gr 4 1 6 (T := TX4) (N := 9) hx hb hts in4 hown hK.1 hM (by decide) (by decide) (by decide) (by decide) (by decide) rfl (by decide) k15 rfl dX4_spreadWords_105 ?_
              refine lv_iload_n hx hb dX4_spreadWords_108 rfl (lv_at hl 3 rfl) ?_
              refine lv_bipush (v := 16) hx hb dX4_spreadWords_109 (by decide) ?_
              refine lv_isub hx hb dX4_spreadWords_111 ?_
              refine w_ild (N := 64) hx hb hK.1 hM (by decide) (by decide) (by decide) (by rw [s16]; exact vp_in_nI (by omega) (by omega)) dX4_spreadWords_112 ?_
              refine lv_iload hx hb dX4_spreadWords_113 (lv_at hl 1 rfl) ?_
              refine lv_bipush (v := 7) hx hb dX4_spreadWords_115 (by decide) ?_
              refine lv_iushr hx hb dX4_spreadWords_117 rfl ?_
              refine lv_iload hx hb dX4_spreadWords_118 (lv_at hl 1 rfl) ?_
              refine lv_bipush (v := 25) hx hb dX4_spreadWords_120 (by decide) ?_
              refine lv_ishl hx hb dX4_spreadWords_122 ?_
              refine lv_ior hx hb dX4_spreadWords_123 ?_
              refine lv_iload hx hb dX4_spreadWords_124 (lv_at hl 1 rfl) ?_
              refine lv_bipush (v := 18) hx hb dX4_spreadWords_126 (by decide) ?_
              refine lv_iushr hx hb dX4_spreadWords_128 rfl ?_
              refine lv_iload hx hb dX4_spreadWords_129 (lv_at hl 1 rfl) ?_
              refine lv_bipush (v := 14) hx hb dX4_spreadWords_131 (by decide) ?_
              refine lv_ishl hx hb dX4_spreadWords_133 ?_
              refine lv_ior hx hb dX4_spreadWords_134 ?_
              refine lv_ixor hx hb dX4_spreadWords_135 ?_
              refine lv_iload hx hb dX4_spreadWords_136 (lv_at hl 1 rfl) ?_
              refine lv_iconst (v := 3) hx hb dX4_spreadWords_138 (by decide) ?_
              refine lv_iushr hx hb dX4_spreadWords_139 rfl ?_
              refine lv_ixor hx hb dX4_spreadWords_140 ?_
              refine lv_iadd hx hb dX4_spreadWords_141 ?_
              refine lv_aload_n hx hb dX4_spreadWords_142 rfl (lv_at hl 2 rfl) ?_
              refine w_gr 4 1 6 (T := TX4) (N := 9) hx hb hts in4 hown hK.1 hM (by decide) (by decide) (by decide) (by decide) (by decide) rfl (by decide) k15 rfl dX4_spreadWords_143 ?_
              refine lv_iload_n hx hb dX4_spreadWords_146 rfl (lv_at hl 3 rfl) ?_
              refine lv_bipush (v := 7) hx hb dX4_spreadWords_147 (by decide) ?_
              refine lv_isub hx hb dX4_spreadWords_149 ?_
              refine w_ild (N := 64) hx hb hK.1 hM (by decide) (by decide) (by decide) (by rw [s7]; exact vp_in_nI (by omega) (by omega)) dX4_spreadWords_150 ?_
              refine lv_iadd hx hb dX4_spreadWords_151 ?_
              refine lv_iload hx hb dX4_spreadWords_152 (lv_at hl 0 rfl) ?_
              refine lv_bipush (v := 17) hx hb dX4_spreadWords_154 (by decide) ?_
              refine lv_iushr hx hb dX4_spreadWords_156 rfl ?_
              refine lv_iload hx hb dX4_spreadWords_157 (lv_at hl 0 rfl) ?_
              refine lv_bipush (v := 15) hx hb dX4_spreadWords_159 (by decide) ?_
              refine lv_ishl hx hb dX4_spreadWords_161 ?_
              refine lv_ior hx hb dX4_spreadWords_162 ?_
              refine lv_iload hx hb dX4_spreadWords_163 (lv_at hl 0 rfl) ?_
              refine lv_bipush (v := 19) hx hb dX4_spreadWords_165 (by decide) ?_
              refine lv_iushr hx hb dX4_spreadWords_167 rfl ?_
              refine lv_iload hx hb dX4_spreadWords_168 (lv_at hl 0 rfl) ?_
              refine lv_bipush (v := 13) hx hb dX4_spreadWords_170 (by decide) ?_
              refine lv_ishl hx hb dX4_spreadWords_172 ?_
              refine lv_ior hx hb dX4_spreadWords_173 ?_
              refine lv_ixor hx hb dX4_spreadWords_174 ?_
              refine lv_iload hx hb dX4_spreadWords_175 (lv_at hl 0 rfl) ?_
              refine lv_bipush (v := 10) hx hb dX4_spreadWords_177 (by decide) ?_
              refine lv_iushr hx hb dX4_spreadWords_179 rfl ?_
              refine lv_ixor hx hb dX4_spreadWords_180 ?_
              refine lv_iadd hx hb dX4_spreadWords_181 ?_
              refine w_ist (N := 64) hx hb hK.1 hM hS (by decide) (by decide) (by decide) (by rw [ex]; exact vp_in_nI (by omega) (by omega)) dX4_spreadWords_182 (fun H locs hM hS => ?_)
              generalize hV182 : up2 Vz 6 x.toNatClampNeg ((((Vz 6 (x - 16).toNatClampNeg) + (((((x4_87.toUInt32 >>> ((7 : Int32).toUInt32 &&& Int32.toUInt32 31)).toInt32) ||| (x4_87 <<< (25 &&& 31))) ^^^ (((x4_87.toUInt32 >>> ((18 : Int32).toUInt32 &&& Int32.toUInt32 31)).toInt32) ||| (x4_87 <<< (14 &&& 31)))) ^^^ ((x4_87.toUInt32 >>> ((3 : Int32).toUInt32 &&& Int32.toUInt32 31)).toInt32))) + (Vz 6 (x - 7).toNatClampNeg)) + (((((x5_97.toUInt32 >>> ((17 : Int32).toUInt32 &&& Int32.toUInt32 31)).toInt32) ||| (x5_97 <<< (15 &&& 31))) ^^^ (((x5_97.toUInt32 >>> ((19 : Int32).toUInt32 &&& Int32.toUInt32 31)).toInt32) ||| (x5_97 <<< (13 &&& 31)))) ^^^ ((x5_97.toUInt32 >>> ((10 : Int32).toUInt32 &&& Int32.toUInt32 31)).toInt32))) = V182 at hM
              have hz2 : ∀ t, t < 16 + (n + 1) → V182 6 t = sched (be32 (V 8) a) (n + 1) t := by
                subst hV182
                intro t ht
                show _ = upd (sched (be32 (V 8) a) n) (16 + n) _ t
                rw [ex, nI_clamp (by omega)]
                by_cases e : t = 16 + n
                · subst e
                  rw [up2_s, ex4_87, ex5_97, rt_7, rt_18, rt_17, rt_19, s15, s2, ← ex, s16, s7, nI_clamp (by omega), nI_clamp (by omega), nI_clamp (by omega), nI_clamp (by omega), hz _ (by omega), hz _ (by omega), hz _ (by omega), hz _ (by omega), pk_us]
                  rfl
                · rw [up2_o _ _ e, pk_un e]
                  exact hz t (by omega)
              obtain ⟨x3_183, ex3_183⟩ : ∃ y : Int32, y = x + 1 := ⟨_, rfl⟩
              refine lv_iinc (v := x3_183) (lv' := [(3, .int x3_183), (5, .int x5_97), (4, .int x4_87), (0, .ref (E.1 + 4))]) hx hb dX4_spreadWords_183 hl (k := 3) rfl (by rw [ex3_183]; rfl) (by decide) rfl (fun ls hl => ?_)
              refine lv_goto (tgt := 72) hx hb dX4_spreadWords_186 (by decide) ?_
              exact ih V182 _ _ _ (n + 1) _ (by rw [ex3_183, ex, nI_1]; rfl) (by omega) hz2 (fun i hi => by subst hV182; rw [up2_k _ _ hi]; exact hfz i hi) (by omega) hM hS (lv_sub hl [3, 0] rfl)
        exact loop72 _ Vw _ _ _ 0 16 (rfl) (Nat.zero_le _) (fun t ht => hw t (by have := nI_lei (a := 16) ex c_13 (by omega) (by omega); omega)) (hf) (Nat.lt_succ_self _) hM hS (lv_sub hl [1, 0] rfl)
      · have hlt := nI_ltn (a := 16) ex c_13 (by omega) (by omega)
        refine lv_iload_n hx hb dX4_spreadWords_16 rfl (lv_at hl 1 rfl) ?_
        refine lv_iconst (v := 4) hx hb dX4_spreadWords_17 (by decide) ?_
        refine lv_iload_n hx hb dX4_spreadWords_18 rfl (lv_at hl 3 rfl) ?_
        refine lv_imul hx hb dX4_spreadWords_19 ?_
        refine lv_iadd hx hb dX4_spreadWords_20 ?_
        refine lv_topi (fun x4_21 ex4_21 => ?_)
        refine lv_istore (lv' := [(4, .int x4_21), (0, .ref (E.1 + 4)), (1, .int (nI a)), (2, .ref (E.1 + 8)), (3, .int x)]) hx hb dX4_spreadWords_21 hl (by decide) rfl (fun ls hl => ?_)
        have e4 : x4_21 = nI (a + 4 * j) := by rw [ex4_21, ex, nI_mul4]
        have e5 : x4_21 + 1 = nI (a + 4 * j + 1) := by rw [e4, nI_1]
        have e6 : x4_21 + 2 = nI (a + 4 * j + 2) := by rw [e4]; exact nI_add _ 2
        have e7 : x4_21 + 3 = nI (a + 4 * j + 3) := by rw [e4]; exact nI_add _ 3
        refine lv_aload_n hx hb dX4_spreadWords_23 rfl (lv_at hl 1 rfl) ?_
        refine w_gr 4 1 6 (T := TX4) (N := 9) hx hb hts in4 hown hK.1 hM (by decide) (by decide) (by decide) (by decide) (by decide) rfl (by decide) k15 rfl dX4_spreadWords_24 ?_
        refine lv_iload_n hx hb dX4_spreadWords_27 rfl (lv_at hl 4 rfl) ?_
        refine lv_aload_n hx hb dX4_spreadWords_28 rfl (lv_at hl 3 rfl) ?_
        refine lv_iload hx hb dX4_spreadWords_29 (lv_at hl 0 rfl) ?_
        refine w_ild (N := 256) hx hb hK.1 hM (by decide) (by decide) (by decide) (by rw [e4]; exact vp_in_nI (by omega) (by omega)) dX4_spreadWords_31 ?_
        refine lv_bipush (v := 24) hx hb dX4_spreadWords_32 (by decide) ?_
        refine lv_ishl hx hb dX4_spreadWords_34 ?_
        refine lv_aload_n hx hb dX4_spreadWords_35 rfl (lv_at hl 3 rfl) ?_
        refine lv_iload hx hb dX4_spreadWords_36 (lv_at hl 0 rfl) ?_
        refine lv_iconst (v := 1) hx hb dX4_spreadWords_38 (by decide) ?_
        refine lv_iadd hx hb dX4_spreadWords_39 ?_
        refine w_ild (N := 256) hx hb hK.1 hM (by decide) (by decide) (by decide) (by rw [e5]; exact vp_in_nI (by omega) (by omega)) dX4_spreadWords_40 ?_
        refine lv_bipush (v := 16) hx hb dX4_spreadWords_41 (by decide) ?_
        refine lv_ishl hx hb dX4_spreadWords_43 ?_
        refine lv_ior hx hb dX4_spreadWords_44 ?_
        refine lv_aload_n hx hb dX4_spreadWords_45 rfl (lv_at hl 3 rfl) ?_
        refine lv_iload hx hb dX4_spreadWords_46 (lv_at hl 0 rfl) ?_
        refine lv_iconst (v := 2) hx hb dX4_spreadWords_48 (by decide) ?_
        refine lv_iadd hx hb dX4_spreadWords_49 ?_
        refine w_ild (N := 256) hx hb hK.1 hM (by decide) (by decide) (by decide) (by rw [e6]; exact vp_in_nI (by omega) (by omega)) dX4_spreadWords_50 ?_
        refine lv_bipush (v := 8) hx hb dX4_spreadWords_51 (by decide) ?_
        refine lv_ishl hx hb dX4_spreadWords_53 ?_
        refine lv_ior hx hb dX4_spreadWords_54 ?_
        refine lv_aload_n hx hb dX4_spreadWords_55 rfl (lv_at hl 3 rfl) ?_
        refine lv_iload hx hb dX4_spreadWords_56 (lv_at hl 0 rfl) ?_
        refine lv_iconst (v := 3) hx hb dX4_spreadWords_58 (by decide) ?_
        refine lv_iadd hx hb dX4_spreadWords_59 ?_
        refine w_ild (N := 256) hx hb hK.1 hM (by decide) (by decide) (by decide) (by rw [e7]; exact vp_in_nI (by omega) (by omega)) dX4_spreadWords_60 ?_
        refine lv_ior hx hb dX4_spreadWords_61 ?_
        refine w_ist (N := 64) hx hb hK.1 hM hS (by decide) (by decide) (by decide) (by rw [ex]; exact vp_in_nI (by omega) (by omega)) dX4_spreadWords_62 (fun H locs hM hS => ?_)
        generalize hV62 : up2 Vw 6 x.toNatClampNeg (((((Vw 8 x4_21.toNatClampNeg) <<< (24 &&& 31)) ||| ((Vw 8 (x4_21 + 1).toNatClampNeg) <<< (16 &&& 31))) ||| ((Vw 8 (x4_21 + 2).toNatClampNeg) <<< (8 &&& 31))) ||| (Vw 8 (x4_21 + 3).toNatClampNeg)) = V62 at hM
        have hw2 : ∀ t, t < j + 1 → V62 6 t = be32 (V 8) a t := by
          subst hV62
          rw [ex, nI_clamp (by omega)]
          exact lt_s (fun t ht => by rw [up2_o _ _ (by omega)]; exact hw t ht) (by rw [up2_s, e4, nI_clamp (by omega), nI_1, nI_clamp (by omega), show nI (a + 4 * j) + 2 = nI (a + 4 * j + 2) from nI_add _ 2, nI_clamp (by omega), show nI (a + 4 * j) + 3 = nI (a + 4 * j + 3) from nI_add _ 3, nI_clamp (by omega), hf 8 (by decide)]; rfl)
        obtain ⟨x3_63, ex3_63⟩ : ∃ y : Int32, y = x + 1 := ⟨_, rfl⟩
        refine lv_iinc (v := x3_63) (lv' := [(3, .int x3_63), (4, .int x4_21), (0, .ref (E.1 + 4)), (1, .int (nI a)), (2, .ref (E.1 + 8))]) hx hb dX4_spreadWords_63 hl (k := 4) rfl (by rw [ex3_63]; rfl) (by decide) rfl (fun ls hl => ?_)
        refine lv_goto (tgt := 10) hx hb dX4_spreadWords_66 (by decide) ?_
        exact ih V62 _ _ _ (j + 1) _ (by rw [ex3_63, ex, nI_1]) (by omega) hw2 (fun i hi => by subst hV62; rw [up2_k _ _ hi]; exact hf i hi) (by omega) hM hS (lv_sub hl [2, 3, 4, 0] rfl)
  exact loop10 _ V _ _ _ 0 0 (rfl) (Nat.zero_le _) (lt_0) (fun _ _ => rfl) (Nat.lt_succ_self _) hM hS (lv_sub hl [2, 3, 1, 0] rfl)

set_option maxHeartbeats 4000000 in
set_option maxRecDepth 100000 in
theorem c_X4_mixWords (l : Launch) {E : En} {V : Vt}  : CV l yX4_mixWords wsX4_mixWords 0 E V [.ref (E.1 + 4)] (fun V' => (∀ i, i < 8 → V' 5 i = V 5 i + rnds (V 6) (V 5) 64 i) ∧ ∀ j, j ≠ 5 → V' j = V j) := by
  refine Met.ofW (cc := cX4_mixWords) (maxL := 12) (ret := none) (by decide) rfl ?_
  intro p e s m args below meth c s₁ B hml hv
  obtain ⟨rfl, hM, hK⟩ := hv
  have hx := B.exec
  have hb := B.bytes
  have hr := B.returns
  have hts := atoms_spec (ws := wsX4_mixWords) B.pre
  have hown : s.vm.findClass RX4 = some m.cls := findClass_of_methodNamed B.named
  have hlocks := B.notSynchronized
  have hsz : s.heap.size = E.1 + 610 := hM.1
  have hS : va_S (AE E) s.heap s.heap [] := va_S.rf
  have in4 : ∀ w ∈ u_ws RX4 TX4 9, w ∈ wsX4_mixWords := by decide +kernel
  have k11 := hts (.fieldLink RX4 11 "LimitTokens$Sealer" "state" "[I") (by decide +kernel)
  have k15 := hts (.fieldLink RX4 15 "LimitTokens$Sealer" "words" "[I") (by decide +kernel)
  have hl := lv_entry ([.ref (E.1 + 4)]) (n := 12) (Nat.le_of_ble_eq_true rfl)
  rw [lg_entry_eq]
  generalize (lg_sl ([.ref (E.1 + 4)]) ++ List.replicate (12 - (lg_sl ([.ref (E.1 + 4)])).length) Slot.unset).toArray = ls at hl ⊢
  have hl : lv_has ls 12 [(0, .ref (E.1 + 4))] := hl
  obtain ⟨t1, t2, hZ1, hT1, hZ2, hT2⟩ := id hK.2
  refine lv_aload_n hx hb dX4_mixWords_0 rfl (lv_at hl 0 rfl) ?_
  refine w_gr 4 0 5 (T := TX4) (N := 9) hx hb hts in4 hown hK.1 hM (by decide) (by decide) (by decide) (by decide) (by decide) rfl (by decide) k11 rfl dX4_mixWords_1 ?_
  refine lv_iconst (v := 0) hx hb dX4_mixWords_4 (by decide) ?_
  refine w_ild (N := 8) hx hb hK.1 hM (by decide) (by decide) (by decide) (vp_in_nI (n := 0) (by omega) (by omega)) dX4_mixWords_5 ?_
  refine lv_eqi (congrArg (V 5) (show (0 : Int32).toNatClampNeg = 0 by decide)) ?_
  refine lv_topi (fun x1_6 ex1_6 => ?_)
  refine lv_istore_n (lv' := [(1, .int x1_6), (0, .ref (E.1 + 4))]) hx hb dX4_mixWords_6 rfl hl (by decide) rfl (fun ls hl => ?_)
  refine lv_aload_n hx hb dX4_mixWords_7 rfl (lv_at hl 1 rfl) ?_
  refine w_gr 4 0 5 (T := TX4) (N := 9) hx hb hts in4 hown hK.1 hM (by decide) (by decide) (by decide) (by decide) (by decide) rfl (by decide) k11 rfl dX4_mixWords_8 ?_
  refine lv_iconst (v := 1) hx hb dX4_mixWords_11 (by decide) ?_
  refine w_ild (N := 8) hx hb hK.1 hM (by decide) (by decide) (by decide) (vp_in_nI (n := 1) (by omega) (by omega)) dX4_mixWords_12 ?_
  refine lv_eqi (congrArg (V 5) (show (1 : Int32).toNatClampNeg = 1 by decide)) ?_
  refine lv_topi (fun x2_13 ex2_13 => ?_)
  refine lv_istore_n (lv' := [(2, .int x2_13), (1, .int x1_6), (0, .ref (E.1 + 4))]) hx hb dX4_mixWords_13 rfl hl (by decide) rfl (fun ls hl => ?_)
  refine lv_aload_n hx hb dX4_mixWords_14 rfl (lv_at hl 2 rfl) ?_
  refine w_gr 4 0 5 (T := TX4) (N := 9) hx hb hts in4 hown hK.1 hM (by decide) (by decide) (by decide) (by decide) (by decide) rfl (by decide) k11 rfl dX4_mixWords_15 ?_
  refine lv_iconst (v := 2) hx hb dX4_mixWords_18 (by decide) ?_
  refine w_ild (N := 8) hx hb hK.1 hM (by decide) (by decide) (by decide) (vp_in_nI (n := 2) (by omega) (by omega)) dX4_mixWords_19 ?_
  refine lv_eqi (congrArg (V 5) (show (2 : Int32).toNatClampNeg = 2 by decide)) ?_
  refine lv_topi (fun x3_20 ex3_20 => ?_)
  refine lv_istore_n (lv' := [(3, .int x3_20), (2, .int x2_13), (1, .int x1_6), (0, .ref (E.1 + 4))]) hx hb dX4_mixWords_20 rfl hl (by decide) rfl (fun ls hl => ?_)
  refine lv_aload_n hx hb dX4_mixWords_21 rfl (lv_at hl 3 rfl) ?_
  refine w_gr 4 0 5 (T := TX4) (N := 9) hx hb hts in4 hown hK.1 hM (by decide) (by decide) (by decide) (by decide) (by decide) rfl (by decide) k11 rfl dX4_mixWords_22 ?_
  refine lv_iconst (v := 3) hx hb dX4_mixWords_25 (by decide) ?_
  refine w_ild (N := 8) hx hb hK.1 hM (by decide) (by decide) (by decide) (vp_in_nI (n := 3) (by omega) (by omega)) dX4_mixWords_26 ?_
  refine lv_eqi (congrArg (V 5) (show (3 : Int32).toNatClampNeg = 3 by decide)) ?_
  refine lv_topi (fun x4_27 ex4_27 => ?_)
  refine lv_istore (lv' := [(4, .int x4_27), (3, .int x3_20), (2, .int x2_13), (1, .int x1_6), (0, .ref (E.1 + 4))]) hx hb dX4_mixWords_27 hl (by decide) rfl (fun ls hl => ?_)
  refine lv_aload_n hx hb dX4_mixWords_29 rfl (lv_at hl 4 rfl) ?_
  refine w_gr 4 0 5 (T := TX4) (N := 9) hx hb hts in4 hown hK.1 hM (by decide) (by decide) (by decide) (by decide) (by decide) rfl (by decide) k11 rfl dX4_mixWords_30 ?_
  refine lv_iconst (v := 4) hx hb dX4_mixWords_33 (by decide) ?_
  refine w_ild (N := 8) hx hb hK.1 hM (by decide) (by decide) (by decide) (vp_in_nI (n := 4) (by omega) (by omega)) dX4_mixWords_34 ?_
  refine lv_eqi (congrArg (V 5) (show (4 : Int32).toNatClampNeg = 4 by decide)) ?_
  refine lv_topi (fun x5_35 ex5_35 => ?_)
  refine lv_istore (lv' := [(5, .int x5_35), (4, .int x4_27), (3, .int x3_20), (2, .int x2_13), (1, .int x1_6), (0, .ref (E.1 + 4))]) hx hb dX4_mixWords_35 hl (by decide) rfl (fun ls hl => ?_)
  refine lv_aload_n hx hb dX4_mixWords_37 rfl (lv_at hl 5 rfl) ?_
  refine w_gr 4 0 5 (T := TX4) (N := 9) hx hb hts in4 hown hK.1 hM (by decide) (by decide) (by decide) (by decide) (by decide) rfl (by decide) k11 rfl dX4_mixWords_38 ?_
  refine lv_iconst (v := 5) hx hb dX4_mixWords_41 (by decide) ?_
  refine w_ild (N := 8) hx hb hK.1 hM (by decide) (by decide) (by decide) (vp_in_nI (n := 5) (by omega) (by omega)) dX4_mixWords_42 ?_
  refine lv_eqi (congrArg (V 5) (show (5 : Int32).toNatClampNeg = 5 by decide)) ?_
  refine lv_topi (fun x6_43 ex6_43 => ?_)
  refine lv_istore (lv' := [(6, .int x6_43), (5, .int x5_35), (4, .int x4_27), (3, .int x3_20), (2, .int x2_13), (1, .int x1_6), (0, .ref (E.1 + 4))]) hx hb dX4_mixWords_43 hl (by decide) rfl (fun ls hl => ?_)
  refine lv_aload_n hx hb dX4_mixWords_45 rfl (lv_at hl 6 rfl) ?_
  refine w_gr 4 0 5 (T := TX4) (N := 9) hx hb hts in4 hown hK.1 hM (by decide) (by decide) (by decide) (by decide) (by decide) rfl (by decide) k11 rfl dX4_mixWords_46 ?_
  refine lv_bipush (v := 6) hx hb dX4_mixWords_49 (by decide) ?_
  refine w_ild (N := 8) hx hb hK.1 hM (by decide) (by decide) (by decide) (vp_in_nI (n := 6) (by omega) (by omega)) dX4_mixWords_51 ?_
  refine lv_eqi (congrArg (V 5) (show (6 : Int32).toNatClampNeg = 6 by decide)) ?_
  refine lv_topi (fun x7_52 ex7_52 => ?_)
  refine lv_istore (lv' := [(7, .int x7_52), (6, .int x6_43), (5, .int x5_35), (4, .int x4_27), (3, .int x3_20), (2, .int x2_13), (1, .int x1_6), (0, .ref (E.1 + 4))]) hx hb dX4_mixWords_52 hl (by decide) rfl (fun ls hl => ?_)
  refine lv_aload_n hx hb dX4_mixWords_54 rfl (lv_at hl 7 rfl) ?_
  refine w_gr 4 0 5 (T := TX4) (N := 9) hx hb hts in4 hown hK.1 hM (by decide) (by decide) (by decide) (by decide) (by decide) rfl (by decide) k11 rfl dX4_mixWords_55 ?_
  refine lv_bipush (v := 7) hx hb dX4_mixWords_58 (by decide) ?_
  refine w_ild (N := 8) hx hb hK.1 hM (by decide) (by decide) (by decide) (vp_in_nI (n := 7) (by omega) (by omega)) dX4_mixWords_60 ?_
  refine lv_eqi (congrArg (V 5) (show (7 : Int32).toNatClampNeg = 7 by decide)) ?_
  refine lv_topi (fun x8_61 ex8_61 => ?_)
  refine lv_istore (lv' := [(8, .int x8_61), (7, .int x7_52), (6, .int x6_43), (5, .int x5_35), (4, .int x4_27), (3, .int x3_20), (2, .int x2_13), (1, .int x1_6), (0, .ref (E.1 + 4))]) hx hb dX4_mixWords_61 hl (by decide) rfl (fun ls hl => ?_)
  refine lv_iconst (v := 0) hx hb dX4_mixWords_63 (by decide) ?_
  refine lv_istore (lv' := [(9, .int 0), (8, .int x8_61), (7, .int x7_52), (6, .int x6_43), (5, .int x5_35), (4, .int x4_27), (3, .int x3_20), (2, .int x2_13), (1, .int x1_6), (0, .ref (E.1 + 4))]) hx hb dX4_mixWords_64 hl (by decide) rfl (fun ls hl => ?_)
  have loop66 : ∀ (fu : Nat) (Vw : Vt) (H : Heap) (locs : List Loc) (ls : Array Slot) (n : Nat) (a1 : Int32) (a2 : Int32) (a3 : Int32) (a4 : Int32) (a5 : Int32) (a6 : Int32) (a7 : Int32) (a8 : Int32) (x : Int32) (eV : Vw = V) (ex : x = nI n) (hn : n ≤ 64) (e1 : a1 = rnds (V 6) (V 5) n 0) (e2 : a2 = rnds (V 6) (V 5) n 1) (e3 : a3 = rnds (V 6) (V 5) n 2) (e4 : a4 = rnds (V 6) (V 5) n 3) (e5 : a5 = rnds (V 6) (V 5) n 4) (e6 : a6 = rnds (V 6) (V 5) n 5) (e7 : a7 = rnds (V 6) (V 5) n 6) (e8 : a8 = rnds (V 6) (V 5) n 7), 64 - n < fu → Wd E Vw H → va_S (AE E) s.heap H locs → lv_has ls 12 [(0, .ref (E.1 + 4)), (1, .int a1), (2, .int a2), (3, .int a3), (4, .int a4), (5, .int a5), (6, .int a6), (7, .int a7), (8, .int a8), (9, .int x)] → W p l e (headSpec wsX4_mixWords (rmD 0)).room s m ([.ref (E.1 + 4)] : List Value).toArray below meth c H locs 0 0 (MQ below (QV E (fun V' => Wd E V') (fun V' => (∀ i, i < 8 → V' 5 i = V 5 i + rnds (V 6) (V 5) 64 i) ∧ ∀ j, j ≠ 5 → V' j = V j)) ([.ref (E.1 + 4)] : List Value).toArray s 0 0 (AE E)) (F0 m 66 ls []) := by
    intro fu
    induction fu with
    | zero => intros; omega
    | succ fu ih =>
      intro Vw H locs ls n a1 a2 a3 a4 a5 a6 a7 a8 x eV ex hn e1 e2 e3 e4 e5 e6 e7 e8 hfu hM hS hl
      refine lv_iload hx hb dX4_mixWords_66 (lv_at hl 9 rfl) ?_
      refine lv_bipush (v := 64) hx hb dX4_mixWords_68 (by decide) ?_
      refine lv_icmp_ge (tgt := 222) hx hb dX4_mixWords_70 (by decide) (fun c_70 => ?_) (fun c_70 => ?_)
      · refine lv_aload_n hx hb dX4_mixWords_222 rfl (lv_at hl 0 rfl) ?_
        refine w_gr 4 0 5 (T := TX4) (N := 9) hx hb hts in4 hown hK.1 hM (by decide) (by decide) (by decide) (by decide) (by decide) rfl (by decide) k11 rfl dX4_mixWords_223 ?_
        refine lv_iconst (v := 0) hx hb dX4_mixWords_226 (by decide) ?_
        refine lv_dup2_11 hx hb dX4_mixWords_227 rfl rfl ?_
        refine w_ild (N := 8) hx hb hK.1 hM (by decide) (by decide) (by decide) (vp_in_nI (n := 0) (by omega) (by omega)) dX4_mixWords_228 ?_
        refine lv_eqi (congrArg (Vw 5) (show (0 : Int32).toNatClampNeg = 0 by decide)) ?_
        refine lv_iload_n hx hb dX4_mixWords_229 rfl (lv_at hl 1 rfl) ?_
        refine lv_iadd hx hb dX4_mixWords_230 ?_
        refine w_ist (N := 8) hx hb hK.1 hM hS (by decide) (by decide) (by decide) (vp_in_nI (n := 0) (by omega) (by omega)) dX4_mixWords_231 (fun H locs hM hS => ?_)
        rw [show (0 : Int32).toNatClampNeg = 0 by decide] at hM
        generalize hV231 : up2 Vw 5 0 ((Vw 5 0) + a1) = V231 at hM
        refine lv_aload_n hx hb dX4_mixWords_232 rfl (lv_at hl 0 rfl) ?_
        refine w_gr 4 0 5 (T := TX4) (N := 9) hx hb hts in4 hown hK.1 hM (by decide) (by decide) (by decide) (by decide) (by decide) rfl (by decide) k11 rfl dX4_mixWords_233 ?_
        refine lv_iconst (v := 1) hx hb dX4_mixWords_236 (by decide) ?_
        refine lv_dup2_11 hx hb dX4_mixWords_237 rfl rfl ?_
        refine w_ild (N := 8) hx hb hK.1 hM (by decide) (by decide) (by decide) (vp_in_nI (n := 1) (by omega) (by omega)) dX4_mixWords_238 ?_
        refine lv_eqi (congrArg (V231 5) (show (1 : Int32).toNatClampNeg = 1 by decide)) ?_
        refine lv_iload_n hx hb dX4_mixWords_239 rfl (lv_at hl 2 rfl) ?_
        refine lv_iadd hx hb dX4_mixWords_240 ?_
        refine w_ist (N := 8) hx hb hK.1 hM hS (by decide) (by decide) (by decide) (vp_in_nI (n := 1) (by omega) (by omega)) dX4_mixWords_241 (fun H locs hM hS => ?_)
        rw [show (1 : Int32).toNatClampNeg = 1 by decide] at hM
        generalize hV241 : up2 V231 5 1 ((V231 5 1) + a2) = V241 at hM
        refine lv_aload_n hx hb dX4_mixWords_242 rfl (lv_at hl 0 rfl) ?_
        refine w_gr 4 0 5 (T := TX4) (N := 9) hx hb hts in4 hown hK.1 hM (by decide) (by decide) (by decide) (by decide) (by decide) rfl (by decide) k11 rfl dX4_mixWords_243 ?_
        refine lv_iconst (v := 2) hx hb dX4_mixWords_246 (by decide) ?_
        refine lv_dup2_11 hx hb dX4_mixWords_247 rfl rfl ?_
        refine w_ild (N := 8) hx hb hK.1 hM (by decide) (by decide) (by decide) (vp_in_nI (n := 2) (by omega) (by omega)) dX4_mixWords_248 ?_
        refine lv_eqi (congrArg (V241 5) (show (2 : Int32).toNatClampNeg = 2 by decide)) ?_
        refine lv_iload_n hx hb dX4_mixWords_249 rfl (lv_at hl 3 rfl) ?_
        refine lv_iadd hx hb dX4_mixWords_250 ?_
        refine w_ist (N := 8) hx hb hK.1 hM hS (by decide) (by decide) (by decide) (vp_in_nI (n := 2) (by omega) (by omega)) dX4_mixWords_251 (fun H locs hM hS => ?_)
        rw [show (2 : Int32).toNatClampNeg = 2 by decide] at hM
        generalize hV251 : up2 V241 5 2 ((V241 5 2) + a3) = V251 at hM
        refine lv_aload_n hx hb dX4_mixWords_252 rfl (lv_at hl 0 rfl) ?_
        refine w_gr 4 0 5 (T := TX4) (N := 9) hx hb hts in4 hown hK.1 hM (by decide) (by decide) (by decide) (by decide) (by decide) rfl (by decide) k11 rfl dX4_mixWords_253 ?_
        refine lv_iconst (v := 3) hx hb dX4_mixWords_256 (by decide) ?_
        refine lv_dup2_11 hx hb dX4_mixWords_257 rfl rfl ?_
        refine w_ild (N := 8) hx hb hK.1 hM (by decide) (by decide) (by decide) (vp_in_nI (n := 3) (by omega) (by omega)) dX4_mixWords_258 ?_
        refine lv_eqi (congrArg (V251 5) (show (3 : Int32).toNatClampNeg = 3 by decide)) ?_
        refine lv_iload hx hb dX4_mixWords_259 (lv_at hl 4 rfl) ?_
        refine lv_iadd hx hb dX4_mixWords_261 ?_
        refine w_ist (N := 8) hx hb hK.1 hM hS (by decide) (by decide) (by decide) (vp_in_nI (n := 3) (by omega) (by omega)) dX4_mixWords_262 (fun H locs hM hS => ?_)
        rw [show (3 : Int32).toNatClampNeg = 3 by decide] at hM
        generalize hV262 : up2 V251 5 3 ((V251 5 3) + a4) = V262 at hM
        refine lv_aload_n hx hb dX4_mixWords_263 rfl (lv_at hl 0 rfl) ?_
        refine w_gr 4 0 5 (T := TX4) (N := 9) hx hb hts in4 hown hK.1 hM (by decide) (by decide) (by decide) (by decide) (by decide) rfl (by decide) k11 rfl dX4_mixWords_264 ?_
        refine lv_iconst (v := 4) hx hb dX4_mixWords_267 (by decide) ?_
        refine lv_dup2_11 hx hb dX4_mixWords_268 rfl rfl ?_
        refine w_ild (N := 8) hx hb hK.1 hM (by decide) (by decide) (by decide) (vp_in_nI (n := 4) (by omega) (by omega)) dX4_mixWords_269 ?_
        refine lv_eqi (congrArg (V262 5) (show (4 : Int32).toNatClampNeg = 4 by decide)) ?_
        refine lv_iload hx hb dX4_mixWords_270 (lv_at hl 5 rfl) ?_
        refine lv_iadd hx hb dX4_mixWords_272 ?_
        refine w_ist (N := 8) hx hb hK.1 hM hS (by decide) (by decide) (by decide) (vp_in_nI (n := 4) (by omega) (by omega)) dX4_mixWords_273 (fun H locs hM hS => ?_)
        rw [show (4 : Int32).toNatClampNeg = 4 by decide] at hM
        generalize hV273 : up2 V262 5 4 ((V262 5 4) + a5) = V273 at hM
        refine lv_aload_n hx hb dX4_mixWords_274 rfl (lv_at hl 0 rfl) ?_
        refine w_gr 4 0 5 (T := TX4) (N := 9) hx hb hts in4 hown hK.1 hM (by decide) (by decide) (by decide) (by decide) (by decide) rfl (by decide) k11 rfl dX4_mixWords_275 ?_
        refine lv_iconst (v := 5) hx hb dX4_mixWords_278 (by decide) ?_
        refine lv_dup2_11 hx hb dX4_mixWords_279 rfl rfl ?_
        refine w_ild (N := 8) hx hb hK.1 hM (by decide) (by decide) (by decide) (vp_in_nI (n := 5) (by omega) (by omega)) dX4_mixWords_280 ?_
        refine lv_eqi (congrArg (V273 5) (show (5 : Int32).toNatClampNeg = 5 by decide)) ?_
        refine lv_iload hx hb dX4_mixWords_281 (lv_at hl 6 rfl) ?_
        refine lv_iadd hx hb dX4_mixWords_283 ?_
        refine w_ist (N := 8) hx hb hK.1 hM hS (by decide) (by decide) (by decide) (vp_in_nI (n := 5) (by omega) (by omega)) dX4_mixWords_284 (fun H locs hM hS => ?_)
        rw [show (5 : Int32).toNatClampNeg = 5 by decide] at hM
        generalize hV284 : up2 V273 5 5 ((V273 5 5) + a6) = V284 at hM
        refine lv_aload_n hx hb dX4_mixWords_285 rfl (lv_at hl 0 rfl) ?_
        refine w_gr 4 0 5 (T := TX4) (N := 9) hx hb hts in4 hown hK.1 hM (by decide) (by decide) (by decide) (by decide) (by decide) rfl (by decide) k11 rfl dX4_mixWords_286 ?_
        refine lv_bipush (v := 6) hx hb dX4_mixWords_289 (by decide) ?_
        refine lv_dup2_11 hx hb dX4_mixWords_291 rfl rfl ?_
        refine w_ild (N := 8) hx hb hK.1 hM (by decide) (by decide) (by decide) (vp_in_nI (n := 6) (by omega) (by omega)) dX4_mixWords_292 ?_
        refine lv_eqi (congrArg (V284 5) (show (6 : Int32).toNatClampNeg = 6 by decide)) ?_
        refine lv_iload hx hb dX4_mixWords_293 (lv_at hl 7 rfl) ?_
        refine lv_iadd hx hb dX4_mixWords_295 ?_
        refine w_ist (N := 8) hx hb hK.1 hM hS (by decide) (by decide) (by decide) (vp_in_nI (n := 6) (by omega) (by omega)) dX4_mixWords_296 (fun H locs hM hS => ?_)
        rw [show (6 : Int32).toNatClampNeg = 6 by decide] at hM
        generalize hV296 : up2 V284 5 6 ((V284 5 6) + a7) = V296 at hM
        refine lv_aload_n hx hb dX4_mixWords_297 rfl (lv_at hl 0 rfl) ?_
        refine w_gr 4 0 5 (T := TX4) (N := 9) hx hb hts in4 hown hK.1 hM (by decide) (by decide) (by decide) (by decide) (by decide) rfl (by decide) k11 rfl dX4_mixWords_298 ?_
        refine lv_bipush (v := 7) hx hb dX4_mixWords_301 (by decide) ?_
        refine lv_dup2_11 hx hb dX4_mixWords_303 rfl rfl ?_
        refine w_ild (N := 8) hx hb hK.1 hM (by decide) (by decide) (by decide) (vp_in_nI (n := 7) (by omega) (by omega)) dX4_mixWords_304 ?_
        refine lv_eqi (congrArg (V296 5) (show (7 : Int32).toNatClampNeg = 7 by decide)) ?_
        refine lv_iload hx hb dX4_mixWords_305 (lv_at hl 8 rfl) ?_
        refine lv_iadd hx hb dX4_mixWords_307 ?_
        refine w_ist (N := 8) hx hb hK.1 hM hS (by decide) (by decide) (by decide) (vp_in_nI (n := 7) (by omega) (by omega)) dX4_mixWords_308 (fun H locs hM hS => ?_)
        rw [show (7 : Int32).toNatClampNeg = 7 by decide] at hM
        generalize hV308 : up2 V296 5 7 ((V296 5 7) + a8) = V308 at hM
        exact w_vret (free := AE E) V308 hx hb hr hK hS hM (by have := nI_lei (a := 64) ex c_70 (by omega) (by omega); have h64 : n = 64 := (by omega); subst h64; subst eV; exact mix_end hV231 hV241 hV251 hV262 hV273 hV284 hV296 hV308 e1 e2 e3 e4 e5 e6 e7 e8) hlocks dX4_mixWords_309
      · have hlt := nI_ltn (a := 64) ex c_70 (by omega) (by omega)
        refine lv_iload hx hb dX4_mixWords_73 (lv_at hl 8 rfl) ?_
        refine lv_iload hx hb dX4_mixWords_75 (lv_at hl 5 rfl) ?_
        refine lv_bipush (v := 6) hx hb dX4_mixWords_77 (by decide) ?_
        refine lv_iushr hx hb dX4_mixWords_79 rfl ?_
        refine lv_iload hx hb dX4_mixWords_80 (lv_at hl 5 rfl) ?_
        refine lv_bipush (v := 26) hx hb dX4_mixWords_82 (by decide) ?_
        refine lv_ishl hx hb dX4_mixWords_84 ?_
        refine lv_ior hx hb dX4_mixWords_85 ?_
        refine lv_iload hx hb dX4_mixWords_86 (lv_at hl 5 rfl) ?_
        refine lv_bipush (v := 11) hx hb dX4_mixWords_88 (by decide) ?_
        refine lv_iushr hx hb dX4_mixWords_90 rfl ?_
        refine lv_iload hx hb dX4_mixWords_91 (lv_at hl 5 rfl) ?_
        refine lv_bipush (v := 21) hx hb dX4_mixWords_93 (by decide) ?_
        refine lv_ishl hx hb dX4_mixWords_95 ?_
        refine lv_ior hx hb dX4_mixWords_96 ?_
        refine lv_ixor hx hb dX4_mixWords_97 ?_
        refine lv_iload hx hb dX4_mixWords_98 (lv_at hl 5 rfl) ?_
        refine lv_bipush (v := 25) hx hb dX4_mixWords_100 (by decide) ?_
        refine lv_iushr hx hb dX4_mixWords_102 rfl ?_
        refine lv_iload hx hb dX4_mixWords_103 (lv_at hl 5 rfl) ?_
        refine lv_bipush (v := 7) hx hb dX4_mixWords_105 (by decide) ?_
        refine lv_ishl hx hb dX4_mixWords_107 ?_
        refine lv_ior hx hb dX4_mixWords_108 ?_
        refine lv_ixor hx hb dX4_mixWords_109 ?_
        refine lv_iadd hx hb dX4_mixWords_110 ?_
        refine lv_iload hx hb dX4_mixWords_111 (lv_at hl 5 rfl) ?_
        refine lv_iload hx hb dX4_mixWords_113 (lv_at hl 6 rfl) ?_
        refine lv_iand hx hb dX4_mixWords_115 ?_
        refine lv_iload hx hb dX4_mixWords_116 (lv_at hl 5 rfl) ?_
        refine lv_iconst (v := (-1)) hx hb dX4_mixWords_118 (by decide) ?_
        refine lv_ixor hx hb dX4_mixWords_119 ?_
        refine lv_iload hx hb dX4_mixWords_120 (lv_at hl 7 rfl) ?_
        refine lv_iand hx hb dX4_mixWords_122 ?_
        refine lv_ixor hx hb dX4_mixWords_123 ?_
        refine lv_iadd hx hb dX4_mixWords_124 ?_
        refine va_gets hx hb hZ2 hS hown (hts (.fieldLink RX4 109 "LimitTokens$Sealer" "CUBE_ROOTS" "[I") (by decide +kernel)) (fun _ h => h) dX4_mixWords_125 ?_
        refine lv_iload hx hb dX4_mixWords_128 (lv_at hl 9 rfl) ?_
        refine va_ti hx hb hT2 hS (by rw [ex]; exact vp_in_nI (by omega) (by omega)) (v := .int (cuT.getD n 0)) (by rw [ex, nI_clamp (by omega)]) dX4_mixWords_130 ?_
        refine lv_iadd hx hb dX4_mixWords_131 ?_
        refine lv_aload_n hx hb dX4_mixWords_132 rfl (lv_at hl 0 rfl) ?_
        refine w_gr 4 1 6 (T := TX4) (N := 9) hx hb hts in4 hown hK.1 hM (by decide) (by decide) (by decide) (by decide) (by decide) rfl (by decide) k15 rfl dX4_mixWords_133 ?_
        refine lv_iload hx hb dX4_mixWords_136 (lv_at hl 9 rfl) ?_
        refine w_ild (N := 64) hx hb hK.1 hM (by decide) (by decide) (by decide) (by rw [ex]; exact vp_in_nI (by omega) (by omega)) dX4_mixWords_138 ?_
        refine lv_iadd hx hb dX4_mixWords_139 ?_
        refine lv_topi (fun x10_140 ex10_140 => ?_)
        refine lv_istore (lv' := [(10, .int x10_140), (0, .ref (E.1 + 4)), (1, .int a1), (2, .int a2), (3, .int a3), (4, .int a4), (5, .int a5), (6, .int a6), (7, .int a7), (8, .int a8), (9, .int x)]) hx hb dX4_mixWords_140 hl (by decide) rfl (fun ls hl => ?_)
        refine lv_iload_n hx hb dX4_mixWords_142 rfl (lv_at hl 2 rfl) ?_
        refine lv_iconst (v := 2) hx hb dX4_mixWords_143 (by decide) ?_
        refine lv_iushr hx hb dX4_mixWords_144 rfl ?_
        refine lv_iload_n hx hb dX4_mixWords_145 rfl (lv_at hl 2 rfl) ?_
        refine lv_bipush (v := 30) hx hb dX4_mixWords_146 (by decide) ?_
        refine lv_ishl hx hb dX4_mixWords_148 ?_
        refine lv_ior hx hb dX4_mixWords_149 ?_
        refine lv_iload_n hx hb dX4_mixWords_150 rfl (lv_at hl 2 rfl) ?_
        refine lv_bipush (v := 13) hx hb dX4_mixWords_151 (by decide) ?_
        refine lv_iushr hx hb dX4_mixWords_153 rfl ?_
        refine lv_iload_n hx hb dX4_mixWords_154 rfl (lv_at hl 2 rfl) ?_
        refine lv_bipush (v := 19) hx hb dX4_mixWords_155 (by decide) ?_
        refine lv_ishl hx hb dX4_mixWords_157 ?_
        refine lv_ior hx hb dX4_mixWords_158 ?_
        refine lv_ixor hx hb dX4_mixWords_159 ?_
        refine lv_iload_n hx hb dX4_mixWords_160 rfl (lv_at hl 2 rfl) ?_
        refine lv_bipush (v := 22) hx hb dX4_mixWords_161 (by decide) ?_
        refine lv_iushr hx hb dX4_mixWords_163 rfl ?_
        refine lv_iload_n hx hb dX4_mixWords_164 rfl (lv_at hl 2 rfl) ?_
        refine lv_bipush (v := 10) hx hb dX4_mixWords_165 (by decide) ?_
        refine lv_ishl hx hb dX4_mixWords_167 ?_
        refine lv_ior hx hb dX4_mixWords_168 ?_
        refine lv_ixor hx hb dX4_mixWords_169 ?_
        refine lv_iload_n hx hb dX4_mixWords_170 rfl (lv_at hl 2 rfl) ?_
        refine lv_iload_n hx hb dX4_mixWords_171 rfl (lv_at hl 3 rfl) ?_
        refine lv_iand hx hb dX4_mixWords_172 ?_
        refine lv_iload_n hx hb dX4_mixWords_173 rfl (lv_at hl 2 rfl) ?_
        refine lv_iload_n hx hb dX4_mixWords_174 rfl (lv_at hl 4 rfl) ?_
        refine lv_iand hx hb dX4_mixWords_175 ?_
        refine lv_ixor hx hb dX4_mixWords_176 ?_
        refine lv_iload_n hx hb dX4_mixWords_177 rfl (lv_at hl 3 rfl) ?_
        refine lv_iload_n hx hb dX4_mixWords_178 rfl (lv_at hl 4 rfl) ?_
        refine lv_iand hx hb dX4_mixWords_179 ?_
        refine lv_ixor hx hb dX4_mixWords_180 ?_
        refine lv_iadd hx hb dX4_mixWords_181 ?_
        refine lv_topi (fun x11_182 ex11_182 => ?_)
        refine lv_istore (lv' := [(11, .int x11_182), (10, .int x10_140), (0, .ref (E.1 + 4)), (1, .int a1), (2, .int a2), (3, .int a3), (4, .int a4), (5, .int a5), (6, .int a6), (7, .int a7), (8, .int a8), (9, .int x)]) hx hb dX4_mixWords_182 hl (by decide) rfl (fun ls hl => ?_)
        have eX : x10_140 = rX (cuT.getD n 0) (V 6 n) (rnds (V 6) (V 5) n) := by rw [ex10_140, rt_6, rt_11, rt_25, eV, ex, nI_clamp (by omega), e8, e5, e6, e7]; rfl
        have eY : x11_182 = rY (rnds (V 6) (V 5) n) := by rw [ex11_182, rt_2, rt_13, rt_22, e1, e2, e3]; rfl
        refine lv_iload hx hb dX4_mixWords_184 (lv_at hl 9 rfl) ?_
        refine lv_istore (lv' := [(8, .int a7), (11, .int x11_182), (10, .int x10_140), (0, .ref (E.1 + 4)), (1, .int a1), (2, .int a2), (3, .int a3), (4, .int a4), (5, .int a5), (6, .int a6), (7, .int a7), (9, .int x)]) hx hb dX4_mixWords_186 hl (by decide) rfl (fun ls hl => ?_)
        refine lv_iload hx hb dX4_mixWords_188 (lv_at hl 9 rfl) ?_
        refine lv_istore (lv' := [(7, .int a6), (8, .int a7), (11, .int x11_182), (10, .int x10_140), (0, .ref (E.1 + 4)), (1, .int a1), (2, .int a2), (3, .int a3), (4, .int a4), (5, .int a5), (6, .int a6), (9, .int x)]) hx hb dX4_mixWords_190 hl (by decide) rfl (fun ls hl => ?_)
        refine lv_iload hx hb dX4_mixWords_192 (lv_at hl 9 rfl) ?_
        refine lv_istore (lv' := [(6, .int a5), (7, .int a6), (8, .int a7), (11, .int x11_182), (10, .int x10_140), (0, .ref (E.1 + 4)), (1, .int a1), (2, .int a2), (3, .int a3), (4, .int a4), (5, .int a5), (9, .int x)]) hx hb dX4_mixWords_194 hl (by decide) rfl (fun ls hl => ?_)
        refine lv_iload hx hb dX4_mixWords_196 (lv_at hl 9 rfl) ?_
        refine lv_iload hx hb dX4_mixWords_198 (lv_at hl 4 rfl) ?_
        refine lv_iadd hx hb dX4_mixWords_200 ?_
        refine lv_topi (fun x5_201 ex5_201 => ?_)
        refine lv_istore (lv' := [(5, .int x5_201), (6, .int a5), (7, .int a6), (8, .int a7), (11, .int x11_182), (10, .int x10_140), (0, .ref (E.1 + 4)), (1, .int a1), (2, .int a2), (3, .int a3), (4, .int a4), (9, .int x)]) hx hb dX4_mixWords_201 hl (by decide) rfl (fun ls hl => ?_)
        refine lv_iload_n hx hb dX4_mixWords_203 rfl (lv_at hl 9 rfl) ?_
        refine lv_istore (lv' := [(4, .int a3), (5, .int x5_201), (6, .int a5), (7, .int a6), (8, .int a7), (11, .int x11_182), (10, .int x10_140), (0, .ref (E.1 + 4)), (1, .int a1), (2, .int a2), (3, .int a3), (9, .int x)]) hx hb dX4_mixWords_204 hl (by decide) rfl (fun ls hl => ?_)
        refine lv_iload_n hx hb dX4_mixWords_206 rfl (lv_at hl 9 rfl) ?_
        refine lv_istore_n (lv' := [(3, .int a2), (4, .int a3), (5, .int x5_201), (6, .int a5), (7, .int a6), (8, .int a7), (11, .int x11_182), (10, .int x10_140), (0, .ref (E.1 + 4)), (1, .int a1), (2, .int a2), (9, .int x)]) hx hb dX4_mixWords_207 rfl hl (by decide) rfl (fun ls hl => ?_)
        refine lv_iload_n hx hb dX4_mixWords_208 rfl (lv_at hl 9 rfl) ?_
        refine lv_istore_n (lv' := [(2, .int a1), (3, .int a2), (4, .int a3), (5, .int x5_201), (6, .int a5), (7, .int a6), (8, .int a7), (11, .int x11_182), (10, .int x10_140), (0, .ref (E.1 + 4)), (1, .int a1), (9, .int x)]) hx hb dX4_mixWords_209 rfl hl (by decide) rfl (fun ls hl => ?_)
        refine lv_iload hx hb dX4_mixWords_210 (lv_at hl 8 rfl) ?_
        refine lv_iload hx hb dX4_mixWords_212 (lv_at hl 7 rfl) ?_
        refine lv_iadd hx hb dX4_mixWords_214 ?_
        refine lv_topi (fun x1_215 ex1_215 => ?_)
        refine lv_istore_n (lv' := [(1, .int x1_215), (2, .int a1), (3, .int a2), (4, .int a3), (5, .int x5_201), (6, .int a5), (7, .int a6), (8, .int a7), (11, .int x11_182), (10, .int x10_140), (0, .ref (E.1 + 4)), (9, .int x)]) hx hb dX4_mixWords_215 rfl hl (by decide) rfl (fun ls hl => ?_)
        obtain ⟨x9_216, ex9_216⟩ : ∃ y : Int32, y = x + 1 := ⟨_, rfl⟩
        refine lv_iinc (v := x9_216) (lv' := [(9, .int x9_216), (1, .int x1_215), (2, .int a1), (3, .int a2), (4, .int a3), (5, .int x5_201), (6, .int a5), (7, .int a6), (8, .int a7), (11, .int x11_182), (10, .int x10_140), (0, .ref (E.1 + 4))]) hx hb dX4_mixWords_216 hl (k := 11) rfl (by rw [ex9_216]; rfl) (by decide) rfl (fun ls hl => ?_)
        refine lv_goto (tgt := 66) hx hb dX4_mixWords_219 (by decide) ?_
        exact ih Vw _ _ _ (n + 1) _ _ _ _ _ _ _ _ _ eV (by rw [ex9_216, ex, nI_1]) (by omega) (by rw [ex1_215, eX, eY]; rfl) (by rw [e1]; rfl) (by rw [e2]; rfl) (by rw [e3]; rfl) (by rw [ex5_201, eX, e4]; rfl) (by rw [e5]; rfl) (by rw [e6]; rfl) (by rw [e7]; rfl) (by omega) hM hS (lv_sub hl [11, 1, 2, 3, 4, 5, 6, 7, 8, 0] rfl)
  exact loop66 _ V _ _ _ 0 x1_6 x2_13 x3_20 x4_27 x5_35 x6_43 x7_52 x8_61 0 (rfl) (rfl) (Nat.zero_le _) (ex1_6) (ex2_13) (ex3_20) (ex4_27) (ex5_35) (ex6_43) (ex7_52) (ex8_61) (Nat.lt_succ_self _) hM hS (lv_sub hl [9, 8, 7, 6, 5, 4, 3, 2, 1, 0] rfl)
