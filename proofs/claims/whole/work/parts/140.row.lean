set_option maxHeartbeats 4000000 in
set_option maxRecDepth 100000 in
theorem c_X3_has (l : Launch) {E : En} {V : Vt} {k cap : Nat} (hk : isRow k cap) (i : Int32) : CI l yX3_has wsX3_has 0 E V [.ref (E.1 + k), .int i] (fun r V' => r = (if 0 ≤ i ∧ i < V k 1 then 1 else 0) ∧ V' = V) := by
  refine Met.ofW (cc := cX3_has) (maxL := 2) (ret := (some .boolean)) (by decide) rfl ?_
  intro p e s m args below meth c s₁ B hml hv
  obtain ⟨rfl, hM, hK⟩ := hv
  have hx := B.exec
  have hb := B.bytes
  have hr := B.returns
  have hts := atoms_spec (ws := wsX3_has) B.pre
  have hown : s.vm.findClass RX3 = some m.cls := findClass_of_methodNamed B.named
  have hlocks := B.notSynchronized
  have hsz : s.heap.size = E.1 + 610 := hM.1
  have hS : va_S (AE E) s.heap s.heap [] := va_S.rf
  have in3 : ∀ w ∈ u_ws RX3 TX3 2, w ∈ wsX3_has := by decide +kernel
  have k21 := hts (.fieldLink RX3 21 "LimitTokens$Row" "length" "I") (by decide +kernel)
  have hl := lv_entry ([.ref (E.1 + k), .int i]) (n := 2) (Nat.le_of_ble_eq_true rfl)
  rw [lg_entry_eq]
  generalize (lg_sl ([.ref (E.1 + k), .int i]) ++ List.replicate (2 - (lg_sl ([.ref (E.1 + k), .int i])).length) Slot.unset).toArray = ls at hl ⊢
  have hl : lv_has ls 2 [(0, .ref (E.1 + k)), (1, .int i)] := hl
  refine lv_iload_n hx hb dX3_has_0 rfl (lv_at hl 1 rfl) ?_
  refine lv_if_lt (tgt := 16) hx hb dX3_has_1 (by decide) (fun c_1 => ?_) (fun c_1 => ?_)
  · refine lv_iconst (v := 0) hx hb dX3_has_16 (by decide) ?_
    exact w_zret V hx hb hr hK hS hM (⟨by grind, rfl⟩) (rfl) hlocks dX3_has_17
  · refine lv_iload_n hx hb dX3_has_4 rfl (lv_at hl 1 rfl) ?_
    refine lv_aload_n hx hb dX3_has_5 rfl (lv_at hl 0 rfl) ?_
    refine w_gi 3 1 (T := TX3) (N := 2) hx hb hts in3 hown hK.1 hM (hk).lt (hk).k (hk).n (hk).f1 (by decide) rfl (by decide) k21 rfl dX3_has_6 ?_
    refine lv_icmp_ge (tgt := 16) hx hb dX3_has_9 (by decide) (fun c_9 => ?_) (fun c_9 => ?_)
    · refine lv_iconst (v := 0) hx hb dX3_has_16 (by decide) ?_
      exact w_zret V hx hb hr hK hS hM (⟨by grind, rfl⟩) (rfl) hlocks dX3_has_17
    · refine lv_iconst (v := 1) hx hb dX3_has_12 (by decide) ?_
      refine lv_goto (tgt := 17) hx hb dX3_has_13 (by decide) ?_
      exact w_zret V hx hb hr hK hS hM (⟨by grind, rfl⟩) (rfl) hlocks dX3_has_17

set_option maxHeartbeats 4000000 in
set_option maxRecDepth 100000 in
theorem c_X3_hasRoomFor (l : Launch) {E : En} {V : Vt} {k cap : Nat} (hk : isRow k cap) (i : Int32) : CI l yX3_hasRoomFor wsX3_hasRoomFor 0 E V [.ref (E.1 + k), .int i] (fun r V' => r = (if i ≤ nI cap - V k 1 then 1 else 0) ∧ V' = V) := by
  refine Met.ofW (cc := cX3_hasRoomFor) (maxL := 2) (ret := (some .boolean)) (by decide) rfl ?_
  intro p e s m args below meth c s₁ B hml hv
  obtain ⟨rfl, hM, hK⟩ := hv
  have hx := B.exec
  have hb := B.bytes
  have hr := B.returns
  have hts := atoms_spec (ws := wsX3_hasRoomFor) B.pre
  have hown : s.vm.findClass RX3 = some m.cls := findClass_of_methodNamed B.named
  have hlocks := B.notSynchronized
  have hsz : s.heap.size = E.1 + 610 := hM.1
  have hS : va_S (AE E) s.heap s.heap [] := va_S.rf
  have in3 : ∀ w ∈ u_ws RX3 TX3 2, w ∈ wsX3_hasRoomFor := by decide +kernel
  have k15 := hts (.fieldLink RX3 15 "LimitTokens$Row" "bytes" "[I") (by decide +kernel)
  have k21 := hts (.fieldLink RX3 21 "LimitTokens$Row" "length" "I") (by decide +kernel)
  have hl := lv_entry ([.ref (E.1 + k), .int i]) (n := 2) (Nat.le_of_ble_eq_true rfl)
  rw [lg_entry_eq]
  generalize (lg_sl ([.ref (E.1 + k), .int i]) ++ List.replicate (2 - (lg_sl ([.ref (E.1 + k), .int i])).length) Slot.unset).toArray = ls at hl ⊢
  have hl : lv_has ls 2 [(0, .ref (E.1 + k)), (1, .int i)] := hl
  refine lv_iload_n hx hb dX3_hasRoomFor_0 rfl (lv_at hl 1 rfl) ?_
  refine lv_aload_n hx hb dX3_hasRoomFor_1 rfl (lv_at hl 0 rfl) ?_
  refine w_gr 3 0 (k + 1) (T := TX3) (N := 2) hx hb hts in3 hown hK.1 hM (hk).lt (hk).k (hk).n (hk).f0 (by decide) rfl (by decide) k15 rfl dX3_hasRoomFor_2 ?_
  refine w_len hx hb hK.1 hM (hk).lt1 (hk).ak (hk).an dX3_hasRoomFor_5 ?_
  refine lv_aload_n hx hb dX3_hasRoomFor_6 rfl (lv_at hl 0 rfl) ?_
  refine w_gi 3 1 (T := TX3) (N := 2) hx hb hts in3 hown hK.1 hM (hk).lt (hk).k (hk).n (hk).f1 (by decide) rfl (by decide) k21 rfl dX3_hasRoomFor_7 ?_
  refine lv_isub hx hb dX3_hasRoomFor_10 ?_
  refine lv_icmp_gt (tgt := 18) hx hb dX3_hasRoomFor_11 (by decide) (fun c_11 => ?_) (fun c_11 => ?_)
  · refine lv_iconst (v := 0) hx hb dX3_hasRoomFor_18 (by decide) ?_
    exact w_zret V hx hb hr hK hS hM (⟨by grind, rfl⟩) (rfl) hlocks dX3_hasRoomFor_19
  · refine lv_iconst (v := 1) hx hb dX3_hasRoomFor_14 (by decide) ?_
    refine lv_goto (tgt := 19) hx hb dX3_hasRoomFor_15 (by decide) ?_
    exact w_zret V hx hb hr hK hS hM (⟨by grind, rfl⟩) (rfl) hlocks dX3_hasRoomFor_19

set_option maxHeartbeats 4000000 in
set_option maxRecDepth 100000 in
theorem c_X3_byteAt (l : Launch) {E : En} {V : Vt} {k cap : Nat} (hk : isRow k cap) {b : List Int32} (hb0 : rowIs V k b) (hbl : b.length ≤ cap) (i : Int32) : CI l yX3_byteAt wsX3_byteAt 0 E V [.ref (E.1 + k), .int i] (fun r V' => r = bAt b i ∧ V' = V) := by
  refine Met.ofW (cc := cX3_byteAt) (maxL := 2) (ret := (some .int)) (by decide) rfl ?_
  intro p e s m args below meth c s₁ B hml hv
  obtain ⟨rfl, hM, hK⟩ := hv
  have hx := B.exec
  have hb := B.bytes
  have hr := B.returns
  have hts := atoms_spec (ws := wsX3_byteAt) B.pre
  have hown : s.vm.findClass RX3 = some m.cls := findClass_of_methodNamed B.named
  have hlocks := B.notSynchronized
  have hsz : s.heap.size = E.1 + 610 := hM.1
  have hS : va_S (AE E) s.heap s.heap [] := va_S.rf
  have in3 : ∀ w ∈ u_ws RX3 TX3 2, w ∈ wsX3_byteAt := by decide +kernel
  have k21 := hts (.fieldLink RX3 21 "LimitTokens$Row" "length" "I") (by decide +kernel)
  have k15 := hts (.fieldLink RX3 15 "LimitTokens$Row" "bytes" "[I") (by decide +kernel)
  have hl := lv_entry ([.ref (E.1 + k), .int i]) (n := 2) (Nat.le_of_ble_eq_true rfl)
  rw [lg_entry_eq]
  generalize (lg_sl ([.ref (E.1 + k), .int i]) ++ List.replicate (2 - (lg_sl ([.ref (E.1 + k), .int i])).length) Slot.unset).toArray = ls at hl ⊢
  have hl : lv_has ls 2 [(0, .ref (E.1 + k)), (1, .int i)] := hl
  have hcap := hk.cap
  refine lv_iload_n hx hb dX3_byteAt_0 rfl (lv_at hl 1 rfl) ?_
  refine lv_if_lt (tgt := 21) hx hb dX3_byteAt_1 (by decide) (fun c_1 => ?_) (fun c_1 => ?_)
  · refine lv_iconst (v := (-1)) hx hb dX3_byteAt_21 (by decide) ?_
    exact w_iret V hx hb hr hK hS hM (⟨by first | (rw [bAt_in ej hj (by omega), ej, nI_clamp (by omega)]; exact hb0.2 j hj) | rw [bAt_neg c_1] | rw [bAt_big c_9], rfl⟩) hlocks dX3_byteAt_22
  · refine lv_iload_n hx hb dX3_byteAt_4 rfl (lv_at hl 1 rfl) ?_
    refine lv_aload_n hx hb dX3_byteAt_5 rfl (lv_at hl 0 rfl) ?_
    refine w_gi 3 1 (T := TX3) (N := 2) hx hb hts in3 hown hK.1 hM (hk).lt (hk).k (hk).n (hk).f1 (by decide) rfl (by decide) k21 rfl dX3_byteAt_6 ?_
    refine lv_eqi (show V k 1 = nI b.length from hb0.1) ?_
    refine lv_icmp_ge (tgt := 21) hx hb dX3_byteAt_9 (by decide) (fun c_9 => ?_) (fun c_9 => ?_)
    · refine lv_iconst (v := (-1)) hx hb dX3_byteAt_21 (by decide) ?_
      exact w_iret V hx hb hr hK hS hM (⟨by first | (rw [bAt_in ej hj (by omega), ej, nI_clamp (by omega)]; exact hb0.2 j hj) | rw [bAt_neg c_1] | rw [bAt_big c_9], rfl⟩) hlocks dX3_byteAt_22
    · obtain ⟨j, hj, ej⟩ := ix_of c_1 c_9 (by omega)
      refine lv_aload_n hx hb dX3_byteAt_12 rfl (lv_at hl 0 rfl) ?_
      refine w_gr 3 0 (k + 1) (T := TX3) (N := 2) hx hb hts in3 hown hK.1 hM (hk).lt (hk).k (hk).n (hk).f0 (by decide) rfl (by decide) k15 rfl dX3_byteAt_13 ?_
      refine lv_iload_n hx hb dX3_byteAt_16 rfl (lv_at hl 1 rfl) ?_
      refine w_ild hx hb hK.1 hM (hk).lt1 (hk).ak (hk).an (by rw [ej]; exact vp_in_nI (by omega) (by omega)) dX3_byteAt_17 ?_
      refine lv_goto (tgt := 22) hx hb dX3_byteAt_18 (by decide) ?_
      exact w_iret V hx hb hr hK hS hM (⟨by first | (rw [bAt_in ej hj (by omega), ej, nI_clamp (by omega)]; exact hb0.2 j hj) | rw [bAt_neg c_1] | rw [bAt_big c_9], rfl⟩) hlocks dX3_byteAt_22

set_option maxHeartbeats 4000000 in
set_option maxRecDepth 100000 in
theorem c_X3_makeEmpty (l : Launch) {E : En} {V : Vt} {k cap : Nat} (hk : isRow k cap) : CV l yX3_makeEmpty wsX3_makeEmpty 0 E V [.ref (E.1 + k)] (fun V' => rowIs V' k [] ∧ frR V V' k) := by
  refine Met.ofW (cc := cX3_makeEmpty) (maxL := 1) (ret := none) (by decide) rfl ?_
  intro p e s m args below meth c s₁ B hml hv
  obtain ⟨rfl, hM, hK⟩ := hv
  have hx := B.exec
  have hb := B.bytes
  have hr := B.returns
  have hts := atoms_spec (ws := wsX3_makeEmpty) B.pre
  have hown : s.vm.findClass RX3 = some m.cls := findClass_of_methodNamed B.named
  have hlocks := B.notSynchronized
  have hsz : s.heap.size = E.1 + 610 := hM.1
  have hS : va_S (AE E) s.heap s.heap [] := va_S.rf
  have in3 : ∀ w ∈ u_ws RX3 TX3 2, w ∈ wsX3_makeEmpty := by decide +kernel
  have k21 := hts (.fieldLink RX3 21 "LimitTokens$Row" "length" "I") (by decide +kernel)
  have hl := lv_entry ([.ref (E.1 + k)]) (n := 1) (Nat.le_of_ble_eq_true rfl)
  rw [lg_entry_eq]
  generalize (lg_sl ([.ref (E.1 + k)]) ++ List.replicate (1 - (lg_sl ([.ref (E.1 + k)])).length) Slot.unset).toArray = ls at hl ⊢
  have hl : lv_has ls 1 [(0, .ref (E.1 + k))] := hl
  refine lv_aload_n hx hb dX3_makeEmpty_0 rfl (lv_at hl 0 rfl) ?_
  refine lv_iconst (v := 0) hx hb dX3_makeEmpty_1 (by decide) ?_
  refine w_pi 3 1 (T := TX3) (N := 2) hx hb hts in3 tyX3 tyX3_ok nmX3 hown hK.1 hM hS (hk).lt (hk).k (hk).n (hk).f1 (by decide) rfl (by decide) k21 rfl rfl rfl rfl dX3_makeEmpty_2 (fun H locs hM hS => ?_)
  generalize hV2 : up2 V k 1 0 = V2 at hM
  exact w_vret (free := AE E) V2 hx hb hr hK hS hM (by subst hV2; exact ⟨rowIs.nil V k, frR.rf.up (Or.inl rfl) _ _⟩) hlocks dX3_makeEmpty_5

set_option maxHeartbeats 4000000 in
set_option maxRecDepth 100000 in
theorem c_X3_push (l : Launch) {E : En} {V : Vt} {k cap : Nat} (hk : isRow k cap) {l0 : List Int32} (hr0 : rowIs V k l0) (hc : l0.length < cap) (b : Int32) : CV l yX3_push wsX3_push 0 E V [.ref (E.1 + k), .int b] (fun V' => rowIs V' k (l0 ++ [b]) ∧ frR V V' k) := by
  refine Met.ofW (cc := cX3_push) (maxL := 2) (ret := none) (by decide) rfl ?_
  intro p e s m args below meth c s₁ B hml hv
  obtain ⟨rfl, hM, hK⟩ := hv
  have hx := B.exec
  have hb := B.bytes
  have hr := B.returns
  have hts := atoms_spec (ws := wsX3_push) B.pre
  have hown : s.vm.findClass RX3 = some m.cls := findClass_of_methodNamed B.named
  have hlocks := B.notSynchronized
  have hsz : s.heap.size = E.1 + 610 := hM.1
  have hS : va_S (AE E) s.heap s.heap [] := va_S.rf
  have in3 : ∀ w ∈ u_ws RX3 TX3 2, w ∈ wsX3_push := by decide +kernel
  have k21 := hts (.fieldLink RX3 21 "LimitTokens$Row" "length" "I") (by decide +kernel)
  have k15 := hts (.fieldLink RX3 15 "LimitTokens$Row" "bytes" "[I") (by decide +kernel)
  have hl := lv_entry ([.ref (E.1 + k), .int b]) (n := 2) (Nat.le_of_ble_eq_true rfl)
  rw [lg_entry_eq]
  generalize (lg_sl ([.ref (E.1 + k), .int b]) ++ List.replicate (2 - (lg_sl ([.ref (E.1 + k), .int b])).length) Slot.unset).toArray = ls at hl ⊢
  have hl : lv_has ls 2 [(0, .ref (E.1 + k)), (1, .int b)] := hl
  have hcap := hk.cap
  refine lv_aload_n hx hb dX3_push_0 rfl (lv_at hl 0 rfl) ?_
  refine w_gi 3 1 (T := TX3) (N := 2) hx hb hts in3 hown hK.1 hM (hk).lt (hk).k (hk).n (hk).f1 (by decide) rfl (by decide) k21 rfl dX3_push_1 ?_
  refine lv_eqi (show V k 1 = nI l0.length from hr0.1) ?_
  refine lv_aload_n hx hb dX3_push_4 rfl (lv_at hl 0 rfl) ?_
  refine w_gr 3 0 (k + 1) (T := TX3) (N := 2) hx hb hts in3 hown hK.1 hM (hk).lt (hk).k (hk).n (hk).f0 (by decide) rfl (by decide) k15 rfl dX3_push_5 ?_
  refine w_len hx hb hK.1 hM (hk).lt1 (hk).ak (hk).an dX3_push_8 ?_
  refine lv_icmp_ge (tgt := 32) hx hb dX3_push_9 (by decide) (fun c_9 => ?_) (fun c_9 => ?_)
  · exact absurd c_9 (nI_ge hc (by omega))
  · refine lv_aload_n hx hb dX3_push_12 rfl (lv_at hl 0 rfl) ?_
    refine w_gr 3 0 (k + 1) (T := TX3) (N := 2) hx hb hts in3 hown hK.1 hM (hk).lt (hk).k (hk).n (hk).f0 (by decide) rfl (by decide) k15 rfl dX3_push_13 ?_
    refine lv_aload_n hx hb dX3_push_16 rfl (lv_at hl 0 rfl) ?_
    refine w_gi 3 1 (T := TX3) (N := 2) hx hb hts in3 hown hK.1 hM (hk).lt (hk).k (hk).n (hk).f1 (by decide) rfl (by decide) k21 rfl dX3_push_17 ?_
    refine lv_eqi (show V k 1 = nI l0.length from hr0.1) ?_
    refine lv_iload_n hx hb dX3_push_20 rfl (lv_at hl 1 rfl) ?_
    refine w_ist hx hb hK.1 hM hS (hk).lt1 (hk).ak (hk).an (vp_in_nI hc (by omega)) dX3_push_21 (fun H locs hM hS => ?_)
    generalize hV21 : up2 V (k + 1) (nI l0.length).toNatClampNeg b = V21 at hM
    refine lv_aload_n hx hb dX3_push_22 rfl (lv_at hl 0 rfl) ?_
    refine lv_dup hx hb dX3_push_23 rfl ?_
    refine w_gi 3 1 (T := TX3) (N := 2) hx hb hts in3 hown hK.1 hM (hk).lt (hk).k (hk).n (hk).f1 (by decide) rfl (by decide) k21 rfl dX3_push_24 ?_
    refine lv_eqi (show V21 k 1 = nI l0.length from by rw [← hV21, up2_k _ _ (by omega)]; exact hr0.1) ?_
    refine lv_iconst (v := 1) hx hb dX3_push_27 (by decide) ?_
    refine lv_iadd hx hb dX3_push_28 ?_
    refine w_pi 3 1 (T := TX3) (N := 2) hx hb hts in3 tyX3 tyX3_ok nmX3 hown hK.1 hM hS (hk).lt (hk).k (hk).n (hk).f1 (by decide) rfl (by decide) k21 rfl rfl rfl rfl dX3_push_29 (fun H locs hM hS => ?_)
    generalize hV29 : up2 V21 k 1 ((nI l0.length) + 1) = V29 at hM
    exact w_vret (free := AE E) V29 hx hb hr hK hS hM (row_push hr0 (by omega) hV21 hV29) hlocks dX3_push_32

set_option maxHeartbeats 4000000 in
set_option maxRecDepth 100000 in
theorem c_X3_pushWord (l : Launch) {E : En} {V : Vt} {k cap : Nat} (hk : isRow k cap) {l0 : List Int32} (hr0 : rowIs V k l0) (hc : l0.length + 4 ≤ cap) (w : Int32) : CV l yX3_pushWord wsX3_pushWord 0 E V [.ref (E.1 + k), .int w] (fun V' => rowIs V' k (l0 ++ w4 w) ∧ frR V V' k) := by
  refine Met.ofW (cc := cX3_pushWord) (maxL := 2) (ret := none) (by decide) rfl ?_
  intro p e s m args below meth c s₁ B hml hv
  obtain ⟨rfl, hM, hK⟩ := hv
  have hx := B.exec
  have hb := B.bytes
  have hr := B.returns
  have hts := atoms_spec (ws := wsX3_pushWord) B.pre
  have hown : s.vm.findClass RX3 = some m.cls := findClass_of_methodNamed B.named
  have hlocks := B.notSynchronized
  have hsz : s.heap.size = E.1 + 610 := hM.1
  have hS : va_S (AE E) s.heap s.heap [] := va_S.rf
  have in3 : ∀ w ∈ u_ws RX3 TX3 2, w ∈ wsX3_pushWord := by decide +kernel
  have k21 := hts (.fieldLink RX3 21 "LimitTokens$Row" "length" "I") (by decide +kernel)
  have k15 := hts (.fieldLink RX3 15 "LimitTokens$Row" "bytes" "[I") (by decide +kernel)
  have hl := lv_entry ([.ref (E.1 + k), .int w]) (n := 2) (Nat.le_of_ble_eq_true rfl)
  rw [lg_entry_eq]
  generalize (lg_sl ([.ref (E.1 + k), .int w]) ++ List.replicate (2 - (lg_sl ([.ref (E.1 + k), .int w])).length) Slot.unset).toArray = ls at hl ⊢
  have hl : lv_has ls 2 [(0, .ref (E.1 + k)), (1, .int w)] := hl
  have hcap := hk.cap
  have n1 : nI l0.length + 1 = nI (l0.length + 1) := nI_add _ 1
  have n2 : nI l0.length + 2 = nI (l0.length + 2) := nI_add _ 2
  have n3 : nI l0.length + 3 = nI (l0.length + 3) := nI_add _ 3
  have n4 : nI cap - 4 = nI (cap - 4) := pk_sub (b := 4) (by omega)
  refine lv_aload_n hx hb dX3_pushWord_0 rfl (lv_at hl 0 rfl) ?_
  refine w_gi 3 1 (T := TX3) (N := 2) hx hb hts in3 hown hK.1 hM (hk).lt (hk).k (hk).n (hk).f1 (by decide) rfl (by decide) k21 rfl dX3_pushWord_1 ?_
  refine lv_eqi (show V k 1 = nI l0.length from hr0.1) ?_
  refine lv_aload_n hx hb dX3_pushWord_4 rfl (lv_at hl 0 rfl) ?_
  refine w_gr 3 0 (k + 1) (T := TX3) (N := 2) hx hb hts in3 hown hK.1 hM (hk).lt (hk).k (hk).n (hk).f0 (by decide) rfl (by decide) k15 rfl dX3_pushWord_5 ?_
  refine w_len hx hb hK.1 hM (hk).lt1 (hk).ak (hk).an dX3_pushWord_8 ?_
  refine lv_iconst (v := 4) hx hb dX3_pushWord_9 (by decide) ?_
  refine lv_isub hx hb dX3_pushWord_10 ?_
  refine lv_icmp_gt (tgt := 91) hx hb dX3_pushWord_11 (by decide) (fun c_11 => ?_) (fun c_11 => ?_)
  · exact absurd c_11 (by rw [n4]; exact nI_nlt (by omega) (by omega))
  · refine lv_aload_n hx hb dX3_pushWord_14 rfl (lv_at hl 0 rfl) ?_
    refine w_gr 3 0 (k + 1) (T := TX3) (N := 2) hx hb hts in3 hown hK.1 hM (hk).lt (hk).k (hk).n (hk).f0 (by decide) rfl (by decide) k15 rfl dX3_pushWord_15 ?_
    refine lv_aload_n hx hb dX3_pushWord_18 rfl (lv_at hl 0 rfl) ?_
    refine w_gi 3 1 (T := TX3) (N := 2) hx hb hts in3 hown hK.1 hM (hk).lt (hk).k (hk).n (hk).f1 (by decide) rfl (by decide) k21 rfl dX3_pushWord_19 ?_
    refine lv_eqi (show V k 1 = nI l0.length from hr0.1) ?_
    refine lv_iload_n hx hb dX3_pushWord_22 rfl (lv_at hl 1 rfl) ?_
    refine lv_bipush (v := 24) hx hb dX3_pushWord_23 (by decide) ?_
    refine lv_iushr hx hb dX3_pushWord_25 rfl ?_
    refine w_ist hx hb hK.1 hM hS (hk).lt1 (hk).ak (hk).an (vp_in_nI (by omega) (by omega)) dX3_pushWord_26 (fun H locs hM hS => ?_)
    generalize hV26 : up2 V (k + 1) (nI l0.length).toNatClampNeg ((w.toUInt32 >>> ((24 : Int32).toUInt32 &&& Int32.toUInt32 31)).toInt32) = V26 at hM
    refine lv_aload_n hx hb dX3_pushWord_27 rfl (lv_at hl 0 rfl) ?_
    refine w_gr 3 0 (k + 1) (T := TX3) (N := 2) hx hb hts in3 hown hK.1 hM (hk).lt (hk).k (hk).n (hk).f0 (by decide) rfl (by decide) k15 rfl dX3_pushWord_28 ?_
    refine lv_aload_n hx hb dX3_pushWord_31 rfl (lv_at hl 0 rfl) ?_
    refine w_gi 3 1 (T := TX3) (N := 2) hx hb hts in3 hown hK.1 hM (hk).lt (hk).k (hk).n (hk).f1 (by decide) rfl (by decide) k21 rfl dX3_pushWord_32 ?_
    refine lv_eqi (show V26 k 1 = nI l0.length from by rw [← hV26, up2_k _ _ (by omega)]; exact hr0.1) ?_
    refine lv_iconst (v := 1) hx hb dX3_pushWord_35 (by decide) ?_
    refine lv_iadd hx hb dX3_pushWord_36 ?_
    refine lv_iload_n hx hb dX3_pushWord_37 rfl (lv_at hl 1 rfl) ?_
    refine lv_bipush (v := 16) hx hb dX3_pushWord_38 (by decide) ?_
    refine lv_iushr hx hb dX3_pushWord_40 rfl ?_
    refine lv_sipush (v := 255) hx hb dX3_pushWord_41 (by decide) ?_
    refine lv_iand hx hb dX3_pushWord_44 ?_
    refine w_ist hx hb hK.1 hM hS (hk).lt1 (hk).ak (hk).an (by rw [n1]; exact vp_in_nI (by omega) (by omega)) dX3_pushWord_45 (fun H locs hM hS => ?_)
    generalize hV45 : up2 V26 (k + 1) ((nI l0.length) + 1).toNatClampNeg (((w.toUInt32 >>> ((16 : Int32).toUInt32 &&& Int32.toUInt32 31)).toInt32) &&& 255) = V45 at hM
    refine lv_aload_n hx hb dX3_pushWord_46 rfl (lv_at hl 0 rfl) ?_
    refine w_gr 3 0 (k + 1) (T := TX3) (N := 2) hx hb hts in3 hown hK.1 hM (hk).lt (hk).k (hk).n (hk).f0 (by decide) rfl (by decide) k15 rfl dX3_pushWord_47 ?_
    refine lv_aload_n hx hb dX3_pushWord_50 rfl (lv_at hl 0 rfl) ?_
    refine w_gi 3 1 (T := TX3) (N := 2) hx hb hts in3 hown hK.1 hM (hk).lt (hk).k (hk).n (hk).f1 (by decide) rfl (by decide) k21 rfl dX3_pushWord_51 ?_
    refine lv_eqi (show V45 k 1 = nI l0.length from by rw [← hV45, up2_k _ _ (by omega)]; exact by rw [← hV26, up2_k _ _ (by omega)]; exact hr0.1) ?_
    refine lv_iconst (v := 2) hx hb dX3_pushWord_54 (by decide) ?_
    refine lv_iadd hx hb dX3_pushWord_55 ?_
    refine lv_iload_n hx hb dX3_pushWord_56 rfl (lv_at hl 1 rfl) ?_
    refine lv_bipush (v := 8) hx hb dX3_pushWord_57 (by decide) ?_
    refine lv_iushr hx hb dX3_pushWord_59 rfl ?_
    refine lv_sipush (v := 255) hx hb dX3_pushWord_60 (by decide) ?_
    refine lv_iand hx hb dX3_pushWord_63 ?_
    refine w_ist hx hb hK.1 hM hS (hk).lt1 (hk).ak (hk).an (by rw [n2]; exact vp_in_nI (by omega) (by omega)) dX3_pushWord_64 (fun H locs hM hS => ?_)
    generalize hV64 : up2 V45 (k + 1) ((nI l0.length) + 2).toNatClampNeg (((w.toUInt32 >>> ((8 : Int32).toUInt32 &&& Int32.toUInt32 31)).toInt32) &&& 255) = V64 at hM
    refine lv_aload_n hx hb dX3_pushWord_65 rfl (lv_at hl 0 rfl) ?_
    refine w_gr 3 0 (k + 1) (T := TX3) (N := 2) hx hb hts in3 hown hK.1 hM (hk).lt (hk).k (hk).n (hk).f0 (by decide) rfl (by decide) k15 rfl dX3_pushWord_66 ?_
    refine lv_aload_n hx hb dX3_pushWord_69 rfl (lv_at hl 0 rfl) ?_
    refine w_gi 3 1 (T := TX3) (N := 2) hx hb hts in3 hown hK.1 hM (hk).lt (hk).k (hk).n (hk).f1 (by decide) rfl (by decide) k21 rfl dX3_pushWord_70 ?_
    refine lv_eqi (show V64 k 1 = nI l0.length from by rw [← hV64, up2_k _ _ (by omega)]; exact by rw [← hV45, up2_k _ _ (by omega)]; exact by rw [← hV26, up2_k _ _ (by omega)]; exact hr0.1) ?_
    refine lv_iconst (v := 3) hx hb dX3_pushWord_73 (by decide) ?_
    refine lv_iadd hx hb dX3_pushWord_74 ?_
    refine lv_iload_n hx hb dX3_pushWord_75 rfl (lv_at hl 1 rfl) ?_
    refine lv_sipush (v := 255) hx hb dX3_pushWord_76 (by decide) ?_
    refine lv_iand hx hb dX3_pushWord_79 ?_
    refine w_ist hx hb hK.1 hM hS (hk).lt1 (hk).ak (hk).an (by rw [n3]; exact vp_in_nI (by omega) (by omega)) dX3_pushWord_80 (fun H locs hM hS => ?_)
    generalize hV80 : up2 V64 (k + 1) ((nI l0.length) + 3).toNatClampNeg (w &&& 255) = V80 at hM
    refine lv_aload_n hx hb dX3_pushWord_81 rfl (lv_at hl 0 rfl) ?_
    refine lv_dup hx hb dX3_pushWord_82 rfl ?_
    refine w_gi 3 1 (T := TX3) (N := 2) hx hb hts in3 hown hK.1 hM (hk).lt (hk).k (hk).n (hk).f1 (by decide) rfl (by decide) k21 rfl dX3_pushWord_83 ?_
    refine lv_eqi (show V80 k 1 = nI l0.length from by rw [← hV80, up2_k _ _ (by omega)]; exact by rw [← hV64, up2_k _ _ (by omega)]; exact by rw [← hV45, up2_k _ _ (by omega)]; exact by rw [← hV26, up2_k _ _ (by omega)]; exact hr0.1) ?_
    refine lv_iconst (v := 4) hx hb dX3_pushWord_86 (by decide) ?_
    refine lv_iadd hx hb dX3_pushWord_87 ?_
    refine w_pi 3 1 (T := TX3) (N := 2) hx hb hts in3 tyX3 tyX3_ok nmX3 hown hK.1 hM hS (hk).lt (hk).k (hk).n (hk).f1 (by decide) rfl (by decide) k21 rfl rfl rfl rfl dX3_pushWord_88 (fun H locs hM hS => ?_)
    generalize hV88 : up2 V80 k 1 ((nI l0.length) + 4) = V88 at hM
    exact w_vret (free := AE E) V88 hx hb hr hK hS hM (row_word rfl hr0 (by omega) hV26 hV45 hV64 hV80 hV88) hlocks dX3_pushWord_91

set_option maxHeartbeats 4000000 in
set_option maxRecDepth 100000 in
theorem c_X3_pushZeros (l : Launch) {E : En} {V : Vt} {k cap : Nat} (hk : isRow k cap) {l0 : List Int32} (hr0 : rowIs V k l0) {n : Nat} (hc : l0.length + n ≤ cap) : CV l yX3_pushZeros wsX3_pushZeros 0 E V [.ref (E.1 + k), .int (nI n)] (fun V' => rowIs V' k (l0 ++ List.replicate n 0) ∧ frR V V' k) := by
  refine Met.ofW (cc := cX3_pushZeros) (maxL := 3) (ret := none) (by decide) rfl ?_
  intro p e s m args below meth c s₁ B hml hv
  obtain ⟨rfl, hM, hK⟩ := hv
  have hx := B.exec
  have hb := B.bytes
  have hr := B.returns
  have hts := atoms_spec (ws := wsX3_pushZeros) B.pre
  have hown : s.vm.findClass RX3 = some m.cls := findClass_of_methodNamed B.named
  have hlocks := B.notSynchronized
  have hsz : s.heap.size = E.1 + 610 := hM.1
  have hS : va_S (AE E) s.heap s.heap [] := va_S.rf
  have in3 : ∀ w ∈ u_ws RX3 TX3 2, w ∈ wsX3_pushZeros := by decide +kernel
  have k21 := hts (.fieldLink RX3 21 "LimitTokens$Row" "length" "I") (by decide +kernel)
  have k15 := hts (.fieldLink RX3 15 "LimitTokens$Row" "bytes" "[I") (by decide +kernel)
  have hl := lv_entry ([.ref (E.1 + k), .int (nI n)]) (n := 3) (Nat.le_of_ble_eq_true rfl)
  rw [lg_entry_eq]
  generalize (lg_sl ([.ref (E.1 + k), .int (nI n)]) ++ List.replicate (3 - (lg_sl ([.ref (E.1 + k), .int (nI n)])).length) Slot.unset).toArray = ls at hl ⊢
  have hl : lv_has ls 3 [(0, .ref (E.1 + k)), (1, .int (nI n))] := hl
  have hcap := hk.cap
  refine lv_iconst (v := 0) hx hb dX3_pushZeros_0 (by decide) ?_
  refine lv_istore_n (lv' := [(2, .int 0), (0, .ref (E.1 + k)), (1, .int (nI n))]) hx hb dX3_pushZeros_1 rfl hl (by decide) rfl (fun ls hl => ?_)
  have loop2 : ∀ (fu : Nat) (Vw : Vt) (H : Heap) (locs : List Loc) (ls : Array Slot) (j : Nat) (x : Int32) (ex : x = nI j) (hj : j ≤ n) (hr1 : rowIs Vw k (l0 ++ List.replicate j 0)) (hf1 : frR V Vw k), n - j < fu → Wd E Vw H → va_S (AE E) s.heap H locs → lv_has ls 3 [(0, .ref (E.1 + k)), (1, .int (nI n)), (2, .int x)] → W p l e (headSpec wsX3_pushZeros (rmD 0)).room s m ([.ref (E.1 + k), .int (nI n)] : List Value).toArray below meth c H locs 0 0 (MQ below (QV E (fun V' => Wd E V') (fun V' => rowIs V' k (l0 ++ List.replicate n 0) ∧ frR V V' k)) ([.ref (E.1 + k), .int (nI n)] : List Value).toArray s 0 0 (AE E)) (F0 m 2 ls []) := by
    intro fu
    induction fu with
    | zero => intros; omega
    | succ fu ih =>
      intro Vw H locs ls j x ex hj hr1 hf1 hfu hM hS hl
      have hlen : (l0 ++ List.replicate j (0 : Int32)).length = l0.length + j := by simp
      refine lv_iload_n hx hb dX3_pushZeros_2 rfl (lv_at hl 2 rfl) ?_
      refine lv_iload_n hx hb dX3_pushZeros_3 rfl (lv_at hl 1 rfl) ?_
      refine lv_icmp_ge (tgt := 45) hx hb dX3_pushZeros_4 (by decide) (fun c_4 => ?_) (fun c_4 => ?_)
      · exact w_vret (free := AE E) Vw hx hb hr hK hS hM (by
    have : j = n := by
      rcases Nat.lt_or_ge j n with q | q
      · exact absurd c_4 (by rw [ex]; exact nI_ge q (by omega))
      · omega
    subst this; exact ⟨hr1, hf1⟩) hlocks dX3_pushZeros_45
      · have hlt : j < n := by
          rcases Nat.lt_or_ge j n with q | q
          · exact q
          · exact absurd (by rw [ex]; exact nI_le q (by omega)) c_4
        refine lv_aload_n hx hb dX3_pushZeros_7 rfl (lv_at hl 0 rfl) ?_
        refine w_gi 3 1 (T := TX3) (N := 2) hx hb hts in3 hown hK.1 hM (hk).lt (hk).k (hk).n (hk).f1 (by decide) rfl (by decide) k21 rfl dX3_pushZeros_8 ?_
        refine lv_eqi (show Vw k 1 = nI (l0 ++ List.replicate j 0).length from hr1.1) ?_
        refine lv_aload_n hx hb dX3_pushZeros_11 rfl (lv_at hl 0 rfl) ?_
        refine w_gr 3 0 (k + 1) (T := TX3) (N := 2) hx hb hts in3 hown hK.1 hM (hk).lt (hk).k (hk).n (hk).f0 (by decide) rfl (by decide) k15 rfl dX3_pushZeros_12 ?_
        refine w_len hx hb hK.1 hM (hk).lt1 (hk).ak (hk).an dX3_pushZeros_15 ?_
        refine lv_icmp_ge (tgt := 45) hx hb dX3_pushZeros_16 (by decide) (fun c_16 => ?_) (fun c_16 => ?_)
        · exact absurd c_16 (nI_ge (by omega) (by omega))
        · refine lv_aload_n hx hb dX3_pushZeros_19 rfl (lv_at hl 0 rfl) ?_
          refine w_gr 3 0 (k + 1) (T := TX3) (N := 2) hx hb hts in3 hown hK.1 hM (hk).lt (hk).k (hk).n (hk).f0 (by decide) rfl (by decide) k15 rfl dX3_pushZeros_20 ?_
          refine lv_aload_n hx hb dX3_pushZeros_23 rfl (lv_at hl 0 rfl) ?_
          refine w_gi 3 1 (T := TX3) (N := 2) hx hb hts in3 hown hK.1 hM (hk).lt (hk).k (hk).n (hk).f1 (by decide) rfl (by decide) k21 rfl dX3_pushZeros_24 ?_
          refine lv_eqi (show Vw k 1 = nI (l0 ++ List.replicate j 0).length from hr1.1) ?_
          refine lv_iconst (v := 0) hx hb dX3_pushZeros_27 (by decide) ?_
          refine w_ist hx hb hK.1 hM hS (hk).lt1 (hk).ak (hk).an (vp_in_nI (by omega) (by omega)) dX3_pushZeros_28 (fun H locs hM hS => ?_)
          generalize hV28 : up2 Vw (k + 1) (nI (l0 ++ List.replicate j 0).length).toNatClampNeg 0 = V28 at hM
          refine lv_aload_n hx hb dX3_pushZeros_29 rfl (lv_at hl 0 rfl) ?_
          refine lv_dup hx hb dX3_pushZeros_30 rfl ?_
          refine w_gi 3 1 (T := TX3) (N := 2) hx hb hts in3 hown hK.1 hM (hk).lt (hk).k (hk).n (hk).f1 (by decide) rfl (by decide) k21 rfl dX3_pushZeros_31 ?_
          refine lv_eqi (show V28 k 1 = nI (l0 ++ List.replicate j 0).length from by rw [← hV28, up2_k _ _ (by omega)]; exact hr1.1) ?_
          refine lv_iconst (v := 1) hx hb dX3_pushZeros_34 (by decide) ?_
          refine lv_iadd hx hb dX3_pushZeros_35 ?_
          refine w_pi 3 1 (T := TX3) (N := 2) hx hb hts in3 tyX3 tyX3_ok nmX3 hown hK.1 hM hS (hk).lt (hk).k (hk).n (hk).f1 (by decide) rfl (by decide) k21 rfl rfl rfl rfl dX3_pushZeros_36 (fun H locs hM hS => ?_)
          generalize hV36 : up2 V28 k 1 ((nI (l0 ++ List.replicate j 0).length) + 1) = V36 at hM
          obtain ⟨x2_39, ex2_39⟩ : ∃ y : Int32, y = x + 1 := ⟨_, rfl⟩
          refine lv_iinc (v := x2_39) (lv' := [(2, .int x2_39), (0, .ref (E.1 + k)), (1, .int (nI n))]) hx hb dX3_pushZeros_39 hl (k := 2) rfl (by rw [ex2_39]; rfl) (by decide) rfl (fun ls hl => ?_)
          refine lv_goto (tgt := 2) hx hb dX3_pushZeros_42 (by decide) ?_
          exact ih V36 _ _ _ (j + 1) _ (by rw [ex2_39, ex, nI_1]) (by omega) (by have := (row_push hr1 (by omega) hV28 hV36).1; rw [List.append_assoc] at this; simpa [List.replicate_succ'] using this) (hf1.trans (row_push hr1 (by omega) hV28 hV36).2) (by omega) hM hS (lv_sub hl [1, 2, 0] rfl)
  exact loop2 _ V _ _ _ 0 0 (rfl) (Nat.zero_le n) (by simpa using hr0) (frR.rf) (Nat.lt_succ_self _) hM hS (lv_sub hl [1, 2, 0] rfl)

set_option maxHeartbeats 4000000 in
set_option maxRecDepth 100000 in
theorem c_X3_pushPart (l : Launch) {E : En} {V : Vt} {k cap k2 cap2 : Nat} (hk : isRow k cap) (hk2 : isRow k2 cap2) (hne : k ≠ k2) {l0 l2 : List Int32} (hr0 : rowIs V k l0) (hr2 : rowIs V k2 l2) (h2l : l2.length ≤ cap2) {a n : Nat} (ha : a + n ≤ l2.length) (hc : l0.length + n ≤ cap) : CV l yX3_pushPart wsX3_pushPart 1 E V [.ref (E.1 + k), .ref (E.1 + k2), .int (nI a), .int (nI n)] (fun V' => rowIs V' k (l0 ++ (l2.drop a).take n) ∧ frR V V' k) := by
  refine Met.ofW (cc := cX3_pushPart) (maxL := 4) (ret := none) (by decide) rfl ?_
  intro p e s m args below meth c s₁ B hml hv
  obtain ⟨rfl, hM, hK⟩ := hv
  have hx := B.exec
  have hb := B.bytes
  have hr := B.returns
  have hts := atoms_spec (ws := wsX3_pushPart) B.pre
  have hown : s.vm.findClass RX3 = some m.cls := findClass_of_methodNamed B.named
  have hlocks := B.notSynchronized
  have hsz : s.heap.size = E.1 + 610 := hM.1
  have hS : va_S (AE E) s.heap s.heap [] := va_S.rf
  have in3 : ∀ w ∈ u_ws RX3 TX3 2, w ∈ wsX3_pushPart := by decide +kernel
  have k21 := hts (.fieldLink RX3 21 "LimitTokens$Row" "length" "I") (by decide +kernel)
  have k15 := hts (.fieldLink RX3 15 "LimitTokens$Row" "bytes" "[I") (by decide +kernel)
  have hl := lv_entry ([.ref (E.1 + k), .ref (E.1 + k2), .int (nI a), .int (nI n)]) (n := 4) (Nat.le_of_ble_eq_true rfl)
  rw [lg_entry_eq]
  generalize (lg_sl ([.ref (E.1 + k), .ref (E.1 + k2), .int (nI a), .int (nI n)]) ++ List.replicate (4 - (lg_sl ([.ref (E.1 + k), .ref (E.1 + k2), .int (nI a), .int (nI n)])).length) Slot.unset).toArray = ls at hl ⊢
  have hl : lv_has ls 4 [(0, .ref (E.1 + k)), (1, .ref (E.1 + k2)), (2, .int (nI a)), (3, .int (nI n))] := hl
  have hcap := hk.cap
  have hcap2 := hk2.cap
  have n1 : nI l2.length - nI a = nI (l2.length - a) := pk_sub (by omega)
  have n2 : nI cap - nI l0.length = nI (cap - l0.length) := pk_sub (by omega)
  refine lv_iload_n hx hb dX3_pushPart_0 rfl (lv_at hl 2 rfl) ?_
  refine lv_if_lt (tgt := 59) hx hb dX3_pushPart_1 (by decide) (fun c_1 => ?_) (fun c_1 => ?_)
  · exact absurd c_1 (nI_pos (by omega))
  · refine lv_iload_n hx hb dX3_pushPart_4 rfl (lv_at hl 3 rfl) ?_
    refine lv_if_lt (tgt := 59) hx hb dX3_pushPart_5 (by decide) (fun c_5 => ?_) (fun c_5 => ?_)
    · exact absurd c_5 (nI_pos (by omega))
    · refine lv_iload_n hx hb dX3_pushPart_8 rfl (lv_at hl 3 rfl) ?_
      refine lv_aload_n hx hb dX3_pushPart_9 rfl (lv_at hl 1 rfl) ?_
      refine w_gi 3 1 (T := TX3) (N := 2) hx hb hts in3 hown hK.1 hM (hk2).lt (hk2).k (hk2).n (hk2).f1 (by decide) rfl (by decide) k21 rfl dX3_pushPart_10 ?_
      refine lv_eqi (show V k2 1 = nI l2.length from hr2.1) ?_
      refine lv_iload_n hx hb dX3_pushPart_13 rfl (lv_at hl 2 rfl) ?_
      refine lv_isub hx hb dX3_pushPart_14 ?_
      refine lv_icmp_gt (tgt := 59) hx hb dX3_pushPart_15 (by decide) (fun c_15 => ?_) (fun c_15 => ?_)
      · exact absurd c_15 (by rw [n1]; exact nI_nlt (by omega) (by omega))
      · refine lv_iload_n hx hb dX3_pushPart_18 rfl (lv_at hl 3 rfl) ?_
        refine lv_aload_n hx hb dX3_pushPart_19 rfl (lv_at hl 0 rfl) ?_
        refine w_gr 3 0 (k + 1) (T := TX3) (N := 2) hx hb hts in3 hown hK.1 hM (hk).lt (hk).k (hk).n (hk).f0 (by decide) rfl (by decide) k15 rfl dX3_pushPart_20 ?_
        refine w_len hx hb hK.1 hM (hk).lt1 (hk).ak (hk).an dX3_pushPart_23 ?_
        refine lv_aload_n hx hb dX3_pushPart_24 rfl (lv_at hl 0 rfl) ?_
        refine w_gi 3 1 (T := TX3) (N := 2) hx hb hts in3 hown hK.1 hM (hk).lt (hk).k (hk).n (hk).f1 (by decide) rfl (by decide) k21 rfl dX3_pushPart_25 ?_
        refine lv_eqi (show V k 1 = nI l0.length from hr0.1) ?_
        refine lv_isub hx hb dX3_pushPart_28 ?_
        refine lv_icmp_gt (tgt := 59) hx hb dX3_pushPart_29 (by decide) (fun c_29 => ?_) (fun c_29 => ?_)
        · exact absurd c_29 (by rw [n2]; exact nI_nlt (by omega) (by omega))
        · refine lv_aload_n hx hb dX3_pushPart_32 rfl (lv_at hl 1 rfl) ?_
          refine w_gr 3 0 (k2 + 1) (T := TX3) (N := 2) hx hb hts in3 hown hK.1 hM (hk2).lt (hk2).k (hk2).n (hk2).f0 (by decide) rfl (by decide) k15 rfl dX3_pushPart_33 ?_
          refine lv_iload_n hx hb dX3_pushPart_36 rfl (lv_at hl 2 rfl) ?_
          refine lv_aload_n hx hb dX3_pushPart_37 rfl (lv_at hl 0 rfl) ?_
          refine w_gr 3 0 (k + 1) (T := TX3) (N := 2) hx hb hts in3 hown hK.1 hM (hk).lt (hk).k (hk).n (hk).f0 (by decide) rfl (by decide) k15 rfl dX3_pushPart_38 ?_
          refine lv_aload_n hx hb dX3_pushPart_41 rfl (lv_at hl 0 rfl) ?_
          refine w_gi 3 1 (T := TX3) (N := 2) hx hb hts in3 hown hK.1 hM (hk).lt (hk).k (hk).n (hk).f1 (by decide) rfl (by decide) k21 rfl dX3_pushPart_42 ?_
          refine lv_eqi (show V k 1 = nI l0.length from hr0.1) ?_
          refine lv_iload_n hx hb dX3_pushPart_45 rfl (lv_at hl 3 rfl) ?_
          refine w_cpy hx hb (hml.trans hl.1.symm) hown (hts (.methodLink RX3 29 arraycopyName) (by decide +kernel)) (hts (.native arraycopyName) (by decide +kernel)) (hts (.static arraycopyName) (by decide +kernel)) (hts (.initialized "java/lang/System") (by decide +kernel)) hK hM hsz hS (k0 := k2 + 1) (k1 := k + 1) (by omega) (hk2).lt1 (hk).lt1 (hk2).ak (hk).ak (hk2).an (hk).an (nI_pos (by omega)) (nI_pos (by omega)) (nI_pos (by omega)) (by rw [nI_clamp (by omega), nI_clamp (by omega)]; omega) (by rw [nI_clamp (by omega), nI_clamp (by omega)]; omega) (Nat.le_of_ble_eq_true rfl) (Nat.le_of_ble_eq_true rfl) dX3_pushPart_46 (fun H locs hM hS => ?_)
          rw [nI_clamp (n := a) (by omega), nI_clamp (n := l0.length) (by omega), nI_clamp (n := n) (by omega)] at hM
          generalize hV46 : va_up V (k + 1) (va_cpy (V (k2 + 1)) (V (k + 1)) a l0.length n) = V46 at hM
          refine lv_aload_n hx hb dX3_pushPart_49 rfl (lv_at hl 0 rfl) ?_
          refine lv_dup hx hb dX3_pushPart_50 rfl ?_
          refine w_gi 3 1 (T := TX3) (N := 2) hx hb hts in3 hown hK.1 hM (hk).lt (hk).k (hk).n (hk).f1 (by decide) rfl (by decide) k21 rfl dX3_pushPart_51 ?_
          refine lv_eqi (show V46 k 1 = nI l0.length from by rw [← hV46]; simp only [va_up, show ¬ k = k + 1 by omega, if_false]; exact hr0.1) ?_
          refine lv_iload_n hx hb dX3_pushPart_54 rfl (lv_at hl 3 rfl) ?_
          refine lv_iadd hx hb dX3_pushPart_55 ?_
          refine w_pi 3 1 (T := TX3) (N := 2) hx hb hts in3 tyX3 tyX3_ok nmX3 hown hK.1 hM hS (hk).lt (hk).k (hk).n (hk).f1 (by decide) rfl (by decide) k21 rfl rfl rfl rfl dX3_pushPart_56 (fun H locs hM hS => ?_)
          generalize hV56 : up2 V46 k 1 ((nI l0.length) + (nI n)) = V56 at hM
          exact w_vret (free := AE E) V56 hx hb hr hK hS hM (row_cpy hr0 hr2 ha hV46 (by rw [← nI_add]; exact hV56)) hlocks dX3_pushPart_59

set_option maxHeartbeats 4000000 in
set_option maxRecDepth 100000 in
theorem c_X3_pushAll (l : Launch) {E : En} {V : Vt} {k cap k2 cap2 : Nat} (hk : isRow k cap) (hk2 : isRow k2 cap2) (hne : k ≠ k2) {l0 l2 : List Int32} (hr0 : rowIs V k l0) (hr2 : rowIs V k2 l2) (h2l : l2.length ≤ cap2) (hc : l0.length + l2.length ≤ cap) : CV l yX3_pushAll wsX3_pushAll 2 E V [.ref (E.1 + k), .ref (E.1 + k2)] (fun V' => rowIs V' k (l0 ++ l2) ∧ frR V V' k) := by
  refine Met.ofW (cc := cX3_pushAll) (maxL := 2) (ret := none) (by decide) rfl ?_
  intro p e s m args below meth c s₁ B hml hv
  obtain ⟨rfl, hM, hK⟩ := hv
  have hx := B.exec
  have hb := B.bytes
  have hr := B.returns
  have hts := atoms_spec (ws := wsX3_pushAll) B.pre
  have hown : s.vm.findClass RX3 = some m.cls := findClass_of_methodNamed B.named
  have hlocks := B.notSynchronized
  have hsz : s.heap.size = E.1 + 610 := hM.1
  have hS : va_S (AE E) s.heap s.heap [] := va_S.rf
  have in3 : ∀ w ∈ u_ws RX3 TX3 2, w ∈ wsX3_pushAll := by decide +kernel
  have k21 := hts (.fieldLink RX3 21 "LimitTokens$Row" "length" "I") (by decide +kernel)
  have hl := lv_entry ([.ref (E.1 + k), .ref (E.1 + k2)]) (n := 2) (Nat.le_of_ble_eq_true rfl)
  rw [lg_entry_eq]
  generalize (lg_sl ([.ref (E.1 + k), .ref (E.1 + k2)]) ++ List.replicate (2 - (lg_sl ([.ref (E.1 + k), .ref (E.1 + k2)])).length) Slot.unset).toArray = ls at hl ⊢
  have hl : lv_has ls 2 [(0, .ref (E.1 + k)), (1, .ref (E.1 + k2))] := hl
  refine lv_aload_n hx hb dX3_pushAll_0 rfl (lv_at hl 0 rfl) ?_
  refine lv_aload_n hx hb dX3_pushAll_1 rfl (lv_at hl 1 rfl) ?_
  refine lv_iconst (v := 0) hx hb dX3_pushAll_2 (by decide) ?_
  refine lv_aload_n hx hb dX3_pushAll_3 rfl (lv_at hl 1 rfl) ?_
  refine w_gi 3 1 (T := TX3) (N := 2) hx hb hts in3 hown hK.1 hM (hk2).lt (hk2).k (hk2).n (hk2).f1 (by decide) rfl (by decide) k21 rfl dX3_pushAll_4 ?_
  refine lv_eqi (show V k2 1 = nI l2.length from hr2.1) ?_
  refine w_cVv (C := RX3) (As := [.ref (E.1 + k2), .int 0, .int (nI l2.length)]) (rest := []) ⟨hx, hb, hml, hown, hts⟩ (c_X3_pushPart l hk hk2 hne hr0 hr2 h2l (a := 0) (n := l2.length) (by omega) hc) (cwV 3 hts gX3_pushAll_X3_pushPart rfl rfl rfl (by decide +kernel) ⟨Nat.le_of_ble_eq_true rfl, Nat.le_of_ble_eq_true rfl⟩) (w_recv hK hM (hk).lt (hk).k (by decide) rfl) hM hK hS rfl hl.1 rfl (lv_room (Nat.le_of_ble_eq_true rfl)) dX3_pushAll_7 ⟨Nat.le_of_ble_eq_true rfl, Nat.le_of_ble_eq_true rfl⟩ (fun V7 H locs hp7 hM hS => ?_)
  exact w_vret (free := AE E) V7 hx hb hr hK hS hM (by simpa using hp7) hlocks dX3_pushAll_10

set_option maxHeartbeats 4000000 in
set_option maxRecDepth 100000 in
theorem c_X3_takeOver (l : Launch) {E : En} {V : Vt} {k cap k2 cap2 : Nat} (hk : isRow k cap) (hk2 : isRow k2 cap2) {l2 : List Int32} (hr2 : rowIs V k2 l2) (h2l : l2.length ≤ cap2) (hc : l2.length ≤ cap) : CV l yX3_takeOver wsX3_takeOver 2 E V [.ref (E.1 + k), .ref (E.1 + k2)] (fun V' => rowIs V' k l2 ∧ frR V V' k) := by
  refine Met.ofW (cc := cX3_takeOver) (maxL := 2) (ret := none) (by decide) rfl ?_
  intro p e s m args below meth c s₁ B hml hv
  obtain ⟨rfl, hM, hK⟩ := hv
  have hx := B.exec
  have hb := B.bytes
  have hr := B.returns
  have hts := atoms_spec (ws := wsX3_takeOver) B.pre
  have hown : s.vm.findClass RX3 = some m.cls := findClass_of_methodNamed B.named
  have hlocks := B.notSynchronized
  have hsz : s.heap.size = E.1 + 610 := hM.1
  have hS : va_S (AE E) s.heap s.heap [] := va_S.rf
  have in3 : ∀ w ∈ u_ws RX3 TX3 2, w ∈ wsX3_takeOver := by decide +kernel
  have k21 := hts (.fieldLink RX3 21 "LimitTokens$Row" "length" "I") (by decide +kernel)
  have hl := lv_entry ([.ref (E.1 + k), .ref (E.1 + k2)]) (n := 2) (Nat.le_of_ble_eq_true rfl)
  rw [lg_entry_eq]
  generalize (lg_sl ([.ref (E.1 + k), .ref (E.1 + k2)]) ++ List.replicate (2 - (lg_sl ([.ref (E.1 + k), .ref (E.1 + k2)])).length) Slot.unset).toArray = ls at hl ⊢
  have hl : lv_has ls 2 [(0, .ref (E.1 + k)), (1, .ref (E.1 + k2))] := hl
  refine lv_aload_n hx hb dX3_takeOver_0 rfl (lv_at hl 1 rfl) ?_
  refine lv_aload_n hx hb dX3_takeOver_1 rfl (lv_at hl 0 rfl) ?_
  refine lv_acmp_eq (rx := some (E.1 + k2)) (ry := some (E.1 + k)) (tgt := 20) hx hb dX3_takeOver_2 (by decide) (fun c_2 => ?_) (fun c_2 => ?_)
  · exact w_vret (free := AE E) V hx hb hr hK hS hM (by have h9 : k2 = k := (by simpa using c_2); subst h9; exact ⟨hr2, frR.rf⟩) hlocks dX3_takeOver_20
  · have hne : k ≠ k2 := fun h => c_2 (by rw [h])
    refine lv_aload_n hx hb dX3_takeOver_5 rfl (lv_at hl 0 rfl) ?_
    refine lv_iconst (v := 0) hx hb dX3_takeOver_6 (by decide) ?_
    refine w_pi 3 1 (T := TX3) (N := 2) hx hb hts in3 tyX3 tyX3_ok nmX3 hown hK.1 hM hS (hk).lt (hk).k (hk).n (hk).f1 (by decide) rfl (by decide) k21 rfl rfl rfl rfl dX3_takeOver_7 (fun H locs hM hS => ?_)
    generalize hV7 : up2 V k 1 0 = V7 at hM
    have hd : k2 ≠ k + 1 := fun h => by have h1 := hk2.k; rw [h, hk.ak] at h1; omega
    have hd2 : k2 + 1 ≠ k := fun h => by have h1 := hk2.ak; rw [h, hk.k] at h1; omega
    have hr3 : rowIs V7 k2 l2 := by subst hV7; exact hr2.keep (up2_k _ _ (by omega)) (up2_k _ _ (by omega))
    refine lv_aload_n hx hb dX3_takeOver_10 rfl (lv_at hl 0 rfl) ?_
    refine lv_aload_n hx hb dX3_takeOver_11 rfl (lv_at hl 1 rfl) ?_
    refine lv_iconst (v := 0) hx hb dX3_takeOver_12 (by decide) ?_
    refine lv_aload_n hx hb dX3_takeOver_13 rfl (lv_at hl 1 rfl) ?_
    refine w_gi 3 1 (T := TX3) (N := 2) hx hb hts in3 hown hK.1 hM (hk2).lt (hk2).k (hk2).n (hk2).f1 (by decide) rfl (by decide) k21 rfl dX3_takeOver_14 ?_
    refine lv_eqi (show V7 k2 1 = nI l2.length from by rw [← hV7, up2_k _ _ (by omega)]; exact hr2.1) ?_
    refine w_cVv (C := RX3) (As := [.ref (E.1 + k2), .int 0, .int (nI l2.length)]) (rest := []) ⟨hx, hb, hml, hown, hts⟩ (c_X3_pushPart l hk hk2 hne (l0 := []) (by subst hV7; exact rowIs.nil V k) hr3 h2l (a := 0) (n := l2.length) (by omega) (by simpa using hc)) (cwV 3 hts gX3_takeOver_X3_pushPart rfl rfl rfl (by decide +kernel) ⟨Nat.le_of_ble_eq_true rfl, Nat.le_of_ble_eq_true rfl⟩) (w_recv hK hM (hk).lt (hk).k (by decide) rfl) hM hK hS rfl hl.1 rfl (lv_room (Nat.le_of_ble_eq_true rfl)) dX3_takeOver_17 ⟨Nat.le_of_ble_eq_true rfl, Nat.le_of_ble_eq_true rfl⟩ (fun V17 H locs hp17 hM hS => ?_)
    exact w_vret (free := AE E) V17 hx hb hr hK hS hM (by subst hV7; exact ⟨by simpa using hp17.1, (frR.rf.up (Or.inl rfl) _ _).trans hp17.2⟩) hlocks dX3_takeOver_20

set_option maxHeartbeats 4000000 in
set_option maxRecDepth 100000 in
theorem c_X3_flip (l : Launch) {E : En} {V : Vt} {k cap : Nat} (hk : isRow k cap) {l0 : List Int32} (hr0 : rowIs V k l0) (h0l : l0.length ≤ cap) {j : Nat} (hj : j < l0.length) (x : Int32) : CI l yX3_flip wsX3_flip 1 E V [.ref (E.1 + k), .int (nI j), .int x] (fun r V' => r = l0.getD j 0 ^^^ x ∧ rowIs V' k (l0.set j (l0.getD j 0 ^^^ x)) ∧ frR V V' k) := by
  refine Met.ofW (cc := cX3_flip) (maxL := 3) (ret := (some .int)) (by decide) rfl ?_
  intro p e s m args below meth c s₁ B hml hv
  obtain ⟨rfl, hM, hK⟩ := hv
  have hx := B.exec
  have hb := B.bytes
  have hr := B.returns
  have hts := atoms_spec (ws := wsX3_flip) B.pre
  have hown : s.vm.findClass RX3 = some m.cls := findClass_of_methodNamed B.named
  have hlocks := B.notSynchronized
  have hsz : s.heap.size = E.1 + 610 := hM.1
  have hS : va_S (AE E) s.heap s.heap [] := va_S.rf
  have in3 : ∀ w ∈ u_ws RX3 TX3 2, w ∈ wsX3_flip := by decide +kernel
  have k15 := hts (.fieldLink RX3 15 "LimitTokens$Row" "bytes" "[I") (by decide +kernel)
  have hl := lv_entry ([.ref (E.1 + k), .int (nI j), .int x]) (n := 3) (Nat.le_of_ble_eq_true rfl)
  rw [lg_entry_eq]
  generalize (lg_sl ([.ref (E.1 + k), .int (nI j), .int x]) ++ List.replicate (3 - (lg_sl ([.ref (E.1 + k), .int (nI j), .int x])).length) Slot.unset).toArray = ls at hl ⊢
  have hl : lv_has ls 3 [(0, .ref (E.1 + k)), (1, .int (nI j)), (2, .int x)] := hl
  have hcap := hk.cap
  refine lv_aload_n hx hb dX3_flip_0 rfl (lv_at hl 0 rfl) ?_
  refine lv_iload_n hx hb dX3_flip_1 rfl (lv_at hl 1 rfl) ?_
  refine w_cVi (C := RX3) (As := [.int (nI j)]) (rest := []) ⟨hx, hb, hml, hown, hts⟩ (c_X3_has l hk (nI j)) (cwV 1 hts gX3_flip_X3_has rfl rfl rfl (by decide +kernel) ⟨Nat.le_of_ble_eq_true rfl, Nat.le_of_ble_eq_true rfl⟩) (w_recv hK hM (hk).lt (hk).k (by decide) rfl) hM hK hS rfl hl.1 rfl (lv_room (Nat.le_of_ble_eq_true rfl)) dX3_flip_2 ⟨Nat.le_of_ble_eq_true rfl, Nat.le_of_ble_eq_true rfl⟩ (fun r2 V2 H locs hp2 hM hS => ?_)
  obtain ⟨er2, eV⟩ := hp2
  rw [eV] at hM; clear eV
  refine lv_if_ne (tgt := 10) hx hb dX3_flip_5 (by decide) (fun c_5 => ?_) (fun c_5 => ?_)
  · refine lv_aload_n hx hb dX3_flip_10 rfl (lv_at hl 0 rfl) ?_
    refine w_gr 3 0 (k + 1) (T := TX3) (N := 2) hx hb hts in3 hown hK.1 hM (hk).lt (hk).k (hk).n (hk).f0 (by decide) rfl (by decide) k15 rfl dX3_flip_11 ?_
    refine lv_iload_n hx hb dX3_flip_14 rfl (lv_at hl 1 rfl) ?_
    refine lv_dup2_11 hx hb dX3_flip_15 rfl rfl ?_
    refine w_ild hx hb hK.1 hM (hk).lt1 (hk).ak (hk).an (vp_in_nI (by omega) (by omega)) dX3_flip_16 ?_
    refine lv_eqi (show V (k + 1) (nI j).toNatClampNeg = l0.getD j 0 from by rw [nI_clamp (by omega)]; exact hr0.2 j hj) ?_
    refine lv_iload_n hx hb dX3_flip_17 rfl (lv_at hl 2 rfl) ?_
    refine lv_ixor hx hb dX3_flip_18 ?_
    refine w_ist hx hb hK.1 hM hS (hk).lt1 (hk).ak (hk).an (vp_in_nI (by omega) (by omega)) dX3_flip_19 (fun H locs hM hS => ?_)
    generalize hV19 : up2 V (k + 1) (nI j).toNatClampNeg ((l0.getD j 0) ^^^ x) = V19 at hM
    refine lv_aload_n hx hb dX3_flip_20 rfl (lv_at hl 0 rfl) ?_
    refine w_gr 3 0 (k + 1) (T := TX3) (N := 2) hx hb hts in3 hown hK.1 hM (hk).lt (hk).k (hk).n (hk).f0 (by decide) rfl (by decide) k15 rfl dX3_flip_21 ?_
    refine lv_iload_n hx hb dX3_flip_24 rfl (lv_at hl 1 rfl) ?_
    refine w_ild hx hb hK.1 hM (hk).lt1 (hk).ak (hk).an (vp_in_nI (by omega) (by omega)) dX3_flip_25 ?_
    refine lv_eqi (show V19 (k + 1) (nI j).toNatClampNeg = l0.getD j 0 ^^^ x from by subst hV19; exact up2_s _ _ _ _) ?_
    exact w_iret V19 hx hb hr hK hS hM (⟨rfl, row_set hr0 hj (by rw [nI_clamp (by omega)] at hV19; exact hV19)⟩) hlocks dX3_flip_26
  · exact absurd (er2.symm.trans c_5) (by rw [hr0.1, if_pos ⟨nI_pos' (by omega), nI_lt hj (by omega)⟩]; decide)

set_option maxHeartbeats 4000000 in
set_option maxRecDepth 100000 in
theorem c_X3_isSameAs (l : Launch) {E : En} {V : Vt} {k cap k2 cap2 : Nat} (hk : isRow k cap) (hk2 : isRow k2 cap2) {l0 l2 : List Int32} (hr0 : rowIs V k l0) (hr2 : rowIs V k2 l2) (h0l : l0.length ≤ cap) (h2l : l2.length ≤ cap2) : CI l yX3_isSameAs wsX3_isSameAs 0 E V [.ref (E.1 + k), .ref (E.1 + k2)] (fun r V' => r = (if l0 = l2 then 1 else 0) ∧ V' = V) := by
  refine Met.ofW (cc := cX3_isSameAs) (maxL := 3) (ret := (some .boolean)) (by decide) rfl ?_
  intro p e s m args below meth c s₁ B hml hv
  obtain ⟨rfl, hM, hK⟩ := hv
  have hx := B.exec
  have hb := B.bytes
  have hr := B.returns
  have hts := atoms_spec (ws := wsX3_isSameAs) B.pre
  have hown : s.vm.findClass RX3 = some m.cls := findClass_of_methodNamed B.named
  have hlocks := B.notSynchronized
  have hsz : s.heap.size = E.1 + 610 := hM.1
  have hS : va_S (AE E) s.heap s.heap [] := va_S.rf
  have in3 : ∀ w ∈ u_ws RX3 TX3 2, w ∈ wsX3_isSameAs := by decide +kernel
  have k21 := hts (.fieldLink RX3 21 "LimitTokens$Row" "length" "I") (by decide +kernel)
  have k15 := hts (.fieldLink RX3 15 "LimitTokens$Row" "bytes" "[I") (by decide +kernel)
  have hl := lv_entry ([.ref (E.1 + k), .ref (E.1 + k2)]) (n := 3) (Nat.le_of_ble_eq_true rfl)
  rw [lg_entry_eq]
  generalize (lg_sl ([.ref (E.1 + k), .ref (E.1 + k2)]) ++ List.replicate (3 - (lg_sl ([.ref (E.1 + k), .ref (E.1 + k2)])).length) Slot.unset).toArray = ls at hl ⊢
  have hl : lv_has ls 3 [(0, .ref (E.1 + k)), (1, .ref (E.1 + k2))] := hl
  have hcap := hk.cap
  have hcap2 := hk2.cap
  refine lv_aload_n hx hb dX3_isSameAs_0 rfl (lv_at hl 0 rfl) ?_
  refine w_gi 3 1 (T := TX3) (N := 2) hx hb hts in3 hown hK.1 hM (hk).lt (hk).k (hk).n (hk).f1 (by decide) rfl (by decide) k21 rfl dX3_isSameAs_1 ?_
  refine lv_eqi (show V k 1 = nI l0.length from hr0.1) ?_
  refine lv_aload_n hx hb dX3_isSameAs_4 rfl (lv_at hl 1 rfl) ?_
  refine w_gi 3 1 (T := TX3) (N := 2) hx hb hts in3 hown hK.1 hM (hk2).lt (hk2).k (hk2).n (hk2).f1 (by decide) rfl (by decide) k21 rfl dX3_isSameAs_5 ?_
  refine lv_eqi (show V k2 1 = nI l2.length from hr2.1) ?_
  refine lv_icmp_eq (tgt := 13) hx hb dX3_isSameAs_8 (by decide) (fun c_8 => ?_) (fun c_8 => ?_)
  · have hlen : l0.length = l2.length := (nI_eq (by omega) (by omega)).mp c_8
    refine lv_iconst (v := 0) hx hb dX3_isSameAs_13 (by decide) ?_
    refine lv_istore_n (lv' := [(2, .int 0), (0, .ref (E.1 + k)), (1, .ref (E.1 + k2))]) hx hb dX3_isSameAs_14 rfl hl (by decide) rfl (fun ls hl => ?_)
    have loop15 : ∀ (fu : Nat) (Vw : Vt) (H : Heap) (locs : List Loc) (ls : Array Slot) (j : Nat) (x : Int32) (eV : Vw = V) (ex : x = nI j) (hj : j ≤ l0.length) (hq : ∀ i, i < j → V (k + 1) i = l2.getD i 0), l0.length - j < fu → Wd E Vw H → va_S (AE E) s.heap H locs → lv_has ls 3 [(0, .ref (E.1 + k)), (1, .ref (E.1 + k2)), (2, .int x)] → W p l e (headSpec wsX3_isSameAs (rmD 0)).room s m ([.ref (E.1 + k), .ref (E.1 + k2)] : List Value).toArray below meth c H locs 0 0 (MQ below (QI E (fun V' => Wd E V') (fun r V' => r = (if l0 = l2 then 1 else 0) ∧ V' = V)) ([.ref (E.1 + k), .ref (E.1 + k2)] : List Value).toArray s 0 0 (AE E)) (F0 m 15 ls []) := by
      intro fu
      induction fu with
      | zero => intros; omega
      | succ fu ih =>
        intro Vw H locs ls j x eV ex hj hq hfu hM hS hl
        refine lv_iload_n hx hb dX3_isSameAs_15 rfl (lv_at hl 2 rfl) ?_
        refine lv_aload_n hx hb dX3_isSameAs_16 rfl (lv_at hl 0 rfl) ?_
        refine w_gi 3 1 (T := TX3) (N := 2) hx hb hts in3 hown hK.1 hM (hk).lt (hk).k (hk).n (hk).f1 (by decide) rfl (by decide) k21 rfl dX3_isSameAs_17 ?_
        refine lv_eqi (show Vw k 1 = nI l0.length from by rw [eV]; exact hr0.1) ?_
        refine lv_icmp_ge (tgt := 46) hx hb dX3_isSameAs_20 (by decide) (fun c_20 => ?_) (fun c_20 => ?_)
        · refine lv_iconst (v := 1) hx hb dX3_isSameAs_46 (by decide) ?_
          exact w_zret Vw hx hb hr hK hS hM (⟨by rw [if_pos (row_ext hlen hr0 (fun i hi => hq i (by have := nI_lei ex c_20 (by omega) (by omega); omega)))], eV⟩) (rfl) hlocks dX3_isSameAs_47
        · have hlt : j < l0.length := by
            rcases Nat.lt_or_ge j l0.length with q | q
            · exact q
            · exact absurd (by rw [ex]; exact nI_le q (by omega)) c_20
          refine lv_aload_n hx hb dX3_isSameAs_23 rfl (lv_at hl 0 rfl) ?_
          refine w_gr 3 0 (k + 1) (T := TX3) (N := 2) hx hb hts in3 hown hK.1 hM (hk).lt (hk).k (hk).n (hk).f0 (by decide) rfl (by decide) k15 rfl dX3_isSameAs_24 ?_
          refine lv_iload_n hx hb dX3_isSameAs_27 rfl (lv_at hl 2 rfl) ?_
          refine w_ild hx hb hK.1 hM (hk).lt1 (hk).ak (hk).an (by rw [ex]; exact vp_in_nI (by omega) (by omega)) dX3_isSameAs_28 ?_
          refine lv_aload_n hx hb dX3_isSameAs_29 rfl (lv_at hl 1 rfl) ?_
          refine w_gr 3 0 (k2 + 1) (T := TX3) (N := 2) hx hb hts in3 hown hK.1 hM (hk2).lt (hk2).k (hk2).n (hk2).f0 (by decide) rfl (by decide) k15 rfl dX3_isSameAs_30 ?_
          refine lv_iload_n hx hb dX3_isSameAs_33 rfl (lv_at hl 2 rfl) ?_
          refine w_ild hx hb hK.1 hM (hk2).lt1 (hk2).ak (hk2).an (by rw [ex]; exact vp_in_nI (by omega) (by omega)) dX3_isSameAs_34 ?_
          refine lv_icmp_eq (tgt := 40) hx hb dX3_isSameAs_35 (by decide) (fun c_35 => ?_) (fun c_35 => ?_)
          · obtain ⟨x2_40, ex2_40⟩ : ∃ y : Int32, y = x + 1 := ⟨_, rfl⟩
            refine lv_iinc (v := x2_40) (lv' := [(2, .int x2_40), (0, .ref (E.1 + k)), (1, .ref (E.1 + k2))]) hx hb dX3_isSameAs_40 hl (k := 2) rfl (by rw [ex2_40]; rfl) (by decide) rfl (fun ls hl => ?_)
            refine lv_goto (tgt := 15) hx hb dX3_isSameAs_43 (by decide) ?_
            exact ih Vw _ _ _ (j + 1) _ eV (by rw [ex2_40, ex, nI_1]) (by omega) (lt_s hq (by rw [← hr2.2 j (by omega)]; rw [eV, ex, nI_clamp (by omega)] at c_35; exact c_35)) (by omega) hM hS (lv_sub hl [1, 2, 0] rfl)
          · refine lv_iconst (v := 0) hx hb dX3_isSameAs_38 (by decide) ?_
            exact w_zret Vw hx hb hr hK hS hM (⟨by rw [if_neg (fun h => c_35 (by rw [eV, ex, nI_clamp (by omega), hr0.2 j hlt, hr2.2 j (by omega), h]))], eV⟩) (rfl) hlocks dX3_isSameAs_39
    exact loop15 _ V _ _ _ 0 0 (rfl) (rfl) (Nat.zero_le _) (fun i hi => absurd hi (Nat.not_lt_zero i)) (Nat.lt_succ_self _) hM hS (lv_sub hl [1, 2, 0] rfl)
  · refine lv_iconst (v := 0) hx hb dX3_isSameAs_11 (by decide) ?_
    exact w_zret V hx hb hr hK hS hM (⟨by rw [if_neg (fun h => c_8 (by rw [h]))], rfl⟩) (rfl) hlocks dX3_isSameAs_12
