set_option maxHeartbeats 4000000 in
set_option maxRecDepth 100000 in
theorem c_X5_stopAt (l : Launch) {E : En} {V : Vt} (f : Int32) : CI l yX5_stopAt wsX5_stopAt 0 E V [.ref (E.1 + 505), .int f] (fun r V' => r = 0 ∧ V' 505 2 = f ∧ V' 505 3 = V 505 1 ∧ ∀ j, j ≠ 505 → V' j = V j) := by
  refine Met.ofW (cc := cX5_stopAt) (maxL := 2) (ret := (some .boolean)) (by decide) rfl ?_
  intro p e s m args below meth c s₁ B hml hv
  obtain ⟨rfl, hM, hK⟩ := hv
  have hx := B.exec
  have hb := B.bytes
  have hret := B.returns
  have hts := atoms_spec (ws := wsX5_stopAt) B.pre
  have hown : s.vm.findClass RX5 = some m.cls := findClass_of_methodNamed B.named
  have hlocks := B.notSynchronized
  have hsz : s.heap.size = E.1 + 610 := hM.1
  have hS : va_S (AE E) s.heap s.heap [] := va_S.rf
  have in5 : ∀ w ∈ u_ws RX5 TX5 4, w ∈ wsX5_stopAt := by decide +kernel
  have k27 := hts (.fieldLink RX5 27 "LimitTokens$TapeReader" "found" "I") (by decide +kernel)
  have k24 := hts (.fieldLink RX5 24 "LimitTokens$TapeReader" "position" "I") (by decide +kernel)
  have k20 := hts (.fieldLink RX5 20 "LimitTokens$TapeReader" "foundPlace" "I") (by decide +kernel)
  have hl := lv_entry ([.ref (E.1 + 505), .int f]) (n := 2) (Nat.le_of_ble_eq_true rfl)
  rw [lg_entry_eq]
  generalize (lg_sl ([.ref (E.1 + 505), .int f]) ++ List.replicate (2 - (lg_sl ([.ref (E.1 + 505), .int f])).length) Slot.unset).toArray = ls at hl ⊢
  have hl : lv_has ls 2 [(0, .ref (E.1 + 505)), (1, .int f)] := hl
  refine lv_aload_n hx hb dX5_stopAt_0 rfl (lv_at hl 0 rfl) ?_
  refine lv_iload_n hx hb dX5_stopAt_1 rfl (lv_at hl 1 rfl) ?_
  refine w_pi 5 2 (T := TX5) (N := 4) hx hb hts in5 tyX5 tyX5_ok nmX5 hown hK.1 hM hS (by decide) (by decide) (by decide) (by decide) (by decide) rfl (by decide) k27 rfl rfl rfl rfl dX5_stopAt_2 (fun H locs hM hS => ?_)
  generalize hV2 : up2 V 505 2 f = V2 at hM
  refine lv_aload_n hx hb dX5_stopAt_5 rfl (lv_at hl 0 rfl) ?_
  refine lv_aload_n hx hb dX5_stopAt_6 rfl (lv_at hl 0 rfl) ?_
  refine w_gi 5 1 (T := TX5) (N := 4) hx hb hts in5 hown hK.1 hM (by decide) (by decide) (by decide) (by decide) (by decide) rfl (by decide) k24 rfl dX5_stopAt_7 ?_
  refine w_pi 5 3 (T := TX5) (N := 4) hx hb hts in5 tyX5 tyX5_ok nmX5 hown hK.1 hM hS (by decide) (by decide) (by decide) (by decide) (by decide) rfl (by decide) k20 rfl rfl rfl rfl dX5_stopAt_10 (fun H locs hM hS => ?_)
  generalize hV10 : up2 V2 505 3 (V2 505 1) = V10 at hM
  refine lv_iconst (v := 0) hx hb dX5_stopAt_13 (by decide) ?_
  exact w_zret V10 hx hb hret hK hS hM (by subst hV2; subst hV10; exact ⟨rfl, (by rw [up2_o _ _ (by decide), up2_s]), (by rw [up2_s, up2_o _ _ (by decide)]), fun j hj => (by rw [up2_k _ _ hj, up2_k _ _ hj])⟩) (rfl) hlocks dX5_stopAt_14

set_option maxHeartbeats 4000000 in
set_option maxRecDepth 100000 in
theorem c_X5_takeMark (l : Launch) {E : En} {V : Vt} {b : List Int32} (hs : rowIs V 506 b) (hbl : b.length ≤ 1200) {p0 : Nat} (hp0 : V 505 1 = nI p0) (hpl : p0 ≤ b.length) (mk : Int32) : CI l yX5_takeMark wsX5_takeMark 1 E V [.ref (E.1 + 505), .int mk] (fun r V' => rdP (rMark b mk p0) r V' (fun p' => V' 505 1 = nI p' ∧ V' 505 2 = V 505 2 ∧ V' 505 3 = V 505 3) ∧ ∀ j, j ≠ 505 → V' j = V j) := by
  refine Met.ofW (cc := cX5_takeMark) (maxL := 2) (ret := (some .boolean)) (by decide) rfl ?_
  intro p e s m args below meth c s₁ B hml hv
  obtain ⟨rfl, hM, hK⟩ := hv
  have hx := B.exec
  have hb := B.bytes
  have hret := B.returns
  have hts := atoms_spec (ws := wsX5_takeMark) B.pre
  have hown : s.vm.findClass RX5 = some m.cls := findClass_of_methodNamed B.named
  have hlocks := B.notSynchronized
  have hsz : s.heap.size = E.1 + 610 := hM.1
  have hS : va_S (AE E) s.heap s.heap [] := va_S.rf
  have in5 : ∀ w ∈ u_ws RX5 TX5 4, w ∈ wsX5_takeMark := by decide +kernel
  have k14 := hts (.fieldLink RX5 14 "LimitTokens$TapeReader" "source" "LLimitTokens$Row;") (by decide +kernel)
  have k24 := hts (.fieldLink RX5 24 "LimitTokens$TapeReader" "position" "I") (by decide +kernel)
  have hl := lv_entry ([.ref (E.1 + 505), .int mk]) (n := 2) (Nat.le_of_ble_eq_true rfl)
  rw [lg_entry_eq]
  generalize (lg_sl ([.ref (E.1 + 505), .int mk]) ++ List.replicate (2 - (lg_sl ([.ref (E.1 + 505), .int mk])).length) Slot.unset).toArray = ls at hl ⊢
  have hl : lv_has ls 2 [(0, .ref (E.1 + 505)), (1, .int mk)] := hl
  refine lv_aload_n hx hb dX5_takeMark_0 rfl (lv_at hl 0 rfl) ?_
  refine w_gr 5 0 506 (T := TX5) (N := 4) hx hb hts in5 hown hK.1 hM (by decide) (by decide) (by decide) (by decide) (by decide) rfl (by decide) k14 rfl dX5_takeMark_1 ?_
  refine lv_aload_n hx hb dX5_takeMark_4 rfl (lv_at hl 0 rfl) ?_
  refine w_gi 5 1 (T := TX5) (N := 4) hx hb hts in5 hown hK.1 hM (by decide) (by decide) (by decide) (by decide) (by decide) rfl (by decide) k24 rfl dX5_takeMark_5 ?_
  have q : (V 505 1 : Int32) = nI p0 := hp0
  refine lv_eqi q ?_
  refine w_cVi (C := RX3) (As := [.int (nI p0)]) (rest := []) ⟨hx, hb, hml, hown, hts⟩ (c_X3_has l rw506 (nI p0)) (cwV 1 hts gX5_takeMark_X3_has rfl rfl rfl (by decide +kernel) ⟨Nat.le_of_ble_eq_true rfl, Nat.le_of_ble_eq_true rfl⟩) (w_recv (ci := 3) hK hM (by decide) (by decide) (by decide) rfl) hM hK hS rfl hl.1 rfl (lv_room (Nat.le_of_ble_eq_true rfl)) dX5_takeMark_8 ⟨Nat.le_of_ble_eq_true rfl, Nat.le_of_ble_eq_true rfl⟩ (fun r8 V8 H locs hp8 hM hS => ?_)
  obtain ⟨er8, eV⟩ := hp8
  rw [eV] at hM; clear eV
  have hin : r8 = (if p0 < b.length then 1 else 0) := by
    rw [er8, hs.1]
    by_cases h : p0 < b.length
    · rw [if_pos h, if_pos ⟨nI_pos' (by omega), nI_lt h (by omega)⟩]
    · rw [if_neg h, if_neg (fun q => h ((nI_ltI (by omega) (by omega)).mp q.2))]
  refine lv_if_ne (tgt := 20) hx hb dX5_takeMark_11 (by decide) (fun c_11 => ?_) (fun c_11 => ?_)
  · have hlt : p0 < b.length := by by_cases h : p0 < b.length; (exact h); (rw [hin, if_neg h] at c_11; exact absurd rfl c_11)
    refine lv_aload_n hx hb dX5_takeMark_20 rfl (lv_at hl 0 rfl) ?_
    refine w_gr 5 0 506 (T := TX5) (N := 4) hx hb hts in5 hown hK.1 hM (by decide) (by decide) (by decide) (by decide) (by decide) rfl (by decide) k14 rfl dX5_takeMark_21 ?_
    refine lv_aload_n hx hb dX5_takeMark_24 rfl (lv_at hl 0 rfl) ?_
    refine w_gi 5 1 (T := TX5) (N := 4) hx hb hts in5 hown hK.1 hM (by decide) (by decide) (by decide) (by decide) (by decide) rfl (by decide) k24 rfl dX5_takeMark_25 ?_
    have q : (V 505 1 : Int32) = nI p0 := hp0
    refine lv_eqi q ?_
    refine w_cVi (C := RX3) (As := [.int (nI p0)]) (rest := []) ⟨hx, hb, hml, hown, hts⟩ (c_X3_byteAt l rw506 hs hbl (nI p0)) (cwV 1 hts gX5_takeMark_X3_byteAt rfl rfl rfl (by decide +kernel) ⟨Nat.le_of_ble_eq_true rfl, Nat.le_of_ble_eq_true rfl⟩) (w_recv (ci := 3) hK hM (by decide) (by decide) (by decide) rfl) hM hK hS rfl hl.1 rfl (lv_room (Nat.le_of_ble_eq_true rfl)) dX5_takeMark_28 ⟨Nat.le_of_ble_eq_true rfl, Nat.le_of_ble_eq_true rfl⟩ (fun r28 V28 H locs hp28 hM hS => ?_)
    obtain ⟨er28, eV⟩ := hp28
    rw [eV] at hM; clear eV
    have q : (r28 : Int32) = b.getD p0 0 := er28.trans (bAt_in rfl hlt (by omega))
    refine lv_eqi q ?_
    refine lv_iload_n hx hb dX5_takeMark_31 rfl (lv_at hl 1 rfl) ?_
    refine lv_icmp_eq (tgt := 41) hx hb dX5_takeMark_32 (by decide) (fun c_32 => ?_) (fun c_32 => ?_)
    · refine lv_aload_n hx hb dX5_takeMark_41 rfl (lv_at hl 0 rfl) ?_
      refine lv_dup hx hb dX5_takeMark_42 rfl ?_
      refine w_gi 5 1 (T := TX5) (N := 4) hx hb hts in5 hown hK.1 hM (by decide) (by decide) (by decide) (by decide) (by decide) rfl (by decide) k24 rfl dX5_takeMark_43 ?_
      have q : (V 505 1 : Int32) = nI p0 := hp0
      refine lv_eqi q ?_
      refine lv_iconst (v := 1) hx hb dX5_takeMark_46 (by decide) ?_
      refine lv_iadd hx hb dX5_takeMark_47 ?_
      refine w_pi 5 1 (T := TX5) (N := 4) hx hb hts in5 tyX5 tyX5_ok nmX5 hown hK.1 hM hS (by decide) (by decide) (by decide) (by decide) (by decide) rfl (by decide) k24 rfl rfl rfl rfl dX5_takeMark_48 (fun H locs hM hS => ?_)
      generalize hV48 : up2 V 505 1 ((nI p0) + 1) = V48 at hM
      refine lv_iconst (v := 1) hx hb dX5_takeMark_51 (by decide) ?_
      exact w_zret V48 hx hb hret hK hS hM (by subst hV48; exact ⟨rdP.r (a := p0 + 1) (by unfold rMark; rw [if_neg (by omega), if_pos c_32]) ⟨(by rw [up2_s]; exact nI_1 _), (by rw [up2_o _ _ (by decide)]), (by rw [up2_o _ _ (by decide)])⟩, fun j hj => up2_k _ _ hj⟩) (rfl) hlocks dX5_takeMark_52
    · refine lv_aload_n hx hb dX5_takeMark_35 rfl (lv_at hl 0 rfl) ?_
      refine lv_iconst (v := 2) hx hb dX5_takeMark_36 (by decide) ?_
      refine w_cVi (C := RX5) (As := [.int 2]) (rest := []) ⟨hx, hb, hml, hown, hts⟩ (c_X5_stopAt l 2) (cwV 1 hts gX5_takeMark_X5_stopAt rfl rfl rfl (by decide +kernel) ⟨Nat.le_of_ble_eq_true rfl, Nat.le_of_ble_eq_true rfl⟩) (w_recv (ci := 5) hK hM (by decide) (by decide) (by decide) rfl) hM hK hS rfl hl.1 rfl (lv_room (Nat.le_of_ble_eq_true rfl)) dX5_takeMark_37 ⟨Nat.le_of_ble_eq_true rfl, Nat.le_of_ble_eq_true rfl⟩ (fun r37 V37 H locs hp37 hM hS => ?_)
      have q : (r37 : Int32) = 0 := hp37.1
      refine lv_eqi q ?_
      exact w_zret V37 hx hb hret hK hS hM (⟨rdP.l (e := (2, p0)) (by unfold rMark; rw [if_neg (by omega), if_neg c_32]) hp37.2.1 (hp37.2.2.1.trans hp0), hp37.2.2.2⟩) (rfl) hlocks dX5_takeMark_40
  · have hge : b.length ≤ p0 := by by_cases h : p0 < b.length; (rw [hin, if_pos h] at c_11; exact absurd c_11 (by decide)); omega
    refine lv_aload_n hx hb dX5_takeMark_14 rfl (lv_at hl 0 rfl) ?_
    refine lv_iconst (v := 1) hx hb dX5_takeMark_15 (by decide) ?_
    refine w_cVi (C := RX5) (As := [.int 1]) (rest := []) ⟨hx, hb, hml, hown, hts⟩ (c_X5_stopAt l 1) (cwV 1 hts gX5_takeMark_X5_stopAt rfl rfl rfl (by decide +kernel) ⟨Nat.le_of_ble_eq_true rfl, Nat.le_of_ble_eq_true rfl⟩) (w_recv (ci := 5) hK hM (by decide) (by decide) (by decide) rfl) hM hK hS rfl hl.1 rfl (lv_room (Nat.le_of_ble_eq_true rfl)) dX5_takeMark_16 ⟨Nat.le_of_ble_eq_true rfl, Nat.le_of_ble_eq_true rfl⟩ (fun r16 V16 H locs hp16 hM hS => ?_)
    have q : (r16 : Int32) = 0 := hp16.1
    refine lv_eqi q ?_
    exact w_zret V16 hx hb hret hK hS hM (⟨rdP.l (e := (1, p0)) (by unfold rMark; rw [if_pos hge]) hp16.2.1 (hp16.2.2.1.trans hp0), hp16.2.2.2⟩) (rfl) hlocks dX5_takeMark_19

set_option maxHeartbeats 4000000 in
set_option maxRecDepth 100000 in
theorem c_X5_takeBytes (l : Launch) {E : En} {V : Vt} {b : List Int32} (hs : rowIs V 506 b) (hbl : b.length ≤ 1200) {p0 : Nat} (hp0 : V 505 1 = nI p0) (hpl : p0 ≤ b.length) (hok : okL b) {k cap : Nat} (hk : isRow k cap) (hkd : 508 < k) {lo hi : Nat} {lo0 hi0 : Int32} (elo : lo0 = nI lo) (ehi : hi0 = nI hi) (hlo : lo ≤ hi) (hhi : hi ≤ cap) : CI l yX5_takeBytes wsX5_takeBytes 2 E V [.ref (E.1 + 505), .ref (E.1 + k), .int lo0, .int hi0] (fun r V' => rdP (rBytes b lo hi p0) r V' (fun a => V' 505 1 = nI a.2 ∧ V' 505 2 = V 505 2 ∧ V' 505 3 = V 505 3 ∧ rowIs V' k a.1) ∧ ∀ j, j ≠ 505 → j ≠ k → j ≠ k + 1 → V' j = V j) := by
  refine Met.ofW (cc := cX5_takeBytes) (maxL := 5) (ret := (some .boolean)) (by decide) rfl ?_
  intro p e s m args below meth c s₁ B hml hv
  obtain ⟨rfl, hM, hK⟩ := hv
  have hx := B.exec
  have hb := B.bytes
  have hret := B.returns
  have hts := atoms_spec (ws := wsX5_takeBytes) B.pre
  have hown : s.vm.findClass RX5 = some m.cls := findClass_of_methodNamed B.named
  have hlocks := B.notSynchronized
  have hsz : s.heap.size = E.1 + 610 := hM.1
  have hS : va_S (AE E) s.heap s.heap [] := va_S.rf
  have in3 : ∀ w ∈ u_ws RX3 TX3 2, w ∈ wsX5_takeBytes := by decide +kernel
  have in5 : ∀ w ∈ u_ws RX5 TX5 4, w ∈ wsX5_takeBytes := by decide +kernel
  have k14 := hts (.fieldLink RX5 14 "LimitTokens$TapeReader" "source" "LLimitTokens$Row;") (by decide +kernel)
  have k24 := hts (.fieldLink RX5 24 "LimitTokens$TapeReader" "position" "I") (by decide +kernel)
  have k57 := hts (.fieldLink RX5 57 "LimitTokens$Row" "length" "I") (by decide +kernel)
  have hl := lv_entry ([.ref (E.1 + 505), .ref (E.1 + k), .int lo0, .int hi0]) (n := 5) (Nat.le_of_ble_eq_true rfl)
  rw [lg_entry_eq]
  generalize (lg_sl ([.ref (E.1 + 505), .ref (E.1 + k), .int lo0, .int hi0]) ++ List.replicate (5 - (lg_sl ([.ref (E.1 + 505), .ref (E.1 + k), .int lo0, .int hi0])).length) Slot.unset).toArray = ls at hl ⊢
  have hl : lv_has ls 5 [(0, .ref (E.1 + 505)), (1, .ref (E.1 + k)), (2, .int lo0), (3, .int hi0)] := hl
  have hcap := hk.cap
  refine lv_aload_n hx hb dX5_takeBytes_0 rfl (lv_at hl 0 rfl) ?_
  refine w_gr 5 0 506 (T := TX5) (N := 4) hx hb hts in5 hown hK.1 hM (by decide) (by decide) (by decide) (by decide) (by decide) rfl (by decide) k14 rfl dX5_takeBytes_1 ?_
  refine lv_aload_n hx hb dX5_takeBytes_4 rfl (lv_at hl 0 rfl) ?_
  refine w_gi 5 1 (T := TX5) (N := 4) hx hb hts in5 hown hK.1 hM (by decide) (by decide) (by decide) (by decide) (by decide) rfl (by decide) k24 rfl dX5_takeBytes_5 ?_
  have q : (V 505 1 : Int32) = nI p0 := hp0
  refine lv_eqi q ?_
  refine w_cVi (C := RX3) (As := [.int (nI p0)]) (rest := []) ⟨hx, hb, hml, hown, hts⟩ (c_X3_has l rw506 (nI p0)) (cwV 1 hts gX5_takeBytes_X3_has rfl rfl rfl (by decide +kernel) ⟨Nat.le_of_ble_eq_true rfl, Nat.le_of_ble_eq_true rfl⟩) (w_recv (ci := 3) hK hM (by decide) (by decide) (by decide) rfl) hM hK hS rfl hl.1 rfl (lv_room (Nat.le_of_ble_eq_true rfl)) dX5_takeBytes_8 ⟨Nat.le_of_ble_eq_true rfl, Nat.le_of_ble_eq_true rfl⟩ (fun r8 V8 H locs hp8 hM hS => ?_)
  obtain ⟨er8, eV⟩ := hp8
  rw [eV] at hM; clear eV
  have hin : r8 = (if p0 < b.length then 1 else 0) := by
    rw [er8, hs.1]
    by_cases h : p0 < b.length
    · rw [if_pos h, if_pos ⟨nI_pos' (by omega), nI_lt h (by omega)⟩]
    · rw [if_neg h, if_neg (fun q => h ((nI_ltI (by omega) (by omega)).mp q.2))]
  refine lv_if_ne (tgt := 20) hx hb dX5_takeBytes_11 (by decide) (fun c_11 => ?_) (fun c_11 => ?_)
  · have hlt : p0 < b.length := by by_cases h : p0 < b.length; (exact h); (rw [hin, if_neg h] at c_11; exact absurd rfl c_11)
    refine lv_aload_n hx hb dX5_takeBytes_20 rfl (lv_at hl 0 rfl) ?_
    refine w_gr 5 0 506 (T := TX5) (N := 4) hx hb hts in5 hown hK.1 hM (by decide) (by decide) (by decide) (by decide) (by decide) rfl (by decide) k14 rfl dX5_takeBytes_21 ?_
    refine lv_aload_n hx hb dX5_takeBytes_24 rfl (lv_at hl 0 rfl) ?_
    refine w_gi 5 1 (T := TX5) (N := 4) hx hb hts in5 hown hK.1 hM (by decide) (by decide) (by decide) (by decide) (by decide) rfl (by decide) k24 rfl dX5_takeBytes_25 ?_
    have q : (V 505 1 : Int32) = nI p0 := hp0
    refine lv_eqi q ?_
    refine w_cVi (C := RX3) (As := [.int (nI p0)]) (rest := []) ⟨hx, hb, hml, hown, hts⟩ (c_X3_byteAt l rw506 hs hbl (nI p0)) (cwV 1 hts gX5_takeBytes_X3_byteAt rfl rfl rfl (by decide +kernel) ⟨Nat.le_of_ble_eq_true rfl, Nat.le_of_ble_eq_true rfl⟩) (w_recv (ci := 3) hK hM (by decide) (by decide) (by decide) rfl) hM hK hS rfl hl.1 rfl (lv_room (Nat.le_of_ble_eq_true rfl)) dX5_takeBytes_28 ⟨Nat.le_of_ble_eq_true rfl, Nat.le_of_ble_eq_true rfl⟩ (fun r28 V28 H locs hp28 hM hS => ?_)
    obtain ⟨er28, eV⟩ := hp28
    rw [eV] at hM; clear eV
    have q : (r28 : Int32) = b.getD p0 0 := er28.trans (bAt_in rfl hlt (by omega))
    refine lv_eqi q ?_
    refine lv_topi (fun x4_31 ex4_31 => ?_)
    refine lv_istore (lv' := [(4, .int x4_31), (0, .ref (E.1 + 505)), (1, .ref (E.1 + k)), (2, .int lo0), (3, .int hi0)]) hx hb dX5_takeBytes_31 hl (by decide) rfl (fun ls hl => ?_)
    refine lv_iload hx hb dX5_takeBytes_33 (lv_at hl 0 rfl) ?_
    refine lv_iload_n hx hb dX5_takeBytes_35 rfl (lv_at hl 3 rfl) ?_
    refine lv_icmp_lt (tgt := 45) hx hb dX5_takeBytes_36 (by decide) (fun c_36 => ?_) (fun c_36 => ?_)
    · refine lv_aload_n hx hb dX5_takeBytes_45 rfl (lv_at hl 1 rfl) ?_
      refine lv_iconst (v := 3) hx hb dX5_takeBytes_46 (by decide) ?_
      refine w_cVi (C := RX5) (As := [.int 3]) (rest := []) ⟨hx, hb, hml, hown, hts⟩ (c_X5_stopAt l 3) (cwV 1 hts gX5_takeBytes_X5_stopAt rfl rfl rfl (by decide +kernel) ⟨Nat.le_of_ble_eq_true rfl, Nat.le_of_ble_eq_true rfl⟩) (w_recv (ci := 5) hK hM (by decide) (by decide) (by decide) rfl) hM hK hS rfl hl.1 rfl (lv_room (Nat.le_of_ble_eq_true rfl)) dX5_takeBytes_47 ⟨Nat.le_of_ble_eq_true rfl, Nat.le_of_ble_eq_true rfl⟩ (fun r47 V47 H locs hp47 hM hS => ?_)
      have q : (r47 : Int32) = 0 := hp47.1
      refine lv_eqi q ?_
      exact w_zret V47 hx hb hret hK hS hM (⟨rdP.l (e := (3, p0)) (by unfold rBytes; rw [if_neg (by omega), if_pos (by rw [← elo, ← ehi, ← ex4_31]; first | exact Or.inl c_36 | exact Or.inr (Int32.not_le.mp c_42))]) hp47.2.1 (hp47.2.2.1.trans hp0), fun j a _ _ => hp47.2.2.2 j a⟩) (rfl) hlocks dX5_takeBytes_50
    · refine lv_iload hx hb dX5_takeBytes_39 (lv_at hl 0 rfl) ?_
      refine lv_iload_n hx hb dX5_takeBytes_41 rfl (lv_at hl 4 rfl) ?_
      refine lv_icmp_le (tgt := 51) hx hb dX5_takeBytes_42 (by decide) (fun c_42 => ?_) (fun c_42 => ?_)
      · have hn0 : ¬ x4_31 < 0 := fun q => c_36 (by rw [elo]; exact Int32.lt_of_lt_of_le q (nI_pos' (by omega)))
        obtain ⟨mm, hmm, emm⟩ := nI_of2 (M := hi0) (n := hi) (by rw [ehi]; exact nI_toInt (by omega)) hn0 c_42
        refine lv_aload_n hx hb dX5_takeBytes_51 rfl (lv_at hl 1 rfl) ?_
        refine lv_dup hx hb dX5_takeBytes_52 rfl ?_
        refine w_gi 5 1 (T := TX5) (N := 4) hx hb hts in5 hown hK.1 hM (by decide) (by decide) (by decide) (by decide) (by decide) rfl (by decide) k24 rfl dX5_takeBytes_53 ?_
        have q : (V 505 1 : Int32) = nI p0 := hp0
        refine lv_eqi q ?_
        refine lv_iconst (v := 1) hx hb dX5_takeBytes_56 (by decide) ?_
        refine lv_iadd hx hb dX5_takeBytes_57 ?_
        refine w_pi 5 1 (T := TX5) (N := 4) hx hb hts in5 tyX5 tyX5_ok nmX5 hown hK.1 hM hS (by decide) (by decide) (by decide) (by decide) (by decide) rfl (by decide) k24 rfl rfl rfl rfl dX5_takeBytes_58 (fun H locs hM hS => ?_)
        generalize hV58 : up2 V 505 1 ((nI p0) + 1) = V58 at hM
        have s58 : rowIs V58 506 b := by subst hV58; exact hs.keep (up2_k _ _ (by decide)) (up2_k _ _ (by decide))
        refine lv_iload hx hb dX5_takeBytes_61 (lv_at hl 0 rfl) ?_
        refine lv_aload_n hx hb dX5_takeBytes_63 rfl (lv_at hl 1 rfl) ?_
        refine w_gr 5 0 506 (T := TX5) (N := 4) hx hb hts in5 hown hK.1 hM (by decide) (by decide) (by decide) (by decide) (by decide) rfl (by decide) k14 rfl dX5_takeBytes_64 ?_
        refine w_gi 3 1 (T := TX3) (N := 2) hx hb hts in3 hown hK.1 hM (by decide) (by decide) (by decide) (by decide) (by decide) rfl (by decide) k57 rfl dX5_takeBytes_67 ?_
        have q : (V58 506 1 : Int32) = nI b.length := by rw [← hV58, up2_k _ _ (by omega)]; exact hs.1
        refine lv_eqi q ?_
        refine lv_aload_n hx hb dX5_takeBytes_70 rfl (lv_at hl 1 rfl) ?_
        refine w_gi 5 1 (T := TX5) (N := 4) hx hb hts in5 hown hK.1 hM (by decide) (by decide) (by decide) (by decide) (by decide) rfl (by decide) k24 rfl dX5_takeBytes_71 ?_
        have q : (V58 505 1 : Int32) = nI (p0 + 1) := by rw [← hV58, up2_s]; exact nI_1 _
        refine lv_eqi q ?_
        refine lv_isub hx hb dX5_takeBytes_74 ?_
        refine lv_icmp_le (tgt := 95) hx hb dX5_takeBytes_75 (by decide) (fun c_75 => ?_) (fun c_75 => ?_)
        · have hfit : p0 + 1 + mm ≤ b.length := by rw [emm, pk_sub (by omega)] at c_75; have := (nI_leI (by omega) (by omega)).mp c_75; omega
          refine lv_aload_n hx hb dX5_takeBytes_95 rfl (lv_at hl 2 rfl) ?_
          refine w_cVv (C := RX3) (As := []) (rest := []) ⟨hx, hb, hml, hown, hts⟩ (c_X3_makeEmpty l hk) (cwV 0 hts gX5_takeBytes_X3_makeEmpty rfl rfl rfl (by decide +kernel) ⟨Nat.le_of_ble_eq_true rfl, Nat.le_of_ble_eq_true rfl⟩) (w_recv (ci := 3) hK hM (hk).lt (hk).k (by decide) rfl) hM hK hS rfl hl.1 rfl (lv_room (Nat.le_of_ble_eq_true rfl)) dX5_takeBytes_96 ⟨Nat.le_of_ble_eq_true rfl, Nat.le_of_ble_eq_true rfl⟩ (fun V96 H locs hp96 hM hS => ?_)
          have s96 : rowIs V96 506 b := s58.otherR hp96.2 (by omega) (by omega) (by omega)
          refine lv_aload_n hx hb dX5_takeBytes_99 rfl (lv_at hl 2 rfl) ?_
          refine lv_aload_n hx hb dX5_takeBytes_100 rfl (lv_at hl 1 rfl) ?_
          refine w_gr 5 0 506 (T := TX5) (N := 4) hx hb hts in5 hown hK.1 hM (by decide) (by decide) (by decide) (by decide) (by decide) rfl (by decide) k14 rfl dX5_takeBytes_101 ?_
          refine lv_aload_n hx hb dX5_takeBytes_104 rfl (lv_at hl 1 rfl) ?_
          refine w_gi 5 1 (T := TX5) (N := 4) hx hb hts in5 hown hK.1 hM (by decide) (by decide) (by decide) (by decide) (by decide) rfl (by decide) k24 rfl dX5_takeBytes_105 ?_
          have q : (V96 505 1 : Int32) = nI (p0 + 1) := by rw [hp96.2 505 (by omega) (by omega), ← hV58, up2_s]; exact nI_1 _
          refine lv_eqi q ?_
          refine lv_iload hx hb dX5_takeBytes_108 (lv_at hl 0 rfl) ?_
          have q : (x4_31 : Int32) = nI mm := emm
          refine lv_eqi q ?_
          refine w_cVv (C := RX3) (As := [.ref (E.1 + 506), .int (nI (p0 + 1)), .int (nI mm)]) (rest := []) ⟨hx, hb, hml, hown, hts⟩ (c_X3_pushPart l hk rw506 (by omega) hp96.1 s96 hbl (a := p0 + 1) (n := mm) (by omega) (by simp; omega)) (cwV 3 hts gX5_takeBytes_X3_pushPart rfl rfl rfl (by decide +kernel) ⟨Nat.le_of_ble_eq_true rfl, Nat.le_of_ble_eq_true rfl⟩) (w_recv (ci := 3) hK hM (hk).lt (hk).k (by decide) rfl) hM hK hS rfl hl.1 rfl (lv_room (Nat.le_of_ble_eq_true rfl)) dX5_takeBytes_110 ⟨Nat.le_of_ble_eq_true rfl, Nat.le_of_ble_eq_true rfl⟩ (fun V110 H locs hp110 hM hS => ?_)
          refine lv_aload_n hx hb dX5_takeBytes_113 rfl (lv_at hl 1 rfl) ?_
          refine lv_dup hx hb dX5_takeBytes_114 rfl ?_
          refine w_gi 5 1 (T := TX5) (N := 4) hx hb hts in5 hown hK.1 hM (by decide) (by decide) (by decide) (by decide) (by decide) rfl (by decide) k24 rfl dX5_takeBytes_115 ?_
          have q : (V110 505 1 : Int32) = nI (p0 + 1) := by rw [hp110.2 505 (by omega) (by omega), hp96.2 505 (by omega) (by omega), ← hV58, up2_s]; exact nI_1 _
          refine lv_eqi q ?_
          refine lv_iload hx hb dX5_takeBytes_118 (lv_at hl 0 rfl) ?_
          refine lv_iadd hx hb dX5_takeBytes_120 ?_
          refine w_pi 5 1 (T := TX5) (N := 4) hx hb hts in5 tyX5 tyX5_ok nmX5 hown hK.1 hM hS (by decide) (by decide) (by decide) (by decide) (by decide) rfl (by decide) k24 rfl rfl rfl rfl dX5_takeBytes_121 (fun H locs hM hS => ?_)
          generalize hV121 : up2 V110 505 1 ((nI (p0 + 1)) + x4_31) = V121 at hM
          refine lv_iconst (v := 1) hx hb dX5_takeBytes_124 (by decide) ?_
          exact w_zret V121 hx hb hret hK hS hM (⟨rdP.r (a := ((b.drop (p0 + 1)).take mm, p0 + 1 + mm)) (by unfold rBytes; rw [if_neg (by omega), if_neg (by rw [← elo, ← ehi, ← ex4_31]; exact fun q => q.elim c_36 (Int32.not_lt.mpr c_42)), ← ex4_31, emm, nI_clamp (by omega), if_neg (by omega)]) ⟨(by rw [← hV121, up2_s, emm, nI_add]), (by rw [← hV121, up2_o _ _ (by decide), hp110.2 505 (by omega) (by omega), hp96.2 505 (by omega) (by omega), ← hV58, up2_o _ _ (by decide)]), (by rw [← hV121, up2_o _ _ (by decide), hp110.2 505 (by omega) (by omega), hp96.2 505 (by omega) (by omega), ← hV58, up2_o _ _ (by decide)]), (by subst hV121; have := hp110.1.keep (V' := up2 V110 505 1 (nI (p0 + 1) + x4_31)) (up2_k _ _ (by omega)) (up2_k _ _ (by omega)); simpa using this)⟩, fun j a b c => by rw [← hV121, up2_k _ _ a, hp110.2 j b c, hp96.2 j b c, ← hV58, up2_k _ _ a]⟩) (rfl) hlocks dX5_takeBytes_125
        · have hfit : b.length < p0 + 1 + mm := by rw [emm, pk_sub (by omega)] at c_75; have := Nat.not_le.mp (fun q => c_75 (nI_le q (by omega))); omega
          refine lv_aload_n hx hb dX5_takeBytes_78 rfl (lv_at hl 1 rfl) ?_
          refine lv_aload_n hx hb dX5_takeBytes_79 rfl (lv_at hl 1 rfl) ?_
          refine w_gr 5 0 506 (T := TX5) (N := 4) hx hb hts in5 hown hK.1 hM (by decide) (by decide) (by decide) (by decide) (by decide) rfl (by decide) k14 rfl dX5_takeBytes_80 ?_
          refine w_gi 3 1 (T := TX3) (N := 2) hx hb hts in3 hown hK.1 hM (by decide) (by decide) (by decide) (by decide) (by decide) rfl (by decide) k57 rfl dX5_takeBytes_83 ?_
          have q : (V58 506 1 : Int32) = nI b.length := by rw [← hV58, up2_k _ _ (by omega)]; exact hs.1
          refine lv_eqi q ?_
          refine w_pi 5 1 (T := TX5) (N := 4) hx hb hts in5 tyX5 tyX5_ok nmX5 hown hK.1 hM hS (by decide) (by decide) (by decide) (by decide) (by decide) rfl (by decide) k24 rfl rfl rfl rfl dX5_takeBytes_86 (fun H locs hM hS => ?_)
          generalize hV86 : up2 V58 505 1 (nI b.length) = V86 at hM
          refine lv_aload_n hx hb dX5_takeBytes_89 rfl (lv_at hl 1 rfl) ?_
          refine lv_iconst (v := 1) hx hb dX5_takeBytes_90 (by decide) ?_
          refine w_cVi (C := RX5) (As := [.int 1]) (rest := []) ⟨hx, hb, hml, hown, hts⟩ (c_X5_stopAt l 1) (cwV 1 hts gX5_takeBytes_X5_stopAt rfl rfl rfl (by decide +kernel) ⟨Nat.le_of_ble_eq_true rfl, Nat.le_of_ble_eq_true rfl⟩) (w_recv (ci := 5) hK hM (by decide) (by decide) (by decide) rfl) hM hK hS rfl hl.1 rfl (lv_room (Nat.le_of_ble_eq_true rfl)) dX5_takeBytes_91 ⟨Nat.le_of_ble_eq_true rfl, Nat.le_of_ble_eq_true rfl⟩ (fun r91 V91 H locs hp91 hM hS => ?_)
          have q : (r91 : Int32) = 0 := hp91.1
          refine lv_eqi q ?_
          exact w_zret V91 hx hb hret hK hS hM (⟨rdP.l (e := (1, b.length)) (by unfold rBytes; rw [if_neg (by omega), if_neg (by rw [← elo, ← ehi, ← ex4_31]; exact fun q => q.elim c_36 (Int32.not_lt.mpr c_42)), if_pos (by rw [← ex4_31, emm, nI_clamp (by omega)]; exact hfit)]) hp91.2.1 (by rw [hp91.2.2.1, ← hV86, up2_s]), fun j a _ _ => by rw [hp91.2.2.2 j a, ← hV86, up2_k _ _ a, ← hV58, up2_k _ _ a]⟩) (rfl) hlocks dX5_takeBytes_94
      · refine lv_aload_n hx hb dX5_takeBytes_45 rfl (lv_at hl 1 rfl) ?_
        refine lv_iconst (v := 3) hx hb dX5_takeBytes_46 (by decide) ?_
        refine w_cVi (C := RX5) (As := [.int 3]) (rest := []) ⟨hx, hb, hml, hown, hts⟩ (c_X5_stopAt l 3) (cwV 1 hts gX5_takeBytes_X5_stopAt rfl rfl rfl (by decide +kernel) ⟨Nat.le_of_ble_eq_true rfl, Nat.le_of_ble_eq_true rfl⟩) (w_recv (ci := 5) hK hM (by decide) (by decide) (by decide) rfl) hM hK hS rfl hl.1 rfl (lv_room (Nat.le_of_ble_eq_true rfl)) dX5_takeBytes_47 ⟨Nat.le_of_ble_eq_true rfl, Nat.le_of_ble_eq_true rfl⟩ (fun r47 V47 H locs hp47 hM hS => ?_)
        have q : (r47 : Int32) = 0 := hp47.1
        refine lv_eqi q ?_
        exact w_zret V47 hx hb hret hK hS hM (⟨rdP.l (e := (3, p0)) (by unfold rBytes; rw [if_neg (by omega), if_pos (by rw [← elo, ← ehi, ← ex4_31]; first | exact Or.inl c_36 | exact Or.inr (Int32.not_le.mp c_42))]) hp47.2.1 (hp47.2.2.1.trans hp0), fun j a _ _ => hp47.2.2.2 j a⟩) (rfl) hlocks dX5_takeBytes_50
  · have hge : b.length ≤ p0 := by by_cases h : p0 < b.length; (rw [hin, if_pos h] at c_11; exact absurd c_11 (by decide)); omega
    refine lv_aload_n hx hb dX5_takeBytes_14 rfl (lv_at hl 0 rfl) ?_
    refine lv_iconst (v := 1) hx hb dX5_takeBytes_15 (by decide) ?_
    refine w_cVi (C := RX5) (As := [.int 1]) (rest := []) ⟨hx, hb, hml, hown, hts⟩ (c_X5_stopAt l 1) (cwV 1 hts gX5_takeBytes_X5_stopAt rfl rfl rfl (by decide +kernel) ⟨Nat.le_of_ble_eq_true rfl, Nat.le_of_ble_eq_true rfl⟩) (w_recv (ci := 5) hK hM (by decide) (by decide) (by decide) rfl) hM hK hS rfl hl.1 rfl (lv_room (Nat.le_of_ble_eq_true rfl)) dX5_takeBytes_16 ⟨Nat.le_of_ble_eq_true rfl, Nat.le_of_ble_eq_true rfl⟩ (fun r16 V16 H locs hp16 hM hS => ?_)
    have q : (r16 : Int32) = 0 := hp16.1
    refine lv_eqi q ?_
    exact w_zret V16 hx hb hret hK hS hM (⟨rdP.l (e := (1, p0)) (by unfold rBytes; rw [if_pos hge]) hp16.2.1 (hp16.2.2.1.trans hp0), fun j a _ _ => hp16.2.2.2 j a⟩) (rfl) hlocks dX5_takeBytes_19

set_option maxHeartbeats 4000000 in
set_option maxRecDepth 100000 in
theorem c_X5_takeLimit (l : Launch) {E : En} {V : Vt} {b : List Int32} (hs : rowIs V 506 b) (hbl : b.length ≤ 1200) {p0 : Nat} (hp0 : V 505 1 = nI p0) (hpl : p0 ≤ b.length) (hok : okL b) {b9 : Nat} (hb1 : isLim b9) (hbd : 508 < b9) : CI l yX5_takeLimit wsX5_takeLimit 3 E V [.ref (E.1 + 505), .ref (E.1 + b9)] (fun r V' => rdP (rLim b p0) r V' (fun a => V' 505 1 = nI a.2 ∧ V' 505 2 = V 505 2 ∧ V' 505 3 = V 505 3 ∧ limIs V' b9 a.1) ∧ ∀ j, j ≠ 505 → (j < b9 + 1 ∨ b9 + 4 < j) → V' j = V j) := by
  refine Met.ofW (cc := cX5_takeLimit) (maxL := 2) (ret := (some .boolean)) (by decide) rfl ?_
  intro p e s m args below meth c s₁ B hml hv
  obtain ⟨rfl, hM, hK⟩ := hv
  have hx := B.exec
  have hb := B.bytes
  have hret := B.returns
  have hts := atoms_spec (ws := wsX5_takeLimit) B.pre
  have hown : s.vm.findClass RX5 = some m.cls := findClass_of_methodNamed B.named
  have hlocks := B.notSynchronized
  have hsz : s.heap.size = E.1 + 610 := hM.1
  have hS : va_S (AE E) s.heap s.heap [] := va_S.rf
  have in1 : ∀ w ∈ u_ws RX1 TX1 2, w ∈ wsX5_takeLimit := by decide +kernel
  have in5 : ∀ w ∈ u_ws RX5 TX5 4, w ∈ wsX5_takeLimit := by decide +kernel
  have k75 := hts (.fieldLink RX5 75 "LimitTokens$Limit" "text" "LLimitTokens$Row;") (by decide +kernel)
  have k80 := hts (.fieldLink RX5 80 "LimitTokens$Limit" "lock" "LLimitTokens$Row;") (by decide +kernel)
  have k14 := hts (.fieldLink RX5 14 "LimitTokens$TapeReader" "source" "LLimitTokens$Row;") (by decide +kernel)
  have k24 := hts (.fieldLink RX5 24 "LimitTokens$TapeReader" "position" "I") (by decide +kernel)
  have hl := lv_entry ([.ref (E.1 + 505), .ref (E.1 + b9)]) (n := 2) (Nat.le_of_ble_eq_true rfl)
  rw [lg_entry_eq]
  generalize (lg_sl ([.ref (E.1 + 505), .ref (E.1 + b9)]) ++ List.replicate (2 - (lg_sl ([.ref (E.1 + 505), .ref (E.1 + b9)])).length) Slot.unset).toArray = ls at hl ⊢
  have hl : lv_has ls 2 [(0, .ref (E.1 + 505)), (1, .ref (E.1 + b9))] := hl
  have hbh := hb1.1
  refine lv_aload_n hx hb dX5_takeLimit_0 rfl (lv_at hl 0 rfl) ?_
  refine lv_iconst (v := 2) hx hb dX5_takeLimit_1 (by decide) ?_
  refine w_cVi (C := RX5) (As := [.int 2]) (rest := []) ⟨hx, hb, hml, hown, hts⟩ (c_X5_takeMark l hs hbl hp0 hpl 2) (cwV 1 hts gX5_takeLimit_X5_takeMark rfl rfl rfl (by decide +kernel) ⟨Nat.le_of_ble_eq_true rfl, Nat.le_of_ble_eq_true rfl⟩) (w_recv (ci := 5) hK hM (by decide) (by decide) (by decide) rfl) hM hK hS rfl hl.1 rfl (lv_room (Nat.le_of_ble_eq_true rfl)) dX5_takeLimit_2 ⟨Nat.le_of_ble_eq_true rfl, Nat.le_of_ble_eq_true rfl⟩ (fun r2 V2 H locs hp2 hM hS => ?_)
  refine lv_if_eq (tgt := 22) hx hb dX5_takeLimit_5 (by decide) (fun c_5 => ?_) (fun c_5 => ?_)
  · obtain ⟨e2, hm2, f2, g2⟩ := hp2.1.t c_5
    refine lv_iconst (v := 0) hx hb dX5_takeLimit_22 (by decide) ?_
    exact w_zret V2 hx hb hret hK hS hM (⟨rdP.l (e := e2) (by unfold rLim; rw [hm2]) f2 g2, fun j h1 _ => hp2.2 j h1⟩) (rfl) hlocks dX5_takeLimit_23
  · obtain ⟨a2, hm2, -, ok2⟩ := hp2.1.f c_5
    obtain ⟨ea2, le2⟩ := rMark_le hm2
    have s2 : rowIs V2 506 b := hs.keep (hp2.2 506 (by decide)) (hp2.2 507 (by decide))
    have pos2 : V2 505 1 = nI (p0 + 1) := by rw [ok2.1, ea2]
    refine lv_aload_n hx hb dX5_takeLimit_8 rfl (lv_at hl 0 rfl) ?_
    refine lv_aload_n hx hb dX5_takeLimit_9 rfl (lv_at hl 1 rfl) ?_
    refine w_gr 1 0 (b9 + 1) (T := TX1) (N := 2) hx hb hts in1 hown hK.1 hM (hb1).lt (hb1).k (hb1).n (hb1).f0 (by decide) rfl (by decide) k75 rfl dX5_takeLimit_10 ?_
    refine lv_iconst (v := 1) hx hb dX5_takeLimit_13 (by decide) ?_
    refine lv_bipush (v := 60) hx hb dX5_takeLimit_14 (by decide) ?_
    refine w_cVi (C := RX5) (As := [.ref (E.1 + (b9 + 1)), .int 1, .int 60]) (rest := []) ⟨hx, hb, hml, hown, hts⟩ (c_X5_takeBytes l s2 hbl pos2 (by omega) hok hb1.text (by omega) (lo := 1) (hi := 60) rfl rfl (by decide) (by decide)) (cwV 3 hts gX5_takeLimit_X5_takeBytes rfl rfl rfl (by decide +kernel) ⟨Nat.le_of_ble_eq_true rfl, Nat.le_of_ble_eq_true rfl⟩) (w_recv (ci := 5) hK hM (by decide) (by decide) (by decide) rfl) hM hK hS rfl hl.1 rfl (lv_room (Nat.le_of_ble_eq_true rfl)) dX5_takeLimit_16 ⟨Nat.le_of_ble_eq_true rfl, Nat.le_of_ble_eq_true rfl⟩ (fun r16 V16 H locs hp16 hM hS => ?_)
    refine lv_if_ne (tgt := 24) hx hb dX5_takeLimit_19 (by decide) (fun c_19 => ?_) (fun c_19 => ?_)
    · obtain ⟨a16, hm16, -, ok16⟩ := hp16.1.f c_19
      refine lv_aload_n hx hb dX5_takeLimit_24 rfl (lv_at hl 1 rfl) ?_
      refine w_gr 1 1 (b9 + 3) (T := TX1) (N := 2) hx hb hts in1 hown hK.1 hM (hb1).lt (hb1).k (hb1).n (hb1).f1 (by decide) rfl (by decide) k80 rfl dX5_takeLimit_25 ?_
      refine w_cVv (C := RX3) (As := []) (rest := []) ⟨hx, hb, hml, hown, hts⟩ (c_X3_makeEmpty l hb1.lock) (cwV 0 hts gX5_takeLimit_X3_makeEmpty rfl rfl rfl (by decide +kernel) ⟨Nat.le_of_ble_eq_true rfl, Nat.le_of_ble_eq_true rfl⟩) (w_recv (ci := 3) hK hM ((hb1).lock).lt ((hb1).lock).k (by decide) rfl) hM hK hS rfl hl.1 rfl (lv_room (Nat.le_of_ble_eq_true rfl)) dX5_takeLimit_28 ⟨Nat.le_of_ble_eq_true rfl, Nat.le_of_ble_eq_true rfl⟩ (fun V28 H locs hp28 hM hS => ?_)
      have s28 : rowIs V28 506 b := (s2.keep (hp16.2 506 (by omega) (by omega) (by omega)) (hp16.2 507 (by omega) (by omega) (by omega))).otherR hp28.2 (by omega) (by omega) (by omega)
      have pos28 : V28 505 1 = nI a16.2 := by rw [hp28.2 505 (by omega) (by omega)]; exact ok16.1
      have t28 : rowIs V28 (b9 + 1) a16.1 := ok16.2.2.2.otherR hp28.2 (by omega) (by omega) (by omega)
      obtain ⟨le16, -, -, -, -⟩ := rBytes_ok hm16 (by omega) (by omega) hok
      have kf28 : V28 505 2 = V 505 2 ∧ V28 505 3 = V 505 3 := by rw [hp28.2 505 (by omega) (by omega)]; exact ⟨ok16.2.1.trans ok2.2.1, ok16.2.2.1.trans ok2.2.2⟩
      have fr28 : ∀ j, j ≠ 505 → (j < b9 + 1 ∨ b9 + 4 < j) → V28 j = V j := fun j h1 h2 => by rw [hp28.2 j (by omega) (by omega), hp16.2 j h1 (by omega) (by omega)]; exact hp2.2 j h1
      refine lv_aload_n hx hb dX5_takeLimit_31 rfl (lv_at hl 0 rfl) ?_
      refine w_gr 5 0 506 (T := TX5) (N := 4) hx hb hts in5 hown hK.1 hM (by decide) (by decide) (by decide) (by decide) (by decide) rfl (by decide) k14 rfl dX5_takeLimit_32 ?_
      refine lv_aload_n hx hb dX5_takeLimit_35 rfl (lv_at hl 0 rfl) ?_
      refine w_gi 5 1 (T := TX5) (N := 4) hx hb hts in5 hown hK.1 hM (by decide) (by decide) (by decide) (by decide) (by decide) rfl (by decide) k24 rfl dX5_takeLimit_36 ?_
      have q : (V28 505 1 : Int32) = nI a16.2 := pos28
      refine lv_eqi q ?_
      refine w_cVi (C := RX3) (As := [.int (nI a16.2)]) (rest := []) ⟨hx, hb, hml, hown, hts⟩ (c_X3_byteAt l rw506 s28 hbl (nI a16.2)) (cwV 1 hts gX5_takeLimit_X3_byteAt rfl rfl rfl (by decide +kernel) ⟨Nat.le_of_ble_eq_true rfl, Nat.le_of_ble_eq_true rfl⟩) (w_recv (ci := 3) hK hM (by decide) (by decide) (by decide) rfl) hM hK hS rfl hl.1 rfl (lv_room (Nat.le_of_ble_eq_true rfl)) dX5_takeLimit_39 ⟨Nat.le_of_ble_eq_true rfl, Nat.le_of_ble_eq_true rfl⟩ (fun r39 V39 H locs hp39 hM hS => ?_)
      obtain ⟨er39, eV⟩ := hp39
      rw [eV] at hM; clear eV
      have q : (r39 : Int32) = Bt b a16.2 := er39.trans (Bt_eq (by omega) (by omega))
      refine lv_eqi q ?_
      refine lv_iconst (v := 4) hx hb dX5_takeLimit_42 (by decide) ?_
      have join73 : ∀ (Vj : Vt) (H : Heap) (locs : List Loc) (ls : Array Slot) (kk : List Int32 × Nat) (hkk : rLock b a16.2 = .inr kk) (lej : kk.2 ≤ b.length) (posj : Vj 505 1 = nI kk.2) (kfj : Vj 505 2 = V 505 2 ∧ Vj 505 3 = V 505 3) (sj : rowIs Vj 506 b) (lkj : limIs Vj b9 (a16.1, kk.1)) (frj : ∀ j, j ≠ 505 → (j < b9 + 1 ∨ b9 + 4 < j) → Vj j = V j), Wd E Vj H → va_S (AE E) s.heap H locs → lv_has ls 2 [(0, .ref (E.1 + 505)), (1, .ref (E.1 + b9))] → W p l e (headSpec wsX5_takeLimit (rmD 3)).room s m ([.ref (E.1 + 505), .ref (E.1 + b9)] : List Value).toArray below meth c H locs 0 0 (MQ below (QI E (fun V' => Wd E V') (fun r V' => rdP (rLim b p0) r V' (fun a => V' 505 1 = nI a.2 ∧ V' 505 2 = V 505 2 ∧ V' 505 3 = V 505 3 ∧ limIs V' b9 a.1) ∧ ∀ j, j ≠ 505 → (j < b9 + 1 ∨ b9 + 4 < j) → V' j = V j)) ([.ref (E.1 + 505), .ref (E.1 + b9)] : List Value).toArray s 0 0 (AE E)) (F0 m 73 ls []) := by
        intro Vj H locs ls kk hkk lej posj kfj sj lkj frj hM hS hl
        refine lv_aload_n hx hb dX5_takeLimit_73 rfl (lv_at hl 0 rfl) ?_
        refine lv_iconst (v := 0) hx hb dX5_takeLimit_74 (by decide) ?_
        refine w_cVi (C := RX5) (As := [.int 0]) (rest := []) ⟨hx, hb, hml, hown, hts⟩ (c_X5_takeMark l sj hbl posj lej 0) (cwV 1 hts gX5_takeLimit_X5_takeMark rfl rfl rfl (by decide +kernel) ⟨Nat.le_of_ble_eq_true rfl, Nat.le_of_ble_eq_true rfl⟩) (w_recv (ci := 5) hK hM (by decide) (by decide) (by decide) rfl) hM hK hS rfl hl.1 rfl (lv_room (Nat.le_of_ble_eq_true rfl)) dX5_takeLimit_75 ⟨Nat.le_of_ble_eq_true rfl, Nat.le_of_ble_eq_true rfl⟩ (fun r75 V75 H locs hp75 hM hS => ?_)
        exact w_zret V75 hx hb hret hK hS hM (⟨⟨fun e he => (by unfold rLim at he; rw [hm2, ea2] at he; simp only [hm16, hkk] at he; split at he; (rename_i e9 hq; cases he; exact hp75.1.1 _ hq); (cases he)), fun a ha => (by unfold rLim at ha; rw [hm2, ea2] at ha; simp only [hm16, hkk] at ha; split at ha; (cases ha); (rename_i p9 hq; cases ha; obtain ⟨u1, u2, u3, u4⟩ := hp75.1.2 _ hq; exact ⟨u1, u2, u3.trans kfj.1, u4.trans kfj.2, ⟨lkj.1.keep (hp75.2 _ (by omega)) (hp75.2 _ (by omega)), lkj.2.keep (hp75.2 _ (by omega)) (hp75.2 _ (by omega))⟩⟩))⟩, fun j h1 h2 => by rw [hp75.2 j h1]; exact frj j h1 h2⟩) (by rcases hq : rMark b 0 kk.2 with e | a; (rw [(hp75.1.1 e hq).1]; rfl); (rw [(hp75.1.2 a hq).1]; rfl)) hlocks dX5_takeLimit_78
      refine lv_icmp_ne (tgt := 73) hx hb dX5_takeLimit_43 (by decide) (fun c_43 => ?_) (fun c_43 => ?_)
      · exact join73 V28 _ _ _ (([] : List Int32), a16.2) (by unfold rLock; rw [if_neg c_43]) le16 pos28 kf28 s28 ⟨t28, hp28.1⟩ fr28 hM hS (lv_sub hl [0, 1] rfl)
      · refine lv_aload_n hx hb dX5_takeLimit_46 rfl (lv_at hl 0 rfl) ?_
        refine lv_dup hx hb dX5_takeLimit_47 rfl ?_
        refine w_gi 5 1 (T := TX5) (N := 4) hx hb hts in5 hown hK.1 hM (by decide) (by decide) (by decide) (by decide) (by decide) rfl (by decide) k24 rfl dX5_takeLimit_48 ?_
        have q : (V28 505 1 : Int32) = nI a16.2 := pos28
        refine lv_eqi q ?_
        refine lv_iconst (v := 1) hx hb dX5_takeLimit_51 (by decide) ?_
        refine lv_iadd hx hb dX5_takeLimit_52 ?_
        refine w_pi 5 1 (T := TX5) (N := 4) hx hb hts in5 tyX5 tyX5_ok nmX5 hown hK.1 hM hS (by decide) (by decide) (by decide) (by decide) (by decide) rfl (by decide) k24 rfl rfl rfl rfl dX5_takeLimit_53 (fun H locs hM hS => ?_)
        generalize hV53 : up2 V28 505 1 ((nI a16.2) + 1) = V53 at hM
        have s53 : rowIs V53 506 b := by subst hV53; exact s28.keep (up2_k _ _ (by decide)) (up2_k _ _ (by decide))
        have pos53 : V53 505 1 = nI (a16.2 + 1) := by subst hV53; rw [up2_s]; exact nI_1 _
        have kf53 : V53 505 2 = V 505 2 ∧ V53 505 3 = V 505 3 := by subst hV53; rw [up2_o _ _ (by decide), up2_o _ _ (by decide)]; exact kf28
        have t53 : rowIs V53 (b9 + 1) a16.1 := by subst hV53; exact t28.keep (up2_k _ _ (by omega)) (up2_k _ _ (by omega))
        have hlt16 : a16.2 < b.length := by rcases Nat.lt_or_ge a16.2 b.length with h | h; (exact h); (rw [Bt_end h] at c_43; exact absurd c_43 (by decide))
        refine lv_aload_n hx hb dX5_takeLimit_56 rfl (lv_at hl 0 rfl) ?_
        refine lv_aload_n hx hb dX5_takeLimit_57 rfl (lv_at hl 1 rfl) ?_
        refine w_gr 1 1 (b9 + 3) (T := TX1) (N := 2) hx hb hts in1 hown hK.1 hM (hb1).lt (hb1).k (hb1).n (hb1).f1 (by decide) rfl (by decide) k80 rfl dX5_takeLimit_58 ?_
        refine lv_bipush (v := 32) hx hb dX5_takeLimit_61 (by decide) ?_
        refine lv_bipush (v := 32) hx hb dX5_takeLimit_63 (by decide) ?_
        refine w_cVi (C := RX5) (As := [.ref (E.1 + (b9 + 3)), .int 32, .int 32]) (rest := []) ⟨hx, hb, hml, hown, hts⟩ (c_X5_takeBytes l s53 hbl pos53 (by omega) hok hb1.lock (by omega) (lo := 32) (hi := 32) rfl rfl (by decide) (by decide)) (cwV 3 hts gX5_takeLimit_X5_takeBytes rfl rfl rfl (by decide +kernel) ⟨Nat.le_of_ble_eq_true rfl, Nat.le_of_ble_eq_true rfl⟩) (w_recv (ci := 5) hK hM (by decide) (by decide) (by decide) rfl) hM hK hS rfl hl.1 rfl (lv_room (Nat.le_of_ble_eq_true rfl)) dX5_takeLimit_65 ⟨Nat.le_of_ble_eq_true rfl, Nat.le_of_ble_eq_true rfl⟩ (fun r65 V65 H locs hp65 hM hS => ?_)
        refine lv_if_ne (tgt := 73) hx hb dX5_takeLimit_68 (by decide) (fun c_68 => ?_) (fun c_68 => ?_)
        · obtain ⟨a65, hm65, -, ok65⟩ := hp65.1.f c_68
          obtain ⟨le65, -, -, -, -⟩ := rBytes_ok hm65 (by omega) (by omega) hok
          exact join73 V65 _ _ _ a65 (by unfold rLock; rw [if_pos c_43]; exact hm65) le65 ok65.1 ⟨ok65.2.1.trans (kf53.1), ok65.2.2.1.trans (kf53.2)⟩ (s53.keep (hp65.2 506 (by omega) (by omega) (by omega)) (hp65.2 507 (by omega) (by omega) (by omega))) ⟨t53.keep (hp65.2 (b9 + 1) (by omega) (by omega) (by omega)) (hp65.2 (b9 + 1 + 1) (by omega) (by omega) (by omega)), ok65.2.2.2⟩ (fun j h1 h2 => by rw [hp65.2 j h1 (by omega) (by omega), ← hV53, up2_k _ _ h1]; exact fr28 j h1 h2) hM hS (lv_sub hl [0, 1] rfl)
        · obtain ⟨e65, hm65, f65, g65⟩ := hp65.1.t c_68
          refine lv_iconst (v := 0) hx hb dX5_takeLimit_71 (by decide) ?_
          exact w_zret V65 hx hb hret hK hS hM (⟨rdP.l (e := e65) (by unfold rLim; rw [hm2, ea2]; simp only [hm16]; unfold rLock; rw [if_pos c_43, hm65]) f65 g65, fun j h1 h2 => by rw [hp65.2 j h1 (by omega) (by omega), ← hV53, up2_k _ _ h1]; exact fr28 j h1 h2⟩) (rfl) hlocks dX5_takeLimit_72
    · obtain ⟨e16, hm16, f16, g16⟩ := hp16.1.t c_19
      refine lv_iconst (v := 0) hx hb dX5_takeLimit_22 (by decide) ?_
      exact w_zret V16 hx hb hret hK hS hM (⟨rdP.l (e := e16) (by unfold rLim; rw [hm2, ea2]; simp only [hm16]) f16 g16, fun j h1 h2 => by rw [hp16.2 j h1 (by omega) (by omega)]; exact hp2.2 j h1⟩) (rfl) hlocks dX5_takeLimit_23
