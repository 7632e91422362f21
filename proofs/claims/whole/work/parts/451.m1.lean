-- needs: 44 450
theorem b2i_nar (b : Bool) : narrow .boolean (.int (b2i b)) = .int (b2i b) := by cases b <;> rfl
theorem inR_8 (r : Int32) : inR r 0 7 = in8 r := by
  unfold inR in8
  congr 1
set_option maxHeartbeats 4000000 in
set_option maxRecDepth 100000 in
theorem c_X8_within (l : Launch) {E : En} {V : Vt} (x a b : Int32) : CI l yX8_within wsX8_within 0 E V [.int x, .int a, .int b] (fun v V' => v = b2i (inR x a b) ∧ V' = V) := by
  refine Met.ofW (cc := cX8_within) (maxL := 3) (ret := (some .boolean)) (by decide) rfl ?_
  intro p e s m args below meth c s₁ B hml hv
  obtain ⟨rfl, hM, hK⟩ := hv
  have hx := B.exec
  have hb := B.bytes
  have hret := B.returns
  have hts := atoms_spec (ws := wsX8_within) B.pre
  have hown : s.vm.findClass RX8 = some m.cls := findClass_of_methodNamed B.named
  have hlocks := B.notSynchronized
  have hsz : s.heap.size = E.1 + 610 := hM.1
  have hS : va_S (AE E) s.heap s.heap [] := va_S.rf
  have hl := lv_entry ([.int x, .int a, .int b]) (n := 3) (Nat.le_of_ble_eq_true rfl)
  rw [lg_entry_eq]
  generalize (lg_sl ([.int x, .int a, .int b]) ++ List.replicate (3 - (lg_sl ([.int x, .int a, .int b])).length) Slot.unset).toArray = ls at hl ⊢
  have hl : lv_has ls 3 [(0, .int x), (1, .int a), (2, .int b)] := hl
  refine lv_iload_n hx hb dX8_within_0 rfl (lv_at hl 0 rfl) ?_
  refine lv_iload_n hx hb dX8_within_1 rfl (lv_at hl 1 rfl) ?_
  refine lv_icmp_lt (tgt := 14) hx hb dX8_within_2 (by decide) (fun c_2 => ?_) (fun c_2 => ?_)
  · refine lv_iconst (v := 0) hx hb dX8_within_14 (by decide) ?_
    exact w_zret V hx hb hret hK hS hM (⟨by simp only [inR, b2i]; grind, rfl⟩) (rfl) hlocks dX8_within_15
  · refine lv_iload_n hx hb dX8_within_5 rfl (lv_at hl 0 rfl) ?_
    refine lv_iload_n hx hb dX8_within_6 rfl (lv_at hl 2 rfl) ?_
    refine lv_icmp_gt (tgt := 14) hx hb dX8_within_7 (by decide) (fun c_7 => ?_) (fun c_7 => ?_)
    · refine lv_iconst (v := 0) hx hb dX8_within_14 (by decide) ?_
      exact w_zret V hx hb hret hK hS hM (⟨by simp only [inR, b2i]; grind, rfl⟩) (rfl) hlocks dX8_within_15
    · refine lv_iconst (v := 1) hx hb dX8_within_10 (by decide) ?_
      refine lv_goto (tgt := 15) hx hb dX8_within_11 (by decide) ?_
      exact w_zret V hx hb hret hK hS hM (⟨by simp only [inR, b2i]; grind, rfl⟩) (rfl) hlocks dX8_within_15

set_option maxHeartbeats 4000000 in
set_option maxRecDepth 100000 in
theorem c_X8_is (l : Launch) {E : En} {V : Vt} (r : Int32) : CI l yX8_is wsX8_is 1 E V [.int r] (fun v V' => v = b2i (in8 r) ∧ V' = V) := by
  refine Met.ofW (cc := cX8_is) (maxL := 1) (ret := (some .boolean)) (by decide) rfl ?_
  intro p e s m args below meth c s₁ B hml hv
  obtain ⟨rfl, hM, hK⟩ := hv
  have hx := B.exec
  have hb := B.bytes
  have hret := B.returns
  have hts := atoms_spec (ws := wsX8_is) B.pre
  have hown : s.vm.findClass RX8 = some m.cls := findClass_of_methodNamed B.named
  have hlocks := B.notSynchronized
  have hsz : s.heap.size = E.1 + 610 := hM.1
  have hS : va_S (AE E) s.heap s.heap [] := va_S.rf
  have hl := lv_entry ([.int r]) (n := 1) (Nat.le_of_ble_eq_true rfl)
  rw [lg_entry_eq]
  generalize (lg_sl ([.int r]) ++ List.replicate (1 - (lg_sl ([.int r])).length) Slot.unset).toArray = ls at hl ⊢
  have hl : lv_has ls 1 [(0, .int r)] := hl
  refine lv_iload_n hx hb dX8_is_0 rfl (lv_at hl 0 rfl) ?_
  refine lv_iconst (v := 0) hx hb dX8_is_1 (by decide) ?_
  refine lv_bipush (v := 7) hx hb dX8_is_2 (by decide) ?_
  refine w_cSi (As := [.int r, .int 0, .int 7]) (rest := []) ⟨hx, hb, hml, hown, hts⟩ (c_X8_within l r 0 7) (va_cwS 3 hts gX8_is_X8_within rfl rfl rfl (by decide +kernel) ⟨Nat.le_of_ble_eq_true rfl, Nat.le_of_ble_eq_true rfl⟩) hM hK hS rfl hl.1 rfl (lv_room (Nat.le_of_ble_eq_true rfl)) dX8_is_4 ⟨Nat.le_of_ble_eq_true rfl, Nat.le_of_ble_eq_true rfl⟩ (fun r4 V4 H locs hp4 hM hS => ?_)
  obtain ⟨er4, eV⟩ := hp4
  rw [eV] at hM; clear eV
  exact w_zret V hx hb hret hK hS hM (⟨by rw [er4, inR_8], rfl⟩) (by rw [er4]; exact b2i_nar _) hlocks dX8_is_7

set_option maxHeartbeats 4000000 in
set_option maxRecDepth 100000 in
theorem c_X8_isDigit (l : Launch) {E : En} {V : Vt} (r : Int32) : CI l yX8_isDigit wsX8_isDigit 1 E V [.int r] (fun v V' => v = b2i (inR r 48 57) ∧ V' = V) := by
  refine Met.ofW (cc := cX8_isDigit) (maxL := 1) (ret := (some .boolean)) (by decide) rfl ?_
  intro p e s m args below meth c s₁ B hml hv
  obtain ⟨rfl, hM, hK⟩ := hv
  have hx := B.exec
  have hb := B.bytes
  have hret := B.returns
  have hts := atoms_spec (ws := wsX8_isDigit) B.pre
  have hown : s.vm.findClass RX8 = some m.cls := findClass_of_methodNamed B.named
  have hlocks := B.notSynchronized
  have hsz : s.heap.size = E.1 + 610 := hM.1
  have hS : va_S (AE E) s.heap s.heap [] := va_S.rf
  have hl := lv_entry ([.int r]) (n := 1) (Nat.le_of_ble_eq_true rfl)
  rw [lg_entry_eq]
  generalize (lg_sl ([.int r]) ++ List.replicate (1 - (lg_sl ([.int r])).length) Slot.unset).toArray = ls at hl ⊢
  have hl : lv_has ls 1 [(0, .int r)] := hl
  refine lv_iload_n hx hb dX8_isDigit_0 rfl (lv_at hl 0 rfl) ?_
  refine lv_bipush (v := 48) hx hb dX8_isDigit_1 (by decide) ?_
  refine lv_bipush (v := 57) hx hb dX8_isDigit_3 (by decide) ?_
  refine w_cSi (As := [.int r, .int 48, .int 57]) (rest := []) ⟨hx, hb, hml, hown, hts⟩ (c_X8_within l r 48 57) (va_cwS 3 hts gX8_isDigit_X8_within rfl rfl rfl (by decide +kernel) ⟨Nat.le_of_ble_eq_true rfl, Nat.le_of_ble_eq_true rfl⟩) hM hK hS rfl hl.1 rfl (lv_room (Nat.le_of_ble_eq_true rfl)) dX8_isDigit_5 ⟨Nat.le_of_ble_eq_true rfl, Nat.le_of_ble_eq_true rfl⟩ (fun r5 V5 H locs hp5 hM hS => ?_)
  obtain ⟨er5, eV⟩ := hp5
  rw [eV] at hM; clear eV
  exact w_zret V hx hb hret hK hS hM (⟨er5, rfl⟩) (by rw [er5]; exact b2i_nar _) hlocks dX8_isDigit_8

set_option maxHeartbeats 4000000 in
set_option maxRecDepth 100000 in
theorem c_X8_turned (l : Launch) {E : En} {V : Vt} (x k : Int32) : CI l yX8_turned wsX8_turned 0 E V [.int x, .int k] (fun v V' => v = rt x k ∧ V' = V) := by
  refine Met.ofW (cc := cX8_turned) (maxL := 2) (ret := (some .int)) (by decide) rfl ?_
  intro p e s m args below meth c s₁ B hml hv
  obtain ⟨rfl, hM, hK⟩ := hv
  have hx := B.exec
  have hb := B.bytes
  have hret := B.returns
  have hts := atoms_spec (ws := wsX8_turned) B.pre
  have hown : s.vm.findClass RX8 = some m.cls := findClass_of_methodNamed B.named
  have hlocks := B.notSynchronized
  have hsz : s.heap.size = E.1 + 610 := hM.1
  have hS : va_S (AE E) s.heap s.heap [] := va_S.rf
  have hl := lv_entry ([.int x, .int k]) (n := 2) (Nat.le_of_ble_eq_true rfl)
  rw [lg_entry_eq]
  generalize (lg_sl ([.int x, .int k]) ++ List.replicate (2 - (lg_sl ([.int x, .int k])).length) Slot.unset).toArray = ls at hl ⊢
  have hl : lv_has ls 2 [(0, .int x), (1, .int k)] := hl
  refine lv_iload_n hx hb dX8_turned_0 rfl (lv_at hl 0 rfl) ?_
  refine lv_iload_n hx hb dX8_turned_1 rfl (lv_at hl 1 rfl) ?_
  refine lv_iushr hx hb dX8_turned_2 rfl ?_
  refine lv_iload_n hx hb dX8_turned_3 rfl (lv_at hl 0 rfl) ?_
  refine lv_bipush (v := 32) hx hb dX8_turned_4 (by decide) ?_
  refine lv_iload_n hx hb dX8_turned_6 rfl (lv_at hl 1 rfl) ?_
  refine lv_isub hx hb dX8_turned_7 ?_
  refine lv_ishl hx hb dX8_turned_8 ?_
  refine lv_ior hx hb dX8_turned_9 ?_
  exact w_iret V hx hb hret hK hS hM (⟨rfl, rfl⟩) hlocks dX8_turned_10

set_option maxHeartbeats 4000000 in
set_option maxRecDepth 100000 in
theorem c_X8_take (l : Launch) {E : En} {V : Vt} {ca na : Nat} (ha : isA ca na) (hne : ca ≠ 586) {li l0 : List Int32} (hu : buf V 7 586 li) {b : Nat} (hs : seg V ca b l0) (hbn : b + l0.length ≤ na) (hc : li.length + l0.length ≤ 400) : CV l yX8_take wsX8_take 0 E V [.ref (E.1 + 580), .ref (E.1 + ca), .int (nI b), .int (nI l0.length)] (fun V' => buf V' 7 586 (li ++ l0) ∧ frF V V' 7 586) := by
  refine Met.ofW (cc := cX8_take) (maxL := 5) (ret := none) (by decide) rfl ?_
  intro p e s m args below meth c s₁ B hml hv
  obtain ⟨rfl, hM, hK⟩ := hv
  have hx := B.exec
  have hb := B.bytes
  have hret := B.returns
  have hts := atoms_spec (ws := wsX8_take) B.pre
  have hown : s.vm.findClass RX8 = some m.cls := findClass_of_methodNamed B.named
  have hlocks := B.notSynchronized
  have hsz : s.heap.size = E.1 + 610 := hM.1
  have hS : va_S (AE E) s.heap s.heap [] := va_S.rf
  have in8 : ∀ w ∈ u_ws RX8 TX8 42, w ∈ wsX8_take := by decide +kernel
  have k25 := hts (.fieldLink RX8 25 "LimitTokensModel" "in" "[I") (by decide +kernel)
  have k126 := hts (.fieldLink RX8 126 "LimitTokensModel" "inSize" "I") (by decide +kernel)
  have hl := lv_entry ([.ref (E.1 + 580), .ref (E.1 + ca), .int (nI b), .int (nI l0.length)]) (n := 5) (Nat.le_of_ble_eq_true rfl)
  rw [lg_entry_eq]
  generalize (lg_sl ([.ref (E.1 + 580), .ref (E.1 + ca), .int (nI b), .int (nI l0.length)]) ++ List.replicate (5 - (lg_sl ([.ref (E.1 + 580), .ref (E.1 + ca), .int (nI b), .int (nI l0.length)])).length) Slot.unset).toArray = ls at hl ⊢
  have hl : lv_has ls 5 [(0, .ref (E.1 + 580)), (1, .ref (E.1 + ca)), (2, .int (nI b)), (3, .int (nI l0.length))] := hl
  have hna := ha.c
  refine lv_iconst (v := 0) hx hb dX8_take_0 (by decide) ?_
  refine lv_istore (lv' := [(4, .int 0), (0, .ref (E.1 + 580)), (1, .ref (E.1 + ca)), (2, .int (nI b)), (3, .int (nI l0.length))]) hx hb dX8_take_1 hl (by decide) rfl (fun ls hl => ?_)
  have loop3 : ∀ (fu : Nat) (Vw : Vt) (H : Heap) (locs : List Loc) (ls : Array Slot) (j : Nat) (hj : j ≤ l0.length) (hw : buf Vw 7 586 (li ++ l0.take j)) (hf : frF V Vw 7 586), l0.length - j < fu → Wd E Vw H → va_S (AE E) s.heap H locs → lv_has ls 5 [(0, .ref (E.1 + 580)), (1, .ref (E.1 + ca)), (2, .int (nI b)), (3, .int (nI l0.length)), (4, .int (nI j))] → W p l e (headSpec wsX8_take (rmD 0)).room s m ([.ref (E.1 + 580), .ref (E.1 + ca), .int (nI b), .int (nI l0.length)] : List Value).toArray below meth c H locs 0 0 (MQ below (QV E (fun V' => Wd E V') (fun V' => buf V' 7 586 (li ++ l0) ∧ frF V V' 7 586)) ([.ref (E.1 + 580), .ref (E.1 + ca), .int (nI b), .int (nI l0.length)] : List Value).toArray s 0 0 (AE E)) (F0 m 3 ls []) := by
    intro fu
    induction fu with
    | zero => intros; omega
    | succ fu ih3 =>
      intro Vw H locs ls j hj hw hf hfu hM hS hl
      have hlen : (li ++ l0.take j).length = li.length + j := by simp; omega
      refine lv_iload hx hb dX8_take_3 (lv_at hl 4 rfl) ?_
      refine lv_iload_n hx hb dX8_take_5 rfl (lv_at hl 3 rfl) ?_
      refine lv_icmp_ge (tgt := 40) hx hb dX8_take_6 (by decide) (fun c_6 => ?_) (fun c_6 => ?_)
      · have n_6 : l0.length ≤ j := (nLe (a := l0.length) (b := j) rfl rfl (by omega) (by omega)).mp c_6
        exact w_vret (free := AE E) Vw hx hb hret hK hS hM (by rw [List.take_of_length_le (by omega)] at hw; exact ⟨hw, hf⟩) hlocks dX8_take_40
      · have n_6 : ¬ l0.length ≤ j := fun q9 => c_6 ((nLe (a := l0.length) (b := j) rfl rfl (by omega) (by omega)).mpr q9)
        refine lv_aload_n hx hb dX8_take_9 rfl (lv_at hl 0 rfl) ?_
        refine w_gr 8 6 586 (T := TX8) (N := 42) hx hb hts in8 hown hK.1 hM (by decide) (by decide) (by decide) (by decide) (by decide) rfl (by decide) k25 rfl dX8_take_10 ?_
        refine lv_aload_n hx hb dX8_take_13 rfl (lv_at hl 0 rfl) ?_
        refine w_gi 8 7 (T := TX8) (N := 42) hx hb hts in8 hown hK.1 hM (by decide) (by decide) (by decide) (by decide) (by decide) rfl (by decide) k126 rfl dX8_take_14 ?_
        have q : (Vw 580 7 : Int32) = nI (li.length + j) := (by rw [hw.1, hlen])
        refine lv_eqi q ?_
        refine lv_aload_n hx hb dX8_take_17 rfl (lv_at hl 1 rfl) ?_
        refine lv_iload_n hx hb dX8_take_18 rfl (lv_at hl 2 rfl) ?_
        refine lv_iload hx hb dX8_take_19 (lv_at hl 4 rfl) ?_
        refine lv_iadd hx hb dX8_take_21 ?_
        have i_22 : ((nI b) + (nI j) : Int32) = nI (b + j) := (nAdd rfl rfl)
        refine w_ild (N := na) hx hb hK.1 hM ha.lt ha.k ha.n (by rw [i_22]; exact vp_in_nI (by omega) (by omega)) dX8_take_22 ?_
        have q : (Vw ca ((nI b) + (nI j)).toNatClampNeg : Int32) = Vw ca (b + j) := by rw [i_22, nI_clamp (by omega)]
        refine lv_eqi q ?_
        have q : (Vw ca (b + j) : Int32) = l0.getD j 0 := by rw [hf.1 ca hne ha.ne]; exact hs j (by omega)
        refine lv_eqi q ?_
        have i_23 : (nI (li.length + j) : Int32) = nI (li.length + j) := rfl
        have j_23 : (nI (li.length + j)).toNatClampNeg = li.length + j := by rw [i_23, nI_clamp (by omega)]
        refine w_ist (N := 400) hx hb hK.1 hM hS (by decide) (by decide) (by decide) (by rw [i_23]; exact vp_in_nI (by omega) (by omega)) dX8_take_23 (fun H locs hM hS => ?_)
        rw [j_23] at hM
        generalize hV23 : up2 Vw 586 (li.length + j) (l0.getD j 0) = V23 at hM
        refine lv_aload_n hx hb dX8_take_24 rfl (lv_at hl 0 rfl) ?_
        refine lv_dup hx hb dX8_take_25 rfl ?_
        refine w_gi 8 7 (T := TX8) (N := 42) hx hb hts in8 hown hK.1 hM (by decide) (by decide) (by decide) (by decide) (by decide) rfl (by decide) k126 rfl dX8_take_26 ?_
        have q : (V23 580 7 : Int32) = nI (li.length + j) := by rw [← hV23, up2_k _ _ (by omega)]; exact (by rw [hw.1, hlen])
        refine lv_eqi q ?_
        refine lv_iconst (v := 1) hx hb dX8_take_29 (by decide) ?_
        refine lv_iadd hx hb dX8_take_30 ?_
        refine w_pi 8 7 (T := TX8) (N := 42) hx hb hts in8 tyX8 tyX8_ok nmX8 hown hK.1 hM hS (by decide) (by decide) (by decide) (by decide) (by decide) rfl (by decide) k126 rfl rfl rfl rfl dX8_take_31 (fun H locs hM hS => ?_)
        generalize hV31 : up2 V23 580 7 ((nI (li.length + j)) + 1) = V31 at hM
        obtain ⟨p1, p2⟩ := hw.push (by decide) hlen.symm hV23 hV31 (by rw [nI_1, hlen])
        obtain ⟨x4_34, ex4_34⟩ : ∃ y : Int32, y = (nI j) + 1 := ⟨_, rfl⟩
        refine lv_iinc (v := x4_34) (lv' := [(4, .int x4_34), (0, .ref (E.1 + 580)), (1, .ref (E.1 + ca)), (2, .int (nI b)), (3, .int (nI l0.length))]) hx hb dX8_take_34 hl (k := 4) rfl (by rw [ex4_34]; rfl) (by decide) rfl (fun ls hl => ?_)
        refine lv_goto (tgt := 3) hx hb dX8_take_37 (by decide) ?_
        rw [show x4_34 = nI (j + 1) from (ex4_34.trans (nAdd rfl rfl))] at hl
        exact ih3 V31 _ _ _ (j + 1) (by omega) (by rw [take_s (by omega), ← List.append_assoc]; exact p1) (hf.trans p2) (by omega) hM hS (lv_sub hl [1, 2, 3, 4, 0] rfl)
  exact loop3 _ V _ _ _ 0 (Nat.zero_le _) (by simpa using hu) (frF.rf) (Nat.lt_succ_self _) hM hS (lv_sub hl [1, 2, 3, 4, 0] rfl)

set_option maxHeartbeats 4000000 in
set_option maxRecDepth 100000 in
theorem c_X8_add (l : Launch) {E : En} {V : Vt} {ca na : Nat} (ha : isA ca na) (hne : ca ≠ 589) {li l0 : List Int32} (hu : buf V 12 589 li) {b : Nat} (hs : seg V ca b l0) (hbn : b + l0.length ≤ na) (hc : li.length + l0.length ≤ 200) : CV l yX8_add wsX8_add 0 E V [.ref (E.1 + 580), .ref (E.1 + ca), .int (nI b), .int (nI l0.length)] (fun V' => buf V' 12 589 (li ++ l0) ∧ frF V V' 12 589) := by
  refine Met.ofW (cc := cX8_add) (maxL := 5) (ret := none) (by decide) rfl ?_
  intro p e s m args below meth c s₁ B hml hv
  obtain ⟨rfl, hM, hK⟩ := hv
  have hx := B.exec
  have hb := B.bytes
  have hret := B.returns
  have hts := atoms_spec (ws := wsX8_add) B.pre
  have hown : s.vm.findClass RX8 = some m.cls := findClass_of_methodNamed B.named
  have hlocks := B.notSynchronized
  have hsz : s.heap.size = E.1 + 610 := hM.1
  have hS : va_S (AE E) s.heap s.heap [] := va_S.rf
  have in8 : ∀ w ∈ u_ws RX8 TX8 42, w ∈ wsX8_add := by decide +kernel
  have k34 := hts (.fieldLink RX8 34 "LimitTokensModel" "message" "[I") (by decide +kernel)
  have k135 := hts (.fieldLink RX8 135 "LimitTokensModel" "messageSize" "I") (by decide +kernel)
  have hl := lv_entry ([.ref (E.1 + 580), .ref (E.1 + ca), .int (nI b), .int (nI l0.length)]) (n := 5) (Nat.le_of_ble_eq_true rfl)
  rw [lg_entry_eq]
  generalize (lg_sl ([.ref (E.1 + 580), .ref (E.1 + ca), .int (nI b), .int (nI l0.length)]) ++ List.replicate (5 - (lg_sl ([.ref (E.1 + 580), .ref (E.1 + ca), .int (nI b), .int (nI l0.length)])).length) Slot.unset).toArray = ls at hl ⊢
  have hl : lv_has ls 5 [(0, .ref (E.1 + 580)), (1, .ref (E.1 + ca)), (2, .int (nI b)), (3, .int (nI l0.length))] := hl
  have hna := ha.c
  refine lv_iconst (v := 0) hx hb dX8_add_0 (by decide) ?_
  refine lv_istore (lv' := [(4, .int 0), (0, .ref (E.1 + 580)), (1, .ref (E.1 + ca)), (2, .int (nI b)), (3, .int (nI l0.length))]) hx hb dX8_add_1 hl (by decide) rfl (fun ls hl => ?_)
  have loop3 : ∀ (fu : Nat) (Vw : Vt) (H : Heap) (locs : List Loc) (ls : Array Slot) (j : Nat) (hj : j ≤ l0.length) (hw : buf Vw 12 589 (li ++ l0.take j)) (hf : frF V Vw 12 589), l0.length - j < fu → Wd E Vw H → va_S (AE E) s.heap H locs → lv_has ls 5 [(0, .ref (E.1 + 580)), (1, .ref (E.1 + ca)), (2, .int (nI b)), (3, .int (nI l0.length)), (4, .int (nI j))] → W p l e (headSpec wsX8_add (rmD 0)).room s m ([.ref (E.1 + 580), .ref (E.1 + ca), .int (nI b), .int (nI l0.length)] : List Value).toArray below meth c H locs 0 0 (MQ below (QV E (fun V' => Wd E V') (fun V' => buf V' 12 589 (li ++ l0) ∧ frF V V' 12 589)) ([.ref (E.1 + 580), .ref (E.1 + ca), .int (nI b), .int (nI l0.length)] : List Value).toArray s 0 0 (AE E)) (F0 m 3 ls []) := by
    intro fu
    induction fu with
    | zero => intros; omega
    | succ fu ih3 =>
      intro Vw H locs ls j hj hw hf hfu hM hS hl
      have hlen : (li ++ l0.take j).length = li.length + j := by simp; omega
      refine lv_iload hx hb dX8_add_3 (lv_at hl 4 rfl) ?_
      refine lv_iload_n hx hb dX8_add_5 rfl (lv_at hl 3 rfl) ?_
      refine lv_icmp_ge (tgt := 40) hx hb dX8_add_6 (by decide) (fun c_6 => ?_) (fun c_6 => ?_)
      · have n_6 : l0.length ≤ j := (nLe (a := l0.length) (b := j) rfl rfl (by omega) (by omega)).mp c_6
        exact w_vret (free := AE E) Vw hx hb hret hK hS hM (by rw [List.take_of_length_le (by omega)] at hw; exact ⟨hw, hf⟩) hlocks dX8_add_40
      · have n_6 : ¬ l0.length ≤ j := fun q9 => c_6 ((nLe (a := l0.length) (b := j) rfl rfl (by omega) (by omega)).mpr q9)
        refine lv_aload_n hx hb dX8_add_9 rfl (lv_at hl 0 rfl) ?_
        refine w_gr 8 11 589 (T := TX8) (N := 42) hx hb hts in8 hown hK.1 hM (by decide) (by decide) (by decide) (by decide) (by decide) rfl (by decide) k34 rfl dX8_add_10 ?_
        refine lv_aload_n hx hb dX8_add_13 rfl (lv_at hl 0 rfl) ?_
        refine w_gi 8 12 (T := TX8) (N := 42) hx hb hts in8 hown hK.1 hM (by decide) (by decide) (by decide) (by decide) (by decide) rfl (by decide) k135 rfl dX8_add_14 ?_
        have q : (Vw 580 12 : Int32) = nI (li.length + j) := (by rw [hw.1, hlen])
        refine lv_eqi q ?_
        refine lv_aload_n hx hb dX8_add_17 rfl (lv_at hl 1 rfl) ?_
        refine lv_iload_n hx hb dX8_add_18 rfl (lv_at hl 2 rfl) ?_
        refine lv_iload hx hb dX8_add_19 (lv_at hl 4 rfl) ?_
        refine lv_iadd hx hb dX8_add_21 ?_
        have i_22 : ((nI b) + (nI j) : Int32) = nI (b + j) := (nAdd rfl rfl)
        refine w_ild (N := na) hx hb hK.1 hM ha.lt ha.k ha.n (by rw [i_22]; exact vp_in_nI (by omega) (by omega)) dX8_add_22 ?_
        have q : (Vw ca ((nI b) + (nI j)).toNatClampNeg : Int32) = Vw ca (b + j) := by rw [i_22, nI_clamp (by omega)]
        refine lv_eqi q ?_
        have q : (Vw ca (b + j) : Int32) = l0.getD j 0 := by rw [hf.1 ca hne ha.ne]; exact hs j (by omega)
        refine lv_eqi q ?_
        have i_23 : (nI (li.length + j) : Int32) = nI (li.length + j) := rfl
        have j_23 : (nI (li.length + j)).toNatClampNeg = li.length + j := by rw [i_23, nI_clamp (by omega)]
        refine w_ist (N := 200) hx hb hK.1 hM hS (by decide) (by decide) (by decide) (by rw [i_23]; exact vp_in_nI (by omega) (by omega)) dX8_add_23 (fun H locs hM hS => ?_)
        rw [j_23] at hM
        generalize hV23 : up2 Vw 589 (li.length + j) (l0.getD j 0) = V23 at hM
        refine lv_aload_n hx hb dX8_add_24 rfl (lv_at hl 0 rfl) ?_
        refine lv_dup hx hb dX8_add_25 rfl ?_
        refine w_gi 8 12 (T := TX8) (N := 42) hx hb hts in8 hown hK.1 hM (by decide) (by decide) (by decide) (by decide) (by decide) rfl (by decide) k135 rfl dX8_add_26 ?_
        have q : (V23 580 12 : Int32) = nI (li.length + j) := by rw [← hV23, up2_k _ _ (by omega)]; exact (by rw [hw.1, hlen])
        refine lv_eqi q ?_
        refine lv_iconst (v := 1) hx hb dX8_add_29 (by decide) ?_
        refine lv_iadd hx hb dX8_add_30 ?_
        refine w_pi 8 12 (T := TX8) (N := 42) hx hb hts in8 tyX8 tyX8_ok nmX8 hown hK.1 hM hS (by decide) (by decide) (by decide) (by decide) (by decide) rfl (by decide) k135 rfl rfl rfl rfl dX8_add_31 (fun H locs hM hS => ?_)
        generalize hV31 : up2 V23 580 12 ((nI (li.length + j)) + 1) = V31 at hM
        obtain ⟨p1, p2⟩ := hw.push (by decide) hlen.symm hV23 hV31 (by rw [nI_1, hlen])
        obtain ⟨x4_34, ex4_34⟩ : ∃ y : Int32, y = (nI j) + 1 := ⟨_, rfl⟩
        refine lv_iinc (v := x4_34) (lv' := [(4, .int x4_34), (0, .ref (E.1 + 580)), (1, .ref (E.1 + ca)), (2, .int (nI b)), (3, .int (nI l0.length))]) hx hb dX8_add_34 hl (k := 4) rfl (by rw [ex4_34]; rfl) (by decide) rfl (fun ls hl => ?_)
        refine lv_goto (tgt := 3) hx hb dX8_add_37 (by decide) ?_
        rw [show x4_34 = nI (j + 1) from (ex4_34.trans (nAdd rfl rfl))] at hl
        exact ih3 V31 _ _ _ (j + 1) (by omega) (by rw [take_s (by omega), ← List.append_assoc]; exact p1) (hf.trans p2) (by omega) hM hS (lv_sub hl [1, 2, 3, 4, 0] rfl)
  exact loop3 _ V _ _ _ 0 (Nat.zero_le _) (by simpa using hu) (frF.rf) (Nat.lt_succ_self _) hM hS (lv_sub hl [1, 2, 3, 4, 0] rfl)

set_option maxHeartbeats 4000000 in
set_option maxRecDepth 100000 in
theorem c_X8_keyIs (l : Launch) {E : En} {V : Vt} {ca na : Nat} (ha : isA ca na) (hne : ca ≠ 588) {l0 : List Int32} {b : Nat} (hs : seg V ca b l0) (hbn : b + l0.length ≤ na) (hc : l0.length ≤ 100) : CV l yX8_keyIs wsX8_keyIs 0 E V [.ref (E.1 + 580), .ref (E.1 + ca), .int (nI b), .int (nI l0.length)] (fun V' => buf V' 10 588 l0 ∧ buf V' 12 589 [] ∧ (∀ k, k ≠ 588 → k ≠ 580 → V' k = V k) ∧ ∀ i, i ≠ 10 → i ≠ 12 → V' 580 i = V 580 i) := by
  refine Met.ofW (cc := cX8_keyIs) (maxL := 5) (ret := none) (by decide) rfl ?_
  intro p e s m args below meth c s₁ B hml hv
  obtain ⟨rfl, hM, hK⟩ := hv
  have hx := B.exec
  have hb := B.bytes
  have hret := B.returns
  have hts := atoms_spec (ws := wsX8_keyIs) B.pre
  have hown : s.vm.findClass RX8 = some m.cls := findClass_of_methodNamed B.named
  have hlocks := B.notSynchronized
  have hsz : s.heap.size = E.1 + 610 := hM.1
  have hS : va_S (AE E) s.heap s.heap [] := va_S.rf
  have in8 : ∀ w ∈ u_ws RX8 TX8 42, w ∈ wsX8_keyIs := by decide +kernel
  have k132 := hts (.fieldLink RX8 132 "LimitTokensModel" "keySize" "I") (by decide +kernel)
  have k135 := hts (.fieldLink RX8 135 "LimitTokensModel" "messageSize" "I") (by decide +kernel)
  have k31 := hts (.fieldLink RX8 31 "LimitTokensModel" "key" "[I") (by decide +kernel)
  have hl := lv_entry ([.ref (E.1 + 580), .ref (E.1 + ca), .int (nI b), .int (nI l0.length)]) (n := 5) (Nat.le_of_ble_eq_true rfl)
  rw [lg_entry_eq]
  generalize (lg_sl ([.ref (E.1 + 580), .ref (E.1 + ca), .int (nI b), .int (nI l0.length)]) ++ List.replicate (5 - (lg_sl ([.ref (E.1 + 580), .ref (E.1 + ca), .int (nI b), .int (nI l0.length)])).length) Slot.unset).toArray = ls at hl ⊢
  have hl : lv_has ls 5 [(0, .ref (E.1 + 580)), (1, .ref (E.1 + ca)), (2, .int (nI b)), (3, .int (nI l0.length))] := hl
  have hna := ha.c
  refine lv_iconst (v := 0) hx hb dX8_keyIs_0 (by decide) ?_
  refine lv_istore (lv' := [(4, .int 0), (0, .ref (E.1 + 580)), (1, .ref (E.1 + ca)), (2, .int (nI b)), (3, .int (nI l0.length))]) hx hb dX8_keyIs_1 hl (by decide) rfl (fun ls hl => ?_)
  have loop3 : ∀ (fu : Nat) (Vw : Vt) (H : Heap) (locs : List Loc) (ls : Array Slot) (j : Nat) (hj : j ≤ l0.length) (hw : cpx Vw V 588 0 j (fun i => V ca (b + i))), l0.length - j < fu → Wd E Vw H → va_S (AE E) s.heap H locs → lv_has ls 5 [(0, .ref (E.1 + 580)), (1, .ref (E.1 + ca)), (2, .int (nI b)), (3, .int (nI l0.length)), (4, .int (nI j))] → W p l e (headSpec wsX8_keyIs (rmD 0)).room s m ([.ref (E.1 + 580), .ref (E.1 + ca), .int (nI b), .int (nI l0.length)] : List Value).toArray below meth c H locs 0 0 (MQ below (QV E (fun V' => Wd E V') (fun V' => buf V' 10 588 l0 ∧ buf V' 12 589 [] ∧ (∀ k, k ≠ 588 → k ≠ 580 → V' k = V k) ∧ ∀ i, i ≠ 10 → i ≠ 12 → V' 580 i = V 580 i)) ([.ref (E.1 + 580), .ref (E.1 + ca), .int (nI b), .int (nI l0.length)] : List Value).toArray s 0 0 (AE E)) (F0 m 3 ls []) := by
    intro fu
    induction fu with
    | zero => intros; omega
    | succ fu ih3 =>
      intro Vw H locs ls j hj hw hfu hM hS hl
      refine lv_iload hx hb dX8_keyIs_3 (lv_at hl 4 rfl) ?_
      refine lv_iload_n hx hb dX8_keyIs_5 rfl (lv_at hl 3 rfl) ?_
      refine lv_icmp_ge (tgt := 28) hx hb dX8_keyIs_6 (by decide) (fun c_6 => ?_) (fun c_6 => ?_)
      · have n_6 : l0.length ≤ j := (nLe (a := l0.length) (b := j) rfl rfl (by omega) (by omega)).mp c_6
        refine lv_aload_n hx hb dX8_keyIs_28 rfl (lv_at hl 0 rfl) ?_
        refine lv_iload_n hx hb dX8_keyIs_29 rfl (lv_at hl 3 rfl) ?_
        refine w_pi 8 10 (T := TX8) (N := 42) hx hb hts in8 tyX8 tyX8_ok nmX8 hown hK.1 hM hS (by decide) (by decide) (by decide) (by decide) (by decide) rfl (by decide) k132 rfl rfl rfl rfl dX8_keyIs_30 (fun H locs hM hS => ?_)
        generalize hV30 : up2 Vw 580 10 (nI l0.length) = V30 at hM
        refine lv_aload_n hx hb dX8_keyIs_33 rfl (lv_at hl 0 rfl) ?_
        refine lv_iconst (v := 0) hx hb dX8_keyIs_34 (by decide) ?_
        refine w_pi 8 12 (T := TX8) (N := 42) hx hb hts in8 tyX8 tyX8_ok nmX8 hown hK.1 hM hS (by decide) (by decide) (by decide) (by decide) (by decide) rfl (by decide) k135 rfl rfl rfl rfl dX8_keyIs_35 (fun H locs hM hS => ?_)
        generalize hV35 : up2 V30 580 12 0 = V35 at hM
        exact w_vret (free := AE E) V35 hx hb hret hK hS hM (by subst hV30; subst hV35; exact ⟨⟨by rw [up2_o _ _ (by decide), up2_s], fun i hi => by rw [up2_k _ _ (by decide), up2_k _ _ (by decide)]; exact hw.seg (by omega) hs i hi⟩, ⟨by rw [up2_s]; rfl, seg.nil _ _ _⟩, fun k a c => by rw [up2_k _ _ c, up2_k _ _ c]; exact hw.2.2 k a, fun i a c => by rw [up2_o _ _ c, up2_o _ _ a, hw.2.2 580 (by decide)]⟩) hlocks dX8_keyIs_38
      · have n_6 : ¬ l0.length ≤ j := fun q9 => c_6 ((nLe (a := l0.length) (b := j) rfl rfl (by omega) (by omega)).mpr q9)
        refine lv_aload_n hx hb dX8_keyIs_9 rfl (lv_at hl 0 rfl) ?_
        refine w_gr 8 9 588 (T := TX8) (N := 42) hx hb hts in8 hown hK.1 hM (by decide) (by decide) (by decide) (by decide) (by decide) rfl (by decide) k31 rfl dX8_keyIs_10 ?_
        refine lv_iload hx hb dX8_keyIs_13 (lv_at hl 4 rfl) ?_
        refine lv_aload_n hx hb dX8_keyIs_15 rfl (lv_at hl 1 rfl) ?_
        refine lv_iload_n hx hb dX8_keyIs_16 rfl (lv_at hl 2 rfl) ?_
        refine lv_iload hx hb dX8_keyIs_17 (lv_at hl 4 rfl) ?_
        refine lv_iadd hx hb dX8_keyIs_19 ?_
        have i_20 : ((nI b) + (nI j) : Int32) = nI (b + j) := (nAdd rfl rfl)
        refine w_ild (N := na) hx hb hK.1 hM ha.lt ha.k ha.n (by rw [i_20]; exact vp_in_nI (by omega) (by omega)) dX8_keyIs_20 ?_
        have q : (Vw ca ((nI b) + (nI j)).toNatClampNeg : Int32) = Vw ca (b + j) := by rw [i_20, nI_clamp (by omega)]
        refine lv_eqi q ?_
        have i_21 : (nI j : Int32) = nI (j) := rfl
        have j_21 : (nI j).toNatClampNeg = j := by rw [i_21, nI_clamp (by omega)]
        refine w_ist (N := 100) hx hb hK.1 hM hS (by decide) (by decide) (by decide) (by rw [i_21]; exact vp_in_nI (by omega) (by omega)) dX8_keyIs_21 (fun H locs hM hS => ?_)
        rw [j_21] at hM
        generalize hV21 : up2 Vw 588 j (Vw ca (b + j)) = V21 at hM
        obtain ⟨x4_22, ex4_22⟩ : ∃ y : Int32, y = (nI j) + 1 := ⟨_, rfl⟩
        refine lv_iinc (v := x4_22) (lv' := [(4, .int x4_22), (0, .ref (E.1 + 580)), (1, .ref (E.1 + ca)), (2, .int (nI b)), (3, .int (nI l0.length))]) hx hb dX8_keyIs_22 hl (k := 4) rfl (by rw [ex4_22]; rfl) (by decide) rfl (fun ls hl => ?_)
        refine lv_goto (tgt := 3) hx hb dX8_keyIs_25 (by decide) ?_
        rw [show x4_22 = nI (j + 1) from (ex4_22.trans (nAdd rfl rfl))] at hl
        exact ih3 V21 _ _ _ (j + 1) (by omega) (hw.s hV21 (by omega) (by rw [hw.2.2 ca hne])) (by omega) hM hS (lv_sub hl [1, 2, 3, 4, 0] rfl)
  exact loop3 _ V _ _ _ 0 (Nat.zero_le _) (cpx.z _ _ _ _) (Nat.lt_succ_self _) hM hS (lv_sub hl [1, 2, 3, 4, 0] rfl)

set_option maxHeartbeats 4000000 in
set_option maxRecDepth 100000 in
theorem c_X8_copyTo (l : Launch) {E : En} {V : Vt} {ca na cd nd : Nat} (ha : isA ca na) (hd : isA cd nd) (hne : ca ≠ cd) (h32 : 32 ≤ na) {b : Nat} (hbn : b + 32 ≤ nd) : CV l yX8_copyTo wsX8_copyTo 0 E V [.ref (E.1 + ca), .ref (E.1 + cd), .int (nI b)] (fun V' => cpx V' V cd b 32 (V ca)) := by
  refine Met.ofW (cc := cX8_copyTo) (maxL := 4) (ret := none) (by decide) rfl ?_
  intro p e s m args below meth c s₁ B hml hv
  obtain ⟨rfl, hM, hK⟩ := hv
  have hx := B.exec
  have hb := B.bytes
  have hret := B.returns
  have hts := atoms_spec (ws := wsX8_copyTo) B.pre
  have hown : s.vm.findClass RX8 = some m.cls := findClass_of_methodNamed B.named
  have hlocks := B.notSynchronized
  have hsz : s.heap.size = E.1 + 610 := hM.1
  have hS : va_S (AE E) s.heap s.heap [] := va_S.rf
  have hl := lv_entry ([.ref (E.1 + ca), .ref (E.1 + cd), .int (nI b)]) (n := 4) (Nat.le_of_ble_eq_true rfl)
  rw [lg_entry_eq]
  generalize (lg_sl ([.ref (E.1 + ca), .ref (E.1 + cd), .int (nI b)]) ++ List.replicate (4 - (lg_sl ([.ref (E.1 + ca), .ref (E.1 + cd), .int (nI b)])).length) Slot.unset).toArray = ls at hl ⊢
  have hl : lv_has ls 4 [(0, .ref (E.1 + ca)), (1, .ref (E.1 + cd)), (2, .int (nI b))] := hl
  have hna := ha.c
  have hnd := hd.c
  refine lv_iconst (v := 0) hx hb dX8_copyTo_0 (by decide) ?_
  refine lv_istore_n (lv' := [(3, .int 0), (0, .ref (E.1 + ca)), (1, .ref (E.1 + cd)), (2, .int (nI b))]) hx hb dX8_copyTo_1 rfl hl (by decide) rfl (fun ls hl => ?_)
  have loop2 : ∀ (fu : Nat) (Vw : Vt) (H : Heap) (locs : List Loc) (ls : Array Slot) (j : Nat) (hj : j ≤ 32) (hw : cpx Vw V cd b j (V ca)), 32 - j < fu → Wd E Vw H → va_S (AE E) s.heap H locs → lv_has ls 4 [(0, .ref (E.1 + ca)), (1, .ref (E.1 + cd)), (2, .int (nI b)), (3, .int (nI j))] → W p l e (headSpec wsX8_copyTo (rmD 0)).room s m ([.ref (E.1 + ca), .ref (E.1 + cd), .int (nI b)] : List Value).toArray below meth c H locs 0 0 (MQ below (QV E (fun V' => Wd E V') (fun V' => cpx V' V cd b 32 (V ca))) ([.ref (E.1 + ca), .ref (E.1 + cd), .int (nI b)] : List Value).toArray s 0 0 (AE E)) (F0 m 2 ls []) := by
    intro fu
    induction fu with
    | zero => intros; omega
    | succ fu ih2 =>
      intro Vw H locs ls j hj hw hfu hM hS hl
      refine lv_iload_n hx hb dX8_copyTo_2 rfl (lv_at hl 3 rfl) ?_
      refine lv_bipush (v := 32) hx hb dX8_copyTo_3 (by decide) ?_
      refine lv_icmp_ge (tgt := 22) hx hb dX8_copyTo_5 (by decide) (fun c_5 => ?_) (fun c_5 => ?_)
      · have n_5 : 32 ≤ j := (nLe (a := 32) (b := j) rfl rfl (by omega) (by omega)).mp c_5
        exact w_vret (free := AE E) Vw hx hb hret hK hS hM (by have h32 : j = 32 := (by omega); subst h32; exact hw) hlocks dX8_copyTo_22
      · have n_5 : ¬ 32 ≤ j := fun q9 => c_5 ((nLe (a := 32) (b := j) rfl rfl (by omega) (by omega)).mpr q9)
        refine lv_aload_n hx hb dX8_copyTo_8 rfl (lv_at hl 1 rfl) ?_
        refine lv_iload_n hx hb dX8_copyTo_9 rfl (lv_at hl 2 rfl) ?_
        refine lv_iload_n hx hb dX8_copyTo_10 rfl (lv_at hl 3 rfl) ?_
        refine lv_iadd hx hb dX8_copyTo_11 ?_
        refine lv_aload_n hx hb dX8_copyTo_12 rfl (lv_at hl 0 rfl) ?_
        refine lv_iload_n hx hb dX8_copyTo_13 rfl (lv_at hl 3 rfl) ?_
        have i_14 : (nI j : Int32) = nI (j) := rfl
        refine w_ild (N := na) hx hb hK.1 hM ha.lt ha.k ha.n (by rw [i_14]; exact vp_in_nI (by omega) (by omega)) dX8_copyTo_14 ?_
        have q : (Vw ca (nI j).toNatClampNeg : Int32) = Vw ca j := by rw [i_14, nI_clamp (by omega)]
        refine lv_eqi q ?_
        have i_15 : ((nI b) + (nI j) : Int32) = nI (b + j) := (nAdd rfl rfl)
        have j_15 : ((nI b) + (nI j)).toNatClampNeg = b + j := by rw [i_15, nI_clamp (by omega)]
        refine w_ist (N := nd) hx hb hK.1 hM hS hd.lt hd.k hd.n (by rw [i_15]; exact vp_in_nI (by omega) (by omega)) dX8_copyTo_15 (fun H locs hM hS => ?_)
        rw [j_15] at hM
        generalize hV15 : up2 Vw cd (b + j) (Vw ca j) = V15 at hM
        obtain ⟨x3_16, ex3_16⟩ : ∃ y : Int32, y = (nI j) + 1 := ⟨_, rfl⟩
        refine lv_iinc (v := x3_16) (lv' := [(3, .int x3_16), (0, .ref (E.1 + ca)), (1, .ref (E.1 + cd)), (2, .int (nI b))]) hx hb dX8_copyTo_16 hl (k := 3) rfl (by rw [ex3_16]; rfl) (by decide) rfl (fun ls hl => ?_)
        refine lv_goto (tgt := 2) hx hb dX8_copyTo_19 (by decide) ?_
        rw [show x3_16 = nI (j + 1) from (ex3_16.trans (nAdd rfl rfl))] at hl
        exact ih2 V15 _ _ _ (j + 1) (by omega) (hw.s hV15 rfl (by rw [hw.2.2 ca hne])) (by omega) hM hS (lv_sub hl [1, 2, 3, 0] rfl)
  exact loop2 _ V _ _ _ 0 (Nat.zero_le _) (cpx.z _ _ _ _) (Nat.lt_succ_self _) hM hS (lv_sub hl [1, 2, 3, 0] rfl)

set_option maxHeartbeats 4000000 in
set_option maxRecDepth 100000 in
theorem c_X8_keyed (l : Launch) {E : En} {V : Vt} {kl : List Int32} (hu : buf V 10 588 kl) (hk64 : kl.length ≤ 64) (by0 : Int32) : CV l yX8_keyed wsX8_keyed 0 E V [.ref (E.1 + 580), .int by0] (fun V' => buf V' 7 586 ((kl ++ List.replicate (64 - kl.length) 0).map (fun x => x ^^^ by0)) ∧ frF V V' 7 586) := by
  refine Met.ofW (cc := cX8_keyed) (maxL := 3) (ret := none) (by decide) rfl ?_
  intro p e s m args below meth c s₁ B hml hv
  obtain ⟨rfl, hM, hK⟩ := hv
  have hx := B.exec
  have hb := B.bytes
  have hret := B.returns
  have hts := atoms_spec (ws := wsX8_keyed) B.pre
  have hown : s.vm.findClass RX8 = some m.cls := findClass_of_methodNamed B.named
  have hlocks := B.notSynchronized
  have hsz : s.heap.size = E.1 + 610 := hM.1
  have hS : va_S (AE E) s.heap s.heap [] := va_S.rf
  have in8 : ∀ w ∈ u_ws RX8 TX8 42, w ∈ wsX8_keyed := by decide +kernel
  have k126 := hts (.fieldLink RX8 126 "LimitTokensModel" "inSize" "I") (by decide +kernel)
  have k25 := hts (.fieldLink RX8 25 "LimitTokensModel" "in" "[I") (by decide +kernel)
  have k132 := hts (.fieldLink RX8 132 "LimitTokensModel" "keySize" "I") (by decide +kernel)
  have k31 := hts (.fieldLink RX8 31 "LimitTokensModel" "key" "[I") (by decide +kernel)
  have hl := lv_entry ([.ref (E.1 + 580), .int by0]) (n := 3) (Nat.le_of_ble_eq_true rfl)
  rw [lg_entry_eq]
  generalize (lg_sl ([.ref (E.1 + 580), .int by0]) ++ List.replicate (3 - (lg_sl ([.ref (E.1 + 580), .int by0])).length) Slot.unset).toArray = ls at hl ⊢
  have hl : lv_has ls 3 [(0, .ref (E.1 + 580)), (1, .int by0)] := hl
  have hll : (kl ++ List.replicate (64 - kl.length) 0).length = 64 := by simp; omega
  refine lv_aload_n hx hb dX8_keyed_0 rfl (lv_at hl 0 rfl) ?_
  refine lv_iconst (v := 0) hx hb dX8_keyed_1 (by decide) ?_
  refine w_pi 8 7 (T := TX8) (N := 42) hx hb hts in8 tyX8 tyX8_ok nmX8 hown hK.1 hM hS (by decide) (by decide) (by decide) (by decide) (by decide) rfl (by decide) k126 rfl rfl rfl rfl dX8_keyed_2 (fun H locs hM hS => ?_)
  generalize hV2 : up2 V 580 7 0 = V2 at hM
  refine lv_iconst (v := 0) hx hb dX8_keyed_5 (by decide) ?_
  refine lv_istore_n (lv' := [(2, .int 0), (0, .ref (E.1 + 580)), (1, .int by0)]) hx hb dX8_keyed_6 rfl hl (by decide) rfl (fun ls hl => ?_)
  have loop7 : ∀ (fu : Nat) (Vw : Vt) (H : Heap) (locs : List Loc) (ls : Array Slot) (j : Nat) (hj : j ≤ 64) (hw : buf Vw 7 586 (((kl ++ List.replicate (64 - kl.length) 0).take j).map (fun x => x ^^^ by0))) (hf : frF V Vw 7 586), 64 - j < fu → Wd E Vw H → va_S (AE E) s.heap H locs → lv_has ls 3 [(0, .ref (E.1 + 580)), (1, .int by0), (2, .int (nI j))] → W p l e (headSpec wsX8_keyed (rmD 0)).room s m ([.ref (E.1 + 580), .int by0] : List Value).toArray below meth c H locs 0 0 (MQ below (QV E (fun V' => Wd E V') (fun V' => buf V' 7 586 ((kl ++ List.replicate (64 - kl.length) 0).map (fun x => x ^^^ by0)) ∧ frF V V' 7 586)) ([.ref (E.1 + 580), .int by0] : List Value).toArray s 0 0 (AE E)) (F0 m 7 ls []) := by
    intro fu
    induction fu with
    | zero => intros; omega
    | succ fu ih7 =>
      intro Vw H locs ls j hj hw hf hfu hM hS hl
      have hlen : (((kl ++ List.replicate (64 - kl.length) 0).take j).map (fun x => x ^^^ by0)).length = j := by simp; omega
      refine lv_iload_n hx hb dX8_keyed_7 rfl (lv_at hl 2 rfl) ?_
      refine lv_bipush (v := 64) hx hb dX8_keyed_8 (by decide) ?_
      refine lv_icmp_ge (tgt := 58) hx hb dX8_keyed_10 (by decide) (fun c_10 => ?_) (fun c_10 => ?_)
      · have n_10 : 64 ≤ j := (nLe (a := 64) (b := j) rfl rfl (by omega) (by omega)).mp c_10
        exact w_vret (free := AE E) Vw hx hb hret hK hS hM (by rw [List.take_of_length_le (by omega)] at hw; exact ⟨hw, hf⟩) hlocks dX8_keyed_58
      · have n_10 : ¬ 64 ≤ j := fun q9 => c_10 ((nLe (a := 64) (b := j) rfl rfl (by omega) (by omega)).mpr q9)
        refine lv_aload_n hx hb dX8_keyed_13 rfl (lv_at hl 0 rfl) ?_
        refine w_gr 8 6 586 (T := TX8) (N := 42) hx hb hts in8 hown hK.1 hM (by decide) (by decide) (by decide) (by decide) (by decide) rfl (by decide) k25 rfl dX8_keyed_14 ?_
        refine lv_aload_n hx hb dX8_keyed_17 rfl (lv_at hl 0 rfl) ?_
        refine w_gi 8 7 (T := TX8) (N := 42) hx hb hts in8 hown hK.1 hM (by decide) (by decide) (by decide) (by decide) (by decide) rfl (by decide) k126 rfl dX8_keyed_18 ?_
        have q : (Vw 580 7 : Int32) = nI j := (by rw [hw.1, hlen])
        refine lv_eqi q ?_
        refine lv_iload_n hx hb dX8_keyed_21 rfl (lv_at hl 2 rfl) ?_
        refine lv_aload_n hx hb dX8_keyed_22 rfl (lv_at hl 0 rfl) ?_
        refine w_gi 8 10 (T := TX8) (N := 42) hx hb hts in8 hown hK.1 hM (by decide) (by decide) (by decide) (by decide) (by decide) rfl (by decide) k132 rfl dX8_keyed_23 ?_
        have q : (Vw 580 10 : Int32) = nI kl.length := ((hf.2 10 (by decide)).trans hu.1)
        refine lv_eqi q ?_
        refine lv_icmp_ge (tgt := 38) hx hb dX8_keyed_26 (by decide) (fun c_26 => ?_) (fun c_26 => ?_)
        · have n_26 : kl.length ≤ j := (nLe (a := kl.length) (b := j) rfl rfl (by omega) (by omega)).mp c_26
          have gk : (kl ++ List.replicate (64 - kl.length) 0).getD j 0 = 0 := by
            obtain ⟨q, rfl⟩ : ∃ q, j = kl.length + q := ⟨j - kl.length, by omega⟩
            rw [gd_app2]
            simp [List.getD_eq_getElem?_getD, List.getElem?_replicate]
            split <;> rfl
          refine lv_iconst (v := 0) hx hb dX8_keyed_38 (by decide) ?_
          refine lv_iload_n hx hb dX8_keyed_39 rfl (lv_at hl 1 rfl) ?_
          refine lv_ixor hx hb dX8_keyed_40 ?_
          have i_41 : (nI j : Int32) = nI (j) := rfl
          have j_41 : (nI j).toNatClampNeg = j := by rw [i_41, nI_clamp (by omega)]
          refine w_ist (N := 400) hx hb hK.1 hM hS (by decide) (by decide) (by decide) (by rw [i_41]; exact vp_in_nI (by omega) (by omega)) dX8_keyed_41 (fun H locs hM hS => ?_)
          rw [j_41] at hM
          generalize hV41 : up2 Vw 586 j (0 ^^^ by0) = V41 at hM
          refine lv_aload_n hx hb dX8_keyed_42 rfl (lv_at hl 0 rfl) ?_
          refine lv_dup hx hb dX8_keyed_43 rfl ?_
          refine w_gi 8 7 (T := TX8) (N := 42) hx hb hts in8 hown hK.1 hM (by decide) (by decide) (by decide) (by decide) (by decide) rfl (by decide) k126 rfl dX8_keyed_44 ?_
          have q : (V41 580 7 : Int32) = nI j := by rw [← hV41, up2_k _ _ (by omega)]; exact (by rw [hw.1, hlen])
          refine lv_eqi q ?_
          refine lv_iconst (v := 1) hx hb dX8_keyed_47 (by decide) ?_
          refine lv_iadd hx hb dX8_keyed_48 ?_
          refine w_pi 8 7 (T := TX8) (N := 42) hx hb hts in8 tyX8 tyX8_ok nmX8 hown hK.1 hM hS (by decide) (by decide) (by decide) (by decide) (by decide) rfl (by decide) k126 rfl rfl rfl rfl dX8_keyed_49 (fun H locs hM hS => ?_)
          generalize hV49 : up2 V41 580 7 ((nI j) + 1) = V49 at hM
          obtain ⟨p1, p2⟩ := hw.push (by decide) hlen.symm hV41 hV49 (by rw [nI_1, hlen])
          obtain ⟨x2_52, ex2_52⟩ : ∃ y : Int32, y = (nI j) + 1 := ⟨_, rfl⟩
          refine lv_iinc (v := x2_52) (lv' := [(2, .int x2_52), (0, .ref (E.1 + 580)), (1, .int by0)]) hx hb dX8_keyed_52 hl (k := 2) rfl (by rw [ex2_52]; rfl) (by decide) rfl (fun ls hl => ?_)
          refine lv_goto (tgt := 7) hx hb dX8_keyed_55 (by decide) ?_
          rw [show x2_52 = nI (j + 1) from (ex2_52.trans (nAdd rfl rfl))] at hl
          exact ih7 V49 _ _ _ (j + 1) (by omega) (by rw [map_take_s (by omega), gk]; exact p1) (hf.trans p2) (by omega) hM hS (lv_sub hl [1, 2, 0] rfl)
        · have n_26 : ¬ kl.length ≤ j := fun q9 => c_26 ((nLe (a := kl.length) (b := j) rfl rfl (by omega) (by omega)).mpr q9)
          have gk : (kl ++ List.replicate (64 - kl.length) 0).getD j 0 = kl.getD j 0 := gd_app (by omega)
          refine lv_aload_n hx hb dX8_keyed_29 rfl (lv_at hl 0 rfl) ?_
          refine w_gr 8 9 588 (T := TX8) (N := 42) hx hb hts in8 hown hK.1 hM (by decide) (by decide) (by decide) (by decide) (by decide) rfl (by decide) k31 rfl dX8_keyed_30 ?_
          refine lv_iload_n hx hb dX8_keyed_33 rfl (lv_at hl 2 rfl) ?_
          have i_34 : (nI j : Int32) = nI (j) := rfl
          refine w_ild (N := 100) hx hb hK.1 hM (by decide) (by decide) (by decide) (by rw [i_34]; exact vp_in_nI (by omega) (by omega)) dX8_keyed_34 ?_
          have q : (Vw 588 (nI j).toNatClampNeg : Int32) = Vw 588 j := by rw [i_34, nI_clamp (by omega)]
          refine lv_eqi q ?_
          have q : (Vw 588 j : Int32) = kl.getD j 0 := by rw [hf.1 588 (by decide) (by decide)]; exact hu.at (by omega)
          refine lv_eqi q ?_
          refine lv_goto (tgt := 39) hx hb dX8_keyed_35 (by decide) ?_
          refine lv_iload_n hx hb dX8_keyed_39 rfl (lv_at hl 1 rfl) ?_
          refine lv_ixor hx hb dX8_keyed_40 ?_
          have i_41 : (nI j : Int32) = nI (j) := rfl
          have j_41 : (nI j).toNatClampNeg = j := by rw [i_41, nI_clamp (by omega)]
          refine w_ist (N := 400) hx hb hK.1 hM hS (by decide) (by decide) (by decide) (by rw [i_41]; exact vp_in_nI (by omega) (by omega)) dX8_keyed_41 (fun H locs hM hS => ?_)
          rw [j_41] at hM
          generalize hV41 : up2 Vw 586 j ((kl.getD j 0) ^^^ by0) = V41 at hM
          refine lv_aload_n hx hb dX8_keyed_42 rfl (lv_at hl 0 rfl) ?_
          refine lv_dup hx hb dX8_keyed_43 rfl ?_
          refine w_gi 8 7 (T := TX8) (N := 42) hx hb hts in8 hown hK.1 hM (by decide) (by decide) (by decide) (by decide) (by decide) rfl (by decide) k126 rfl dX8_keyed_44 ?_
          have q : (V41 580 7 : Int32) = nI j := by rw [← hV41, up2_k _ _ (by omega)]; exact (by rw [hw.1, hlen])
          refine lv_eqi q ?_
          refine lv_iconst (v := 1) hx hb dX8_keyed_47 (by decide) ?_
          refine lv_iadd hx hb dX8_keyed_48 ?_
          refine w_pi 8 7 (T := TX8) (N := 42) hx hb hts in8 tyX8 tyX8_ok nmX8 hown hK.1 hM hS (by decide) (by decide) (by decide) (by decide) (by decide) rfl (by decide) k126 rfl rfl rfl rfl dX8_keyed_49 (fun H locs hM hS => ?_)
          generalize hV49 : up2 V41 580 7 ((nI j) + 1) = V49 at hM
          obtain ⟨p1, p2⟩ := hw.push (by decide) hlen.symm hV41 hV49 (by rw [nI_1, hlen])
          obtain ⟨x2_52, ex2_52⟩ : ∃ y : Int32, y = (nI j) + 1 := ⟨_, rfl⟩
          refine lv_iinc (v := x2_52) (lv' := [(2, .int x2_52), (0, .ref (E.1 + 580)), (1, .int by0)]) hx hb dX8_keyed_52 hl (k := 2) rfl (by rw [ex2_52]; rfl) (by decide) rfl (fun ls hl => ?_)
          refine lv_goto (tgt := 7) hx hb dX8_keyed_55 (by decide) ?_
          rw [show x2_52 = nI (j + 1) from (ex2_52.trans (nAdd rfl rfl))] at hl
          exact ih7 V49 _ _ _ (j + 1) (by omega) (by rw [map_take_s (by omega), gk]; exact p1) (hf.trans p2) (by omega) hM hS (lv_sub hl [1, 2, 0] rfl)
  exact loop7 _ V2 _ _ _ 0 (Nat.zero_le _) (buf.nil hV2) (by subst hV2; exact ⟨fun k a b => up2_k _ _ b, fun i a => up2_o _ _ a⟩) (Nat.lt_succ_self _) hM hS (lv_sub hl [1, 2, 0] rfl)
