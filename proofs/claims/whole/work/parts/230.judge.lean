set_option maxHeartbeats 4000000 in
set_option maxRecDepth 100000 in
theorem c_X0_isKind (l : Launch) {E : En} {V : Vt} (kd : Int32) : CI l yX0_isKind wsX0_isKind 0 E V [.int kd] (fun r V' => r = b2i (isKd kd) ∧ V' = V) := by
  refine Met.ofW (cc := cX0_isKind) (maxL := 1) (ret := (some .boolean)) (by decide) rfl ?_
  intro p e s m args below meth c s₁ B hml hv
  obtain ⟨rfl, hM, hK⟩ := hv
  have hx := B.exec
  have hb := B.bytes
  have hret := B.returns
  have hts := atoms_spec (ws := wsX0_isKind) B.pre
  have hown : s.vm.findClass RX0 = some m.cls := findClass_of_methodNamed B.named
  have hlocks := B.notSynchronized
  have hsz : s.heap.size = E.1 + 610 := hM.1
  have hS : va_S (AE E) s.heap s.heap [] := va_S.rf
  have hl := lv_entry ([.int kd]) (n := 1) (Nat.le_of_ble_eq_true rfl)
  rw [lg_entry_eq]
  generalize (lg_sl ([.int kd]) ++ List.replicate (1 - (lg_sl ([.int kd])).length) Slot.unset).toArray = ls at hl ⊢
  have hl : lv_has ls 1 [(0, .int kd)] := hl
  refine lv_iload_n hx hb dX0_isKind_0 rfl (lv_at hl 0 rfl) ?_
  refine lv_bipush (v := 60) hx hb dX0_isKind_1 (by decide) ?_
  refine lv_icmp_eq (tgt := 24) hx hb dX0_isKind_3 (by decide) (fun c_3 => ?_) (fun c_3 => ?_)
  · refine lv_iconst (v := 1) hx hb dX0_isKind_24 (by decide) ?_
    refine lv_goto (tgt := 29) hx hb dX0_isKind_25 (by decide) ?_
    exact w_zret V hx hb hret hK hS hM (⟨by simp only [isKd, b2i]; grind, rfl⟩) (rfl) hlocks dX0_isKind_29
  · refine lv_iload_n hx hb dX0_isKind_6 rfl (lv_at hl 0 rfl) ?_
    refine lv_bipush (v := 61) hx hb dX0_isKind_7 (by decide) ?_
    refine lv_icmp_eq (tgt := 24) hx hb dX0_isKind_9 (by decide) (fun c_9 => ?_) (fun c_9 => ?_)
    · refine lv_iconst (v := 1) hx hb dX0_isKind_24 (by decide) ?_
      refine lv_goto (tgt := 29) hx hb dX0_isKind_25 (by decide) ?_
      exact w_zret V hx hb hret hK hS hM (⟨by simp only [isKd, b2i]; grind, rfl⟩) (rfl) hlocks dX0_isKind_29
    · refine lv_iload_n hx hb dX0_isKind_12 rfl (lv_at hl 0 rfl) ?_
      refine lv_bipush (v := 62) hx hb dX0_isKind_13 (by decide) ?_
      refine lv_icmp_eq (tgt := 24) hx hb dX0_isKind_15 (by decide) (fun c_15 => ?_) (fun c_15 => ?_)
      · refine lv_iconst (v := 1) hx hb dX0_isKind_24 (by decide) ?_
        refine lv_goto (tgt := 29) hx hb dX0_isKind_25 (by decide) ?_
        exact w_zret V hx hb hret hK hS hM (⟨by simp only [isKd, b2i]; grind, rfl⟩) (rfl) hlocks dX0_isKind_29
      · refine lv_iload_n hx hb dX0_isKind_18 rfl (lv_at hl 0 rfl) ?_
        refine lv_bipush (v := 35) hx hb dX0_isKind_19 (by decide) ?_
        refine lv_icmp_ne (tgt := 28) hx hb dX0_isKind_21 (by decide) (fun c_21 => ?_) (fun c_21 => ?_)
        · refine lv_iconst (v := 0) hx hb dX0_isKind_28 (by decide) ?_
          exact w_zret V hx hb hret hK hS hM (⟨by simp only [isKd, b2i]; grind, rfl⟩) (rfl) hlocks dX0_isKind_29
        · refine lv_iconst (v := 1) hx hb dX0_isKind_24 (by decide) ?_
          refine lv_goto (tgt := 29) hx hb dX0_isKind_25 (by decide) ?_
          exact w_zret V hx hb hret hK hS hM (⟨by simp only [isKd, b2i]; grind, rfl⟩) (rfl) hlocks dX0_isKind_29

set_option maxHeartbeats 4000000 in
set_option maxRecDepth 100000 in
theorem c_X0_holds (l : Launch) {E : En} {V : Vt} (a kd n : Int32) : CI l yX0_holds wsX0_holds 0 E V [.int a, .int kd, .int n] (fun r V' => r = b2i (hold a kd n) ∧ V' = V) := by
  refine Met.ofW (cc := cX0_holds) (maxL := 3) (ret := (some .boolean)) (by decide) rfl ?_
  intro p e s m args below meth c s₁ B hml hv
  obtain ⟨rfl, hM, hK⟩ := hv
  have hx := B.exec
  have hb := B.bytes
  have hret := B.returns
  have hts := atoms_spec (ws := wsX0_holds) B.pre
  have hown : s.vm.findClass RX0 = some m.cls := findClass_of_methodNamed B.named
  have hlocks := B.notSynchronized
  have hsz : s.heap.size = E.1 + 610 := hM.1
  have hS : va_S (AE E) s.heap s.heap [] := va_S.rf
  have hl := lv_entry ([.int a, .int kd, .int n]) (n := 3) (Nat.le_of_ble_eq_true rfl)
  rw [lg_entry_eq]
  generalize (lg_sl ([.int a, .int kd, .int n]) ++ List.replicate (3 - (lg_sl ([.int a, .int kd, .int n])).length) Slot.unset).toArray = ls at hl ⊢
  have hl : lv_has ls 3 [(0, .int a), (1, .int kd), (2, .int n)] := hl
  refine lv_iload_n hx hb dX0_holds_0 rfl (lv_at hl 1 rfl) ?_
  by_cases sw_60 : kd = 60
  · refine lv_tableIn (x := kd) (off := 27) (tgt := 28) hx hb dX0_holds_1 (by rw [sw_60]; decide) (by rw [sw_60]; decide) (by rw [sw_60]; rfl) (by decide) ?_
    refine lv_iload_n hx hb dX0_holds_28 rfl (lv_at hl 0 rfl) ?_
    refine lv_iload_n hx hb dX0_holds_29 rfl (lv_at hl 2 rfl) ?_
    refine lv_icmp_ge (tgt := 37) hx hb dX0_holds_30 (by decide) (fun c_30 => ?_) (fun c_30 => ?_)
    · refine lv_iconst (v := 0) hx hb dX0_holds_37 (by decide) ?_
      exact w_zret V hx hb hret hK hS hM (⟨by simp only [hold, b2i]; grind, rfl⟩) (rfl) hlocks dX0_holds_38
    · refine lv_iconst (v := 1) hx hb dX0_holds_33 (by decide) ?_
      refine lv_goto (tgt := 38) hx hb dX0_holds_34 (by decide) ?_
      exact w_zret V hx hb hret hK hS hM (⟨by simp only [hold, b2i]; grind, rfl⟩) (rfl) hlocks dX0_holds_38
  by_cases sw_61 : kd = 61
  · refine lv_tableIn (x := kd) (off := 38) (tgt := 39) hx hb dX0_holds_1 (by rw [sw_61]; decide) (by rw [sw_61]; decide) (by rw [sw_61]; rfl) (by decide) ?_
    refine lv_iload_n hx hb dX0_holds_39 rfl (lv_at hl 0 rfl) ?_
    refine lv_iload_n hx hb dX0_holds_40 rfl (lv_at hl 2 rfl) ?_
    refine lv_icmp_ne (tgt := 48) hx hb dX0_holds_41 (by decide) (fun c_41 => ?_) (fun c_41 => ?_)
    · refine lv_iconst (v := 0) hx hb dX0_holds_48 (by decide) ?_
      exact w_zret V hx hb hret hK hS hM (⟨by simp only [hold, b2i]; grind, rfl⟩) (rfl) hlocks dX0_holds_49
    · refine lv_iconst (v := 1) hx hb dX0_holds_44 (by decide) ?_
      refine lv_goto (tgt := 49) hx hb dX0_holds_45 (by decide) ?_
      exact w_zret V hx hb hret hK hS hM (⟨by simp only [hold, b2i]; grind, rfl⟩) (rfl) hlocks dX0_holds_49
  by_cases sw_62 : kd = 62
  · refine lv_tableIn (x := kd) (off := 49) (tgt := 50) hx hb dX0_holds_1 (by rw [sw_62]; decide) (by rw [sw_62]; decide) (by rw [sw_62]; rfl) (by decide) ?_
    refine lv_iload_n hx hb dX0_holds_50 rfl (lv_at hl 0 rfl) ?_
    refine lv_iload_n hx hb dX0_holds_51 rfl (lv_at hl 2 rfl) ?_
    refine lv_icmp_le (tgt := 59) hx hb dX0_holds_52 (by decide) (fun c_52 => ?_) (fun c_52 => ?_)
    · refine lv_iconst (v := 0) hx hb dX0_holds_59 (by decide) ?_
      exact w_zret V hx hb hret hK hS hM (⟨by simp only [hold, b2i]; grind, rfl⟩) (rfl) hlocks dX0_holds_60
    · refine lv_iconst (v := 1) hx hb dX0_holds_55 (by decide) ?_
      refine lv_goto (tgt := 60) hx hb dX0_holds_56 (by decide) ?_
      exact w_zret V hx hb hret hK hS hM (⟨by simp only [hold, b2i]; grind, rfl⟩) (rfl) hlocks dX0_holds_60
  refine lv_tableOut (x := kd) (tgt := 61) hx hb dX0_holds_1 (sw3 (a := kd) sw_60 sw_61 sw_62) (by decide) ?_
  refine lv_iload_n hx hb dX0_holds_61 rfl (lv_at hl 2 rfl) ?_
  refine lv_if_ne (tgt := 77) hx hb dX0_holds_62 (by decide) (fun c_62 => ?_) (fun c_62 => ?_)
  · refine lv_iload_n hx hb dX0_holds_77 rfl (lv_at hl 0 rfl) ?_
    refine lv_iload_n hx hb dX0_holds_78 rfl (lv_at hl 2 rfl) ?_
    refine lv_irem hx hb dX0_holds_79 (c_62) ?_
    refine lv_if_ne (tgt := 87) hx hb dX0_holds_80 (by decide) (fun c_80 => ?_) (fun c_80 => ?_)
    · refine lv_iconst (v := 0) hx hb dX0_holds_87 (by decide) ?_
      exact w_zret V hx hb hret hK hS hM (⟨by simp only [hold, b2i]; grind, rfl⟩) (rfl) hlocks dX0_holds_88
    · refine lv_iconst (v := 1) hx hb dX0_holds_83 (by decide) ?_
      refine lv_goto (tgt := 88) hx hb dX0_holds_84 (by decide) ?_
      exact w_zret V hx hb hret hK hS hM (⟨by simp only [hold, b2i]; grind, rfl⟩) (rfl) hlocks dX0_holds_88
  · refine lv_iload_n hx hb dX0_holds_65 rfl (lv_at hl 0 rfl) ?_
    refine lv_if_ne (tgt := 73) hx hb dX0_holds_66 (by decide) (fun c_66 => ?_) (fun c_66 => ?_)
    · refine lv_iconst (v := 0) hx hb dX0_holds_73 (by decide) ?_
      refine lv_goto (tgt := 88) hx hb dX0_holds_74 (by decide) ?_
      exact w_zret V hx hb hret hK hS hM (⟨by simp only [hold, b2i]; grind, rfl⟩) (rfl) hlocks dX0_holds_88
    · refine lv_iconst (v := 1) hx hb dX0_holds_69 (by decide) ?_
      refine lv_goto (tgt := 88) hx hb dX0_holds_70 (by decide) ?_
      exact w_zret V hx hb hret hK hS hM (⟨by simp only [hold, b2i]; grind, rfl⟩) (rfl) hlocks dX0_holds_88

set_option maxHeartbeats 4000000 in
set_option maxRecDepth 100000 in
theorem c_X0_takeNumber (l : Launch) {E : En} {V : Vt} {k cap : Nat} (hk : isRow k cap) {b : List Int32} (hr0 : rowIs V k b) (hbl : b.length ≤ cap) {p0 : Nat} (hp0 : V 21 1 = nI p0) (hpl : p0 < 100000) : CI l yX0_takeNumber wsX0_takeNumber 1 E V [.ref (E.1 + 21), .ref (E.1 + k)] (fun r V' => r = (if nd b 6 p0 = 0 then -1 else nI (nvS b p0 (nd b 6 p0))) ∧ V' 21 1 = nI (p0 + nd b 6 p0) ∧ ∀ j, j ≠ 21 → V' j = V j) := by
  refine Met.ofW (cc := cX0_takeNumber) (maxL := 5) (ret := (some .int)) (by decide) rfl ?_
  intro p e s m args below meth c s₁ B hml hv
  obtain ⟨rfl, hM, hK⟩ := hv
  have hx := B.exec
  have hb := B.bytes
  have hret := B.returns
  have hts := atoms_spec (ws := wsX0_takeNumber) B.pre
  have hown : s.vm.findClass RX0 = some m.cls := findClass_of_methodNamed B.named
  have hlocks := B.notSynchronized
  have hsz : s.heap.size = E.1 + 610 := hM.1
  have hS : va_S (AE E) s.heap s.heap [] := va_S.rf
  have in0 : ∀ w ∈ u_ws RX0 TX0 2, w ∈ wsX0_takeNumber := by decide +kernel
  have k15 := hts (.fieldLink RX0 15 "LimitTokens$Judge" "position" "I") (by decide +kernel)
  have hl := lv_entry ([.ref (E.1 + 21), .ref (E.1 + k)]) (n := 5) (Nat.le_of_ble_eq_true rfl)
  rw [lg_entry_eq]
  generalize (lg_sl ([.ref (E.1 + 21), .ref (E.1 + k)]) ++ List.replicate (5 - (lg_sl ([.ref (E.1 + 21), .ref (E.1 + k)])).length) Slot.unset).toArray = ls at hl ⊢
  have hl : lv_has ls 5 [(0, .ref (E.1 + 21)), (1, .ref (E.1 + k))] := hl
  have hcap := hk.cap
  have hwh := hk.where
  refine lv_iconst (v := (-1)) hx hb dX0_takeNumber_0 (by decide) ?_
  refine lv_istore_n (lv' := [(2, .int (-1)), (0, .ref (E.1 + 21)), (1, .ref (E.1 + k))]) hx hb dX0_takeNumber_1 rfl hl (by decide) rfl (fun ls hl => ?_)
  refine lv_iconst (v := 0) hx hb dX0_takeNumber_2 (by decide) ?_
  refine lv_istore_n (lv' := [(3, .int 0), (2, .int (-1)), (0, .ref (E.1 + 21)), (1, .ref (E.1 + k))]) hx hb dX0_takeNumber_3 rfl hl (by decide) rfl (fun ls hl => ?_)
  have loop4 : ∀ (fu : Nat) (Vw : Vt) (H : Heap) (locs : List Loc) (ls : Array Slot) (j : Nat) (x : Int32) (y : Int32) (ex : x = nI j) (hj : j ≤ 6) (hnd : nd b 6 p0 = nd b (6 - j) (p0 + j) + j) (hy : (j = 0 ∧ y = -1) ∨ (0 < j ∧ y = nI (nvS b p0 j))) (hby : nvS b p0 j < 10 ^ j) (hpos : Vw 21 1 = nI (p0 + j)) (hf : ∀ j, j ≠ 21 → Vw j = V j), 6 - j < fu → Wd E Vw H → va_S (AE E) s.heap H locs → lv_has ls 5 [(0, .ref (E.1 + 21)), (1, .ref (E.1 + k)), (2, .int y), (3, .int x)] → W p l e (headSpec wsX0_takeNumber (rmD 1)).room s m ([.ref (E.1 + 21), .ref (E.1 + k)] : List Value).toArray below meth c H locs 0 0 (MQ below (QI E (fun V' => Wd E V') (fun r V' => r = (if nd b 6 p0 = 0 then -1 else nI (nvS b p0 (nd b 6 p0))) ∧ V' 21 1 = nI (p0 + nd b 6 p0) ∧ ∀ j, j ≠ 21 → V' j = V j)) ([.ref (E.1 + 21), .ref (E.1 + k)] : List Value).toArray s 0 0 (AE E)) (F0 m 4 ls []) := by
    intro fu
    induction fu with
    | zero => intros; omega
    | succ fu ih =>
      intro Vw H locs ls j x y ex hj hnd hy hby hpos hf hfu hM hS hl
      have hrw : rowIs Vw k b := hr0.keep (hf k (by omega)) (hf (k + 1) (by omega))
      refine lv_iload_n hx hb dX0_takeNumber_4 rfl (lv_at hl 3 rfl) ?_
      refine lv_bipush (v := 6) hx hb dX0_takeNumber_5 (by decide) ?_
      refine lv_icmp_ge (tgt := 65) hx hb dX0_takeNumber_7 (by decide) (fun c_7 => ?_) (fun c_7 => ?_)
      · have hnd0 : nd b 6 p0 = j := by have := nI_lei (a := 6) ex c_7 (by omega) (by omega); rw [hnd, show 6 - j = 0 by omega]; simp [nd]
        refine lv_iload_n hx hb dX0_takeNumber_65 rfl (lv_at hl 2 rfl) ?_
        exact w_iret Vw hx hb hret hK hS hM (⟨by rw [hnd0]; rcases hy with ⟨h0, h1⟩ | ⟨h0, h1⟩; (rw [if_pos h0]; exact h1); (rw [if_neg (by omega)]; exact h1), by rw [hnd0]; exact hpos, hf⟩) hlocks dX0_takeNumber_66
      · have hlt := nI_ltn (a := 6) ex c_7 (by omega) (by omega)
        have hnd1 : nd b (6 - j) (p0 + j) = if isDg (Bt b (p0 + j)) then nd b (6 - (j + 1)) (p0 + (j + 1)) + 1 else 0 := by
          rw [show 6 - j = (6 - (j + 1)) + 1 by omega]; rfl
        refine lv_aload_n hx hb dX0_takeNumber_10 rfl (lv_at hl 1 rfl) ?_
        refine lv_aload_n hx hb dX0_takeNumber_11 rfl (lv_at hl 0 rfl) ?_
        refine w_gi 0 1 (T := TX0) (N := 2) hx hb hts in0 hown hK.1 hM (by decide) (by decide) (by decide) (by decide) (by decide) rfl (by decide) k15 rfl dX0_takeNumber_12 ?_
        have q : (Vw 21 1 : Int32) = nI (p0 + j) := hpos
        refine lv_eqi q ?_
        refine w_cVi (C := RX3) (As := [.int (nI (p0 + j))]) (rest := []) ⟨hx, hb, hml, hown, hts⟩ (c_X3_byteAt l hk hrw hbl (nI (p0 + j))) (cwV 1 hts gX0_takeNumber_X3_byteAt rfl rfl rfl (by decide +kernel) ⟨Nat.le_of_ble_eq_true rfl, Nat.le_of_ble_eq_true rfl⟩) (w_recv (ci := 3) hK hM (hk).lt (hk).k (by decide) rfl) hM hK hS rfl hl.1 rfl (lv_room (Nat.le_of_ble_eq_true rfl)) dX0_takeNumber_15 ⟨Nat.le_of_ble_eq_true rfl, Nat.le_of_ble_eq_true rfl⟩ (fun r15 V15 H locs hp15 hM hS => ?_)
        obtain ⟨er15, eV⟩ := hp15
        rw [eV] at hM; clear eV
        have q : (r15 : Int32) = Bt b (p0 + j) := er15.trans (Bt_eq (by omega) (by omega))
        refine lv_eqi q ?_
        refine lv_bipush (v := 48) hx hb dX0_takeNumber_18 (by decide) ?_
        refine lv_isub hx hb dX0_takeNumber_20 ?_
        refine lv_topi (fun x4_21 ex4_21 => ?_)
        refine lv_istore (lv' := [(4, .int x4_21), (0, .ref (E.1 + 21)), (1, .ref (E.1 + k)), (2, .int y), (3, .int x)]) hx hb dX0_takeNumber_21 hl (by decide) rfl (fun ls hl => ?_)
        refine lv_iload hx hb dX0_takeNumber_23 (lv_at hl 0 rfl) ?_
        refine lv_if_lt (tgt := 35) hx hb dX0_takeNumber_25 (by decide) (fun c_25 => ?_) (fun c_25 => ?_)
        · have hnd0 : nd b 6 p0 = j := by
            have : isDg (Bt b (p0 + j)) = false := by unfold isDg; rw [← ex4_21]; simp only [Bool.and_eq_false_iff, decide_eq_false_iff_not]; first | exact Or.inl (not_not_intro c_25) | exact Or.inr c_32
            rw [hnd, hnd1, this]; simp
          refine lv_iload_n hx hb dX0_takeNumber_35 rfl (lv_at hl 3 rfl) ?_
          exact w_iret Vw hx hb hret hK hS hM (⟨by rw [hnd0]; rcases hy with ⟨h0, h1⟩ | ⟨h0, h1⟩; (rw [if_pos h0]; exact h1); (rw [if_neg (by omega)]; exact h1), by rw [hnd0]; exact hpos, hf⟩) hlocks dX0_takeNumber_36
        · refine lv_iload hx hb dX0_takeNumber_28 (lv_at hl 0 rfl) ?_
          refine lv_bipush (v := 9) hx hb dX0_takeNumber_30 (by decide) ?_
          refine lv_icmp_le (tgt := 37) hx hb dX0_takeNumber_32 (by decide) (fun c_32 => ?_) (fun c_32 => ?_)
          · have hdg : isDg (Bt b (p0 + j)) = true := by unfold isDg; rw [← ex4_21]; simp only [Bool.and_eq_true, decide_eq_true_eq]; exact ⟨c_25, c_32⟩
            rw [if_pos hdg] at hnd1
            have hmx : (if 0 < y then y else 0) = nI (nvS b p0 j) := by
              rcases hy with ⟨rfl, rfl⟩ | ⟨h0, rfl⟩
              · rfl
              · split
                · rfl
                · rename_i hq
                  have hlt10 : 10 ^ j ≤ 10 ^ 6 := Nat.pow_le_pow_right (by omega) (by omega)
                  rcases Nat.eq_zero_or_pos (nvS b p0 j) with h | h
                  · rw [h]; rfl
                  · exact absurd (nI_lt (a := 0) h (by omega)) hq
            refine lv_iconst (v := 0) hx hb dX0_takeNumber_37 (by decide) ?_
            refine lv_iload_n hx hb dX0_takeNumber_38 rfl (lv_at hl 3 rfl) ?_
            refine va_mmax hx hb (hml.trans hl.1.symm) hown (hts (.methodLink RX0 43 Lib.Math.max.name) (by decide +kernel)) (hts (.static Lib.Math.max.name) (by decide +kernel)) (hts (.initialized "java/lang/Math") (by decide +kernel)) (hts (.code Lib.Math.max.name Lib.Math.max.code 2 (some .int)) (by decide +kernel)) (Nat.le_of_ble_eq_true rfl) (Nat.le_of_ble_eq_true rfl) (Nat.zero_le _) (Nat.zero_le _) dX0_takeNumber_39 ?_
            refine lv_bipush (v := 10) hx hb dX0_takeNumber_42 (by decide) ?_
            refine lv_imul hx hb dX0_takeNumber_44 ?_
            refine lv_iload hx hb dX0_takeNumber_45 (lv_at hl 0 rfl) ?_
            refine lv_iadd hx hb dX0_takeNumber_47 ?_
            refine lv_topi (fun x2_48 ex2_48 => ?_)
            refine lv_istore_n (lv' := [(2, .int x2_48), (4, .int x4_21), (0, .ref (E.1 + 21)), (1, .ref (E.1 + k)), (3, .int x)]) hx hb dX0_takeNumber_48 rfl hl (by decide) rfl (fun ls hl => ?_)
            refine lv_aload_n hx hb dX0_takeNumber_49 rfl (lv_at hl 2 rfl) ?_
            refine lv_dup hx hb dX0_takeNumber_50 rfl ?_
            refine w_gi 0 1 (T := TX0) (N := 2) hx hb hts in0 hown hK.1 hM (by decide) (by decide) (by decide) (by decide) (by decide) rfl (by decide) k15 rfl dX0_takeNumber_51 ?_
            have q : (Vw 21 1 : Int32) = nI (p0 + j) := hpos
            refine lv_eqi q ?_
            refine lv_iconst (v := 1) hx hb dX0_takeNumber_54 (by decide) ?_
            refine lv_iadd hx hb dX0_takeNumber_55 ?_
            refine w_pi 0 1 (T := TX0) (N := 2) hx hb hts in0 tyX0 tyX0_ok nmX0 hown hK.1 hM hS (by decide) (by decide) (by decide) (by decide) (by decide) rfl (by decide) k15 rfl rfl rfl rfl dX0_takeNumber_56 (fun H locs hM hS => ?_)
            generalize hV56 : up2 Vw 21 1 ((nI (p0 + j)) + 1) = V56 at hM
            obtain ⟨x3_59, ex3_59⟩ : ∃ y : Int32, y = x + 1 := ⟨_, rfl⟩
            refine lv_iinc (v := x3_59) (lv' := [(3, .int x3_59), (2, .int x2_48), (4, .int x4_21), (0, .ref (E.1 + 21)), (1, .ref (E.1 + k))]) hx hb dX0_takeNumber_59 hl (k := 4) rfl (by rw [ex3_59]; rfl) (by decide) rfl (fun ls hl => ?_)
            refine lv_goto (tgt := 4) hx hb dX0_takeNumber_62 (by decide) ?_
            obtain ⟨hn1, hn2⟩ := num_s (l := b) (p := p0) (j := j) rfl hby hlt hdg (y := x2_48) (by rw [ex2_48, hmx, ex4_21])
            exact ih V56 _ _ _ (j + 1) _ _ (by rw [ex3_59, ex, nI_1]) (by omega) (by rw [hnd, hnd1]; omega) (Or.inr ⟨by omega, hn1⟩) hn2 (by subst hV56; rw [up2_s]; exact nI_1 _) (fun i hi => by subst hV56; rw [up2_k _ _ hi]; exact hf i hi) (by omega) hM hS (lv_sub hl [3, 4, 1, 0] rfl)
          · have hnd0 : nd b 6 p0 = j := by
              have : isDg (Bt b (p0 + j)) = false := by unfold isDg; rw [← ex4_21]; simp only [Bool.and_eq_false_iff, decide_eq_false_iff_not]; first | exact Or.inl (not_not_intro c_25) | exact Or.inr c_32
              rw [hnd, hnd1, this]; simp
            refine lv_iload_n hx hb dX0_takeNumber_35 rfl (lv_at hl 3 rfl) ?_
            exact w_iret Vw hx hb hret hK hS hM (⟨by rw [hnd0]; rcases hy with ⟨h0, h1⟩ | ⟨h0, h1⟩; (rw [if_pos h0]; exact h1); (rw [if_neg (by omega)]; exact h1), by rw [hnd0]; exact hpos, hf⟩) hlocks dX0_takeNumber_36
  exact loop4 _ V _ _ _ 0 0 (-1) (rfl) (Nat.zero_le _) (rfl) (Or.inl ⟨rfl, rfl⟩) (Nat.one_pos) (hp0) (fun _ _ => rfl) (Nat.lt_succ_self _) hM hS (lv_sub hl [2, 3, 1, 0] rfl)

set_option maxHeartbeats 4000000 in
set_option maxRecDepth 100000 in
theorem c_X0_judgeTest (l : Launch) {E : En} {V : Vt} {k cap : Nat} (hk : isRow k cap) {b : List Int32} (hr0 : rowIs V k b) (hbl : b.length ≤ cap) {p0 : Nat} (hp0 : V 21 1 = nI p0) (hpl : p0 < 90000) : CI l yX0_judgeTest wsX0_judgeTest 2 E V [.ref (E.1 + 21), .ref (E.1 + k)] (fun r V' => (∀ z p', tst (V 22) b p0 = some (z, p') → r = b2i z ∧ V' 21 1 = nI p') ∧ (tst (V 22) b p0 = none → r = -1) ∧ ∀ j, j ≠ 21 → V' j = V j) := by
  refine Met.ofW (cc := cX0_judgeTest) (maxL := 6) (ret := (some .int)) (by decide) rfl ?_
  intro p e s m args below meth c s₁ B hml hv
  obtain ⟨rfl, hM, hK⟩ := hv
  have hx := B.exec
  have hb := B.bytes
  have hret := B.returns
  have hts := atoms_spec (ws := wsX0_judgeTest) B.pre
  have hown : s.vm.findClass RX0 = some m.cls := findClass_of_methodNamed B.named
  have hlocks := B.notSynchronized
  have hsz : s.heap.size = E.1 + 610 := hM.1
  have hS : va_S (AE E) s.heap s.heap [] := va_S.rf
  have in0 : ∀ w ∈ u_ws RX0 TX0 2, w ∈ wsX0_judgeTest := by decide +kernel
  have k15 := hts (.fieldLink RX0 15 "LimitTokens$Judge" "position" "I") (by decide +kernel)
  have k9 := hts (.fieldLink RX0 9 "LimitTokens$Judge" "request" "[I") (by decide +kernel)
  have hl := lv_entry ([.ref (E.1 + 21), .ref (E.1 + k)]) (n := 6) (Nat.le_of_ble_eq_true rfl)
  rw [lg_entry_eq]
  generalize (lg_sl ([.ref (E.1 + 21), .ref (E.1 + k)]) ++ List.replicate (6 - (lg_sl ([.ref (E.1 + 21), .ref (E.1 + k)])).length) Slot.unset).toArray = ls at hl ⊢
  have hl : lv_has ls 6 [(0, .ref (E.1 + 21)), (1, .ref (E.1 + k))] := hl
  have hcap := hk.cap
  have hwh := hk.where
  refine lv_aload_n hx hb dX0_judgeTest_0 rfl (lv_at hl 1 rfl) ?_
  refine lv_aload_n hx hb dX0_judgeTest_1 rfl (lv_at hl 0 rfl) ?_
  refine w_gi 0 1 (T := TX0) (N := 2) hx hb hts in0 hown hK.1 hM (by decide) (by decide) (by decide) (by decide) (by decide) rfl (by decide) k15 rfl dX0_judgeTest_2 ?_
  have q : (V 21 1 : Int32) = nI p0 := hp0
  refine lv_eqi q ?_
  refine w_cVi (C := RX3) (As := [.int (nI p0)]) (rest := []) ⟨hx, hb, hml, hown, hts⟩ (c_X3_byteAt l hk hr0 hbl (nI p0)) (cwV 1 hts gX0_judgeTest_X3_byteAt rfl rfl rfl (by decide +kernel) ⟨Nat.le_of_ble_eq_true rfl, Nat.le_of_ble_eq_true rfl⟩) (w_recv (ci := 3) hK hM (hk).lt (hk).k (by decide) rfl) hM hK hS rfl hl.1 rfl (lv_room (Nat.le_of_ble_eq_true rfl)) dX0_judgeTest_5 ⟨Nat.le_of_ble_eq_true rfl, Nat.le_of_ble_eq_true rfl⟩ (fun r5 V5 H locs hp5 hM hS => ?_)
  obtain ⟨er5, eV⟩ := hp5
  rw [eV] at hM; clear eV
  have q : (r5 : Int32) = Bt b p0 := er5.trans (Bt_eq (by omega) (by omega))
  refine lv_eqi q ?_
  refine lv_bipush (v := 33) hx hb dX0_judgeTest_8 (by decide) ?_
  have join19 : ∀ (Va : Vt) (H : Heap) (locs : List Loc) (ls : Array Slot) (nt : Int32) (ent : nt = b2i (decide (Bt b p0 = 33))) (eVa : Va = V), Wd E Va H → va_S (AE E) s.heap H locs → lv_has ls 6 [(0, .ref (E.1 + 21)), (1, .ref (E.1 + k)), (2, .int nt)] → W p l e (headSpec wsX0_judgeTest (rmD 2)).room s m ([.ref (E.1 + 21), .ref (E.1 + k)] : List Value).toArray below meth c H locs 0 0 (MQ below (QI E (fun V' => Wd E V') (fun r V' => (∀ z p', tst (V 22) b p0 = some (z, p') → r = b2i z ∧ V' 21 1 = nI p') ∧ (tst (V 22) b p0 = none → r = -1) ∧ ∀ j, j ≠ 21 → V' j = V j)) ([.ref (E.1 + 21), .ref (E.1 + k)] : List Value).toArray s 0 0 (AE E)) (F0 m 19 ls []) := by
    intro Va H locs ls nt ent eVa hM hS hl
    refine lv_iload_n hx hb dX0_judgeTest_19 rfl (lv_at hl 2 rfl) ?_
    have join33 : ∀ (Vj : Vt) (H : Heap) (locs : List Loc) (ls : Array Slot)  (hpj : Vj 21 1 = nI (p1 b p0)) (hfj : ∀ j, j ≠ 21 → Vj j = V j), Wd E Vj H → va_S (AE E) s.heap H locs → lv_has ls 6 [(0, .ref (E.1 + 21)), (1, .ref (E.1 + k)), (2, .int nt)] → W p l e (headSpec wsX0_judgeTest (rmD 2)).room s m ([.ref (E.1 + 21), .ref (E.1 + k)] : List Value).toArray below meth c H locs 0 0 (MQ below (QI E (fun V' => Wd E V') (fun r V' => (∀ z p', tst (V 22) b p0 = some (z, p') → r = b2i z ∧ V' 21 1 = nI p') ∧ (tst (V 22) b p0 = none → r = -1) ∧ ∀ j, j ≠ 21 → V' j = V j)) ([.ref (E.1 + 21), .ref (E.1 + k)] : List Value).toArray s 0 0 (AE E)) (F0 m 33 ls []) := by
      intro Vj H locs ls  hpj hfj hM hS hl
      have hrj : rowIs Vj k b := hr0.keep (hfj k (by omega)) (hfj (k + 1) (by omega))
      have hp1 : p0 ≤ p1 b p0 ∧ p1 b p0 ≤ p0 + 1 := by unfold p1; split <;> omega
      refine lv_aload_n hx hb dX0_judgeTest_33 rfl (lv_at hl 1 rfl) ?_
      refine lv_aload_n hx hb dX0_judgeTest_34 rfl (lv_at hl 0 rfl) ?_
      refine w_gi 0 1 (T := TX0) (N := 2) hx hb hts in0 hown hK.1 hM (by decide) (by decide) (by decide) (by decide) (by decide) rfl (by decide) k15 rfl dX0_judgeTest_35 ?_
      have q : (Vj 21 1 : Int32) = nI (p1 b p0) := hpj
      refine lv_eqi q ?_
      refine w_cVi (C := RX3) (As := [.int (nI (p1 b p0))]) (rest := []) ⟨hx, hb, hml, hown, hts⟩ (c_X3_byteAt l hk hrj hbl (nI (p1 b p0))) (cwV 1 hts gX0_judgeTest_X3_byteAt rfl rfl rfl (by decide +kernel) ⟨Nat.le_of_ble_eq_true rfl, Nat.le_of_ble_eq_true rfl⟩) (w_recv (ci := 3) hK hM (hk).lt (hk).k (by decide) rfl) hM hK hS rfl hl.1 rfl (lv_room (Nat.le_of_ble_eq_true rfl)) dX0_judgeTest_38 ⟨Nat.le_of_ble_eq_true rfl, Nat.le_of_ble_eq_true rfl⟩ (fun r38 V38 H locs hp38 hM hS => ?_)
      obtain ⟨er38, eV⟩ := hp38
      rw [eV] at hM; clear eV
      have q : (r38 : Int32) = Bt b (p1 b p0) := er38.trans (Bt_eq (by omega) (by omega))
      refine lv_eqi q ?_
      refine lv_bipush (v := 97) hx hb dX0_judgeTest_41 (by decide) ?_
      refine lv_isub hx hb dX0_judgeTest_43 ?_
      refine lv_topi (fun x3_44 ex3_44 => ?_)
      refine lv_istore_n (lv' := [(3, .int x3_44), (0, .ref (E.1 + 21)), (1, .ref (E.1 + k)), (2, .int nt)]) hx hb dX0_judgeTest_44 rfl hl (by decide) rfl (fun ls hl => ?_)
      refine lv_aload_n hx hb dX0_judgeTest_45 rfl (lv_at hl 2 rfl) ?_
      refine lv_aload_n hx hb dX0_judgeTest_46 rfl (lv_at hl 1 rfl) ?_
      refine w_gi 0 1 (T := TX0) (N := 2) hx hb hts in0 hown hK.1 hM (by decide) (by decide) (by decide) (by decide) (by decide) rfl (by decide) k15 rfl dX0_judgeTest_47 ?_
      have q : (Vj 21 1 : Int32) = nI (p1 b p0) := hpj
      refine lv_eqi q ?_
      refine lv_iconst (v := 1) hx hb dX0_judgeTest_50 (by decide) ?_
      refine lv_iadd hx hb dX0_judgeTest_51 ?_
      refine w_cVi (C := RX3) (As := [.int ((nI (p1 b p0)) + 1)]) (rest := []) ⟨hx, hb, hml, hown, hts⟩ (c_X3_byteAt l hk hrj hbl (nI (p1 b p0) + 1)) (cwV 1 hts gX0_judgeTest_X3_byteAt rfl rfl rfl (by decide +kernel) ⟨Nat.le_of_ble_eq_true rfl, Nat.le_of_ble_eq_true rfl⟩) (w_recv (ci := 3) hK hM (hk).lt (hk).k (by decide) rfl) hM hK hS rfl hl.1 rfl (lv_room (Nat.le_of_ble_eq_true rfl)) dX0_judgeTest_52 ⟨Nat.le_of_ble_eq_true rfl, Nat.le_of_ble_eq_true rfl⟩ (fun r52 V52 H locs hp52 hM hS => ?_)
      obtain ⟨er52, eV⟩ := hp52
      rw [eV] at hM; clear eV
      have q : (r52 : Int32) = Bt b (p1 b p0 + 1) := er52.trans (by rw [nI_1]; exact Bt_eq (by omega) (by omega))
      refine lv_eqi q ?_
      refine lv_topi (fun x4_55 ex4_55 => ?_)
      refine lv_istore (lv' := [(4, .int x4_55), (3, .int x3_44), (0, .ref (E.1 + 21)), (1, .ref (E.1 + k)), (2, .int nt)]) hx hb dX0_judgeTest_55 hl (by decide) rfl (fun ls hl => ?_)
      refine lv_aload_n hx hb dX0_judgeTest_57 rfl (lv_at hl 2 rfl) ?_
      refine lv_dup hx hb dX0_judgeTest_58 rfl ?_
      refine w_gi 0 1 (T := TX0) (N := 2) hx hb hts in0 hown hK.1 hM (by decide) (by decide) (by decide) (by decide) (by decide) rfl (by decide) k15 rfl dX0_judgeTest_59 ?_
      have q : (Vj 21 1 : Int32) = nI (p1 b p0) := hpj
      refine lv_eqi q ?_
      refine lv_iconst (v := 2) hx hb dX0_judgeTest_62 (by decide) ?_
      refine lv_iadd hx hb dX0_judgeTest_63 ?_
      refine w_pi 0 1 (T := TX0) (N := 2) hx hb hts in0 tyX0 tyX0_ok nmX0 hown hK.1 hM hS (by decide) (by decide) (by decide) (by decide) (by decide) rfl (by decide) k15 rfl rfl rfl rfl dX0_judgeTest_64 (fun H locs hM hS => ?_)
      generalize hV64 : up2 Vj 21 1 ((nI (p1 b p0)) + 2) = V64 at hM
      have hr64 : rowIs V64 k b := by subst hV64; exact hrj.keep (up2_k _ _ (by omega)) (up2_k _ _ (by omega))
      refine lv_aload_n hx hb dX0_judgeTest_67 rfl (lv_at hl 2 rfl) ?_
      refine lv_aload_n hx hb dX0_judgeTest_68 rfl (lv_at hl 3 rfl) ?_
      refine w_cVi (C := RX0) (As := [.ref (E.1 + k)]) (rest := []) ⟨hx, hb, hml, hown, hts⟩ (c_X0_takeNumber l hk hr64 hbl (p0 := p1 b p0 + 2) (by subst hV64; rw [up2_s]; exact nI_add _ 2) (by omega)) (cwV 1 hts gX0_judgeTest_X0_takeNumber rfl rfl rfl (by decide +kernel) ⟨Nat.le_of_ble_eq_true rfl, Nat.le_of_ble_eq_true rfl⟩) (w_recv (ci := 0) hK hM (by decide) (by decide) (by decide) rfl) hM hK hS rfl hl.1 rfl (lv_room (Nat.le_of_ble_eq_true rfl)) dX0_judgeTest_69 ⟨Nat.le_of_ble_eq_true rfl, Nat.le_of_ble_eq_true rfl⟩ (fun r69 V69 H locs hp69 hM hS => ?_)
      have hf69 : ∀ j, j ≠ 21 → V69 j = V j := fun j hj => by rw [hp69.2.2 j hj]; subst hV64; rw [up2_k _ _ hj]; exact hfj j hj
      refine lv_istore (lv' := [(5, .int r69), (4, .int x4_55), (3, .int x3_44), (0, .ref (E.1 + 21)), (1, .ref (E.1 + k)), (2, .int nt)]) hx hb dX0_judgeTest_72 hl (by decide) rfl (fun ls hl => ?_)
      have e22 : V69 22 = V 22 := hf69 22 (by decide)
      refine lv_iload_n hx hb dX0_judgeTest_74 rfl (lv_at hl 2 rfl) ?_
      refine lv_if_lt (tgt := 98) hx hb dX0_judgeTest_75 (by decide) (fun c_75 => ?_) (fun c_75 => ?_)
      · have hno : tst (V 22) b p0 = none := tst_no ex3_44 ex4_55 hp69.1 (by first | exact Or.inl c_75 | exact Or.inr (Or.inl c_81) | exact Or.inr (Or.inr (Or.inl (er86.symm.trans c_89))) | exact Or.inr (Or.inr (Or.inr c_95)))
        refine lv_iconst (v := (-1)) hx hb dX0_judgeTest_98 (by decide) ?_
        exact w_iret V69 hx hb hret hK hS hM (⟨fun z p' h => (by rw [hno] at h; cases h), fun _ => rfl, hf69⟩) hlocks dX0_judgeTest_99
      · refine lv_iload_n hx hb dX0_judgeTest_78 rfl (lv_at hl 2 rfl) ?_
        refine lv_bipush (v := 8) hx hb dX0_judgeTest_79 (by decide) ?_
        refine lv_icmp_ge (tgt := 98) hx hb dX0_judgeTest_81 (by decide) (fun c_81 => ?_) (fun c_81 => ?_)
        · have hno : tst (V 22) b p0 = none := tst_no ex3_44 ex4_55 hp69.1 (by first | exact Or.inl c_75 | exact Or.inr (Or.inl c_81) | exact Or.inr (Or.inr (Or.inl (er86.symm.trans c_89))) | exact Or.inr (Or.inr (Or.inr c_95)))
          refine lv_iconst (v := (-1)) hx hb dX0_judgeTest_98 (by decide) ?_
          exact w_iret V69 hx hb hret hK hS hM (⟨fun z p' h => (by rw [hno] at h; cases h), fun _ => rfl, hf69⟩) hlocks dX0_judgeTest_99
        · refine lv_iload hx hb dX0_judgeTest_84 (lv_at hl 1 rfl) ?_
          refine w_cSi (As := [.int x4_55]) (rest := []) ⟨hx, hb, hml, hown, hts⟩ (c_X0_isKind l x4_55) (va_cwS 1 hts gX0_judgeTest_X0_isKind rfl rfl rfl (by decide +kernel) ⟨Nat.le_of_ble_eq_true rfl, Nat.le_of_ble_eq_true rfl⟩) hM hK hS rfl hl.1 rfl (lv_room (Nat.le_of_ble_eq_true rfl)) dX0_judgeTest_86 ⟨Nat.le_of_ble_eq_true rfl, Nat.le_of_ble_eq_true rfl⟩ (fun r86 V86 H locs hp86 hM hS => ?_)
          obtain ⟨er86, eV⟩ := hp86
          rw [eV] at hM; clear eV
          refine lv_if_eq (tgt := 98) hx hb dX0_judgeTest_89 (by decide) (fun c_89 => ?_) (fun c_89 => ?_)
          · have hno : tst (V 22) b p0 = none := tst_no ex3_44 ex4_55 hp69.1 (by first | exact Or.inl c_75 | exact Or.inr (Or.inl c_81) | exact Or.inr (Or.inr (Or.inl (er86.symm.trans c_89))) | exact Or.inr (Or.inr (Or.inr c_95)))
            refine lv_iconst (v := (-1)) hx hb dX0_judgeTest_98 (by decide) ?_
            exact w_iret V69 hx hb hret hK hS hM (⟨fun z p' h => (by rw [hno] at h; cases h), fun _ => rfl, hf69⟩) hlocks dX0_judgeTest_99
          · refine lv_iload hx hb dX0_judgeTest_92 (lv_at hl 0 rfl) ?_
            refine lv_iconst (v := (-1)) hx hb dX0_judgeTest_94 (by decide) ?_
            refine lv_icmp_ne (tgt := 100) hx hb dX0_judgeTest_95 (by decide) (fun c_95 => ?_) (fun c_95 => ?_)
            · obtain ⟨jl, hjl, ejl⟩ := ix_of (n := 8) c_75 c_81 (by omega)
              have hyes := tst_yes (q := V 22) ex3_44 ex4_55 hp69.1 c_75 c_81 (fun h => c_89 (er86.trans h)) c_95
              refine lv_aload_n hx hb dX0_judgeTest_100 rfl (lv_at hl 3 rfl) ?_
              refine w_gr 0 0 22 (T := TX0) (N := 2) hx hb hts in0 hown hK.1 hM (by decide) (by decide) (by decide) (by decide) (by decide) rfl (by decide) k9 rfl dX0_judgeTest_101 ?_
              refine lv_iload_n hx hb dX0_judgeTest_104 rfl (lv_at hl 2 rfl) ?_
              refine w_ild (N := 8) hx hb hK.1 hM (by decide) (by decide) (by decide) (by rw [ejl]; exact vp_in_nI (by omega) (by omega)) dX0_judgeTest_105 ?_
              have q : (V69 22 x3_44.toNatClampNeg : Int32) = V 22 x3_44.toNatClampNeg := by rw [e22]
              refine lv_eqi q ?_
              refine lv_iload hx hb dX0_judgeTest_106 (lv_at hl 1 rfl) ?_
              refine lv_iload hx hb dX0_judgeTest_108 (lv_at hl 0 rfl) ?_
              refine w_cSi (As := [.int (V 22 x3_44.toNatClampNeg), .int x4_55, .int r69]) (rest := []) ⟨hx, hb, hml, hown, hts⟩ (c_X0_holds l (V 22 x3_44.toNatClampNeg) x4_55 r69) (va_cwS 3 hts gX0_judgeTest_X0_holds rfl rfl rfl (by decide +kernel) ⟨Nat.le_of_ble_eq_true rfl, Nat.le_of_ble_eq_true rfl⟩) hM hK hS rfl hl.1 rfl (lv_room (Nat.le_of_ble_eq_true rfl)) dX0_judgeTest_110 ⟨Nat.le_of_ble_eq_true rfl, Nat.le_of_ble_eq_true rfl⟩ (fun r110 V110 H locs hp110 hM hS => ?_)
              obtain ⟨er110, eV⟩ := hp110
              rw [eV] at hM; clear eV
              refine lv_iload_n hx hb dX0_judgeTest_113 rfl (lv_at hl 5 rfl) ?_
              refine lv_icmp_eq (tgt := 121) hx hb dX0_judgeTest_114 (by decide) (fun c_114 => ?_) (fun c_114 => ?_)
              · refine lv_iconst (v := 0) hx hb dX0_judgeTest_121 (by decide) ?_
                exact w_iret V69 hx hb hret hK hS hM (⟨fun z p' h => (by rw [hyes] at h; cases h; exact ⟨(by first | exact (ne_b2i.1 (by rw [← er110, ← ent]; exact c_114)).symm | exact (ne_b2i.2 (by rw [← er110, ← ent]; exact c_114)).symm), hp69.2.1⟩), fun h => (by rw [hyes] at h; cases h), hf69⟩) hlocks dX0_judgeTest_122
              · refine lv_iconst (v := 1) hx hb dX0_judgeTest_117 (by decide) ?_
                refine lv_goto (tgt := 122) hx hb dX0_judgeTest_118 (by decide) ?_
                exact w_iret V69 hx hb hret hK hS hM (⟨fun z p' h => (by rw [hyes] at h; cases h; exact ⟨(by first | exact (ne_b2i.1 (by rw [← er110, ← ent]; exact c_114)).symm | exact (ne_b2i.2 (by rw [← er110, ← ent]; exact c_114)).symm), hp69.2.1⟩), fun h => (by rw [hyes] at h; cases h), hf69⟩) hlocks dX0_judgeTest_122
            · have hno : tst (V 22) b p0 = none := tst_no ex3_44 ex4_55 hp69.1 (by first | exact Or.inl c_75 | exact Or.inr (Or.inl c_81) | exact Or.inr (Or.inr (Or.inl (er86.symm.trans c_89))) | exact Or.inr (Or.inr (Or.inr c_95)))
              refine lv_iconst (v := (-1)) hx hb dX0_judgeTest_98 (by decide) ?_
              exact w_iret V69 hx hb hret hK hS hM (⟨fun z p' h => (by rw [hno] at h; cases h), fun _ => rfl, hf69⟩) hlocks dX0_judgeTest_99
    refine lv_if_eq (tgt := 33) hx hb dX0_judgeTest_20 (by decide) (fun c_20 => ?_) (fun c_20 => ?_)
    · exact join33 Va _ _ _ (by unfold p1; rw [ent] at c_20; rw [if_neg (of_decide_eq_false (b2i_eq0 c_20)), eVa]; exact hp0) (fun i hi => by rw [eVa]) hM hS (lv_sub hl [0, 1, 2] rfl)
    · refine lv_aload_n hx hb dX0_judgeTest_23 rfl (lv_at hl 0 rfl) ?_
      refine lv_dup hx hb dX0_judgeTest_24 rfl ?_
      refine w_gi 0 1 (T := TX0) (N := 2) hx hb hts in0 hown hK.1 hM (by decide) (by decide) (by decide) (by decide) (by decide) rfl (by decide) k15 rfl dX0_judgeTest_25 ?_
      have q : (Va 21 1 : Int32) = nI p0 := by rw [eVa]; exact hp0
      refine lv_eqi q ?_
      refine lv_iconst (v := 1) hx hb dX0_judgeTest_28 (by decide) ?_
      refine lv_iadd hx hb dX0_judgeTest_29 ?_
      refine w_pi 0 1 (T := TX0) (N := 2) hx hb hts in0 tyX0 tyX0_ok nmX0 hown hK.1 hM hS (by decide) (by decide) (by decide) (by decide) (by decide) rfl (by decide) k15 rfl rfl rfl rfl dX0_judgeTest_30 (fun H locs hM hS => ?_)
      generalize hV30 : up2 Va 21 1 ((nI p0) + 1) = V30 at hM
      exact join33 V30 _ _ _ (by subst hV30; rw [up2_s]; unfold p1; rw [ent] at c_20; rw [if_pos (of_decide_eq_true (b2i_ne0 c_20))]; exact nI_1 _) (fun i hi => by subst hV30; rw [up2_k _ _ hi, eVa]) hM hS (lv_sub hl [0, 1, 2] rfl)
  refine lv_icmp_ne (tgt := 17) hx hb dX0_judgeTest_10 (by decide) (fun c_10 => ?_) (fun c_10 => ?_)
  · refine lv_iconst (v := 0) hx hb dX0_judgeTest_17 (by decide) ?_
    refine lv_istore_n (lv' := [(2, .int 0), (0, .ref (E.1 + 21)), (1, .ref (E.1 + k))]) hx hb dX0_judgeTest_18 rfl hl (by decide) rfl (fun ls hl => ?_)
    exact join19 V _ _ _ _ (by first | (rw [decide_eq_true c_10]; rfl) | (rw [decide_eq_false c_10]; rfl)) rfl hM hS (lv_sub hl [1, 2, 0] rfl)
  · refine lv_iconst (v := 1) hx hb dX0_judgeTest_13 (by decide) ?_
    refine lv_goto (tgt := 18) hx hb dX0_judgeTest_14 (by decide) ?_
    refine lv_istore_n (lv' := [(2, .int 1), (0, .ref (E.1 + 21)), (1, .ref (E.1 + k))]) hx hb dX0_judgeTest_18 rfl hl (by decide) rfl (fun ls hl => ?_)
    exact join19 V _ _ _ _ (by first | (rw [decide_eq_true c_10]; rfl) | (rw [decide_eq_false c_10]; rfl)) rfl hM hS (lv_sub hl [1, 2, 0] rfl)

set_option maxHeartbeats 4000000 in
set_option maxRecDepth 100000 in
theorem c_X0_judgeText (l : Launch) {E : En} {V : Vt} {k cap : Nat} (hk : isRow k cap) {b : List Int32} (hr0 : rowIs V k b) (hbl : b.length ≤ cap) : CI l yX0_judgeText wsX0_judgeText 3 E V [.ref (E.1 + 21), .ref (E.1 + k)] (fun r V' => r = truth (V 22) b ∧ ∀ j, j ≠ 21 → V' j = V j) := by
  refine Met.ofW (cc := cX0_judgeText) (maxL := 7) (ret := (some .int)) (by decide) rfl ?_
  intro p e s m args below meth c s₁ B hml hv
  obtain ⟨rfl, hM, hK⟩ := hv
  have hx := B.exec
  have hb := B.bytes
  have hret := B.returns
  have hts := atoms_spec (ws := wsX0_judgeText) B.pre
  have hown : s.vm.findClass RX0 = some m.cls := findClass_of_methodNamed B.named
  have hlocks := B.notSynchronized
  have hsz : s.heap.size = E.1 + 610 := hM.1
  have hS : va_S (AE E) s.heap s.heap [] := va_S.rf
  have in0 : ∀ w ∈ u_ws RX0 TX0 2, w ∈ wsX0_judgeText := by decide +kernel
  have in3 : ∀ w ∈ u_ws RX3 TX3 2, w ∈ wsX0_judgeText := by decide +kernel
  have k15 := hts (.fieldLink RX0 15 "LimitTokens$Judge" "position" "I") (by decide +kernel)
  have k19 := hts (.fieldLink RX0 19 "LimitTokens$Row" "length" "I") (by decide +kernel)
  have hl := lv_entry ([.ref (E.1 + 21), .ref (E.1 + k)]) (n := 7) (Nat.le_of_ble_eq_true rfl)
  rw [lg_entry_eq]
  generalize (lg_sl ([.ref (E.1 + 21), .ref (E.1 + k)]) ++ List.replicate (7 - (lg_sl ([.ref (E.1 + 21), .ref (E.1 + k)])).length) Slot.unset).toArray = ls at hl ⊢
  have hl : lv_has ls 7 [(0, .ref (E.1 + 21)), (1, .ref (E.1 + k))] := hl
  have hcap := hk.cap
  have hwh := hk.where
  refine lv_iconst (v := 0) hx hb dX0_judgeText_0 (by decide) ?_
  refine lv_istore_n (lv' := [(2, .int 0), (0, .ref (E.1 + 21)), (1, .ref (E.1 + k))]) hx hb dX0_judgeText_1 rfl hl (by decide) rfl (fun ls hl => ?_)
  refine lv_iconst (v := 1) hx hb dX0_judgeText_2 (by decide) ?_
  refine lv_istore_n (lv' := [(3, .int 1), (2, .int 0), (0, .ref (E.1 + 21)), (1, .ref (E.1 + k))]) hx hb dX0_judgeText_3 rfl hl (by decide) rfl (fun ls hl => ?_)
  refine lv_aload_n hx hb dX0_judgeText_4 rfl (lv_at hl 2 rfl) ?_
  refine lv_iconst (v := 0) hx hb dX0_judgeText_5 (by decide) ?_
  refine w_pi 0 1 (T := TX0) (N := 2) hx hb hts in0 tyX0 tyX0_ok nmX0 hown hK.1 hM hS (by decide) (by decide) (by decide) (by decide) (by decide) rfl (by decide) k15 rfl rfl rfl rfl dX0_judgeText_6 (fun H locs hM hS => ?_)
  generalize hV6 : up2 V 21 1 0 = V6 at hM
  refine lv_iconst (v := 0) hx hb dX0_judgeText_9 (by decide) ?_
  refine lv_istore (lv' := [(4, .int 0), (3, .int 1), (2, .int 0), (0, .ref (E.1 + 21)), (1, .ref (E.1 + k))]) hx hb dX0_judgeText_10 hl (by decide) rfl (fun ls hl => ?_)
  have loop12 : ∀ (fu : Nat) (Vw : Vt) (H : Heap) (locs : List Loc) (ls : Array Slot) (t : Nat) (x : Int32) (o : Int32) (a : Int32) (ob : Bool) (ab : Bool) (p0 : Nat) (ex : x = nI t) (ht : t ≤ b.length + 1) (eo : o = b2i ob) (ea : a = b2i ab) (htx : txt (V 22) b (b.length + 1 - t) p0 ob ab = truth (V 22) b) (hpb : p0 ≤ 10 * t) (hpos : Vw 21 1 = nI p0) (hf : ∀ j, j ≠ 21 → Vw j = V j), b.length + 1 - t < fu → Wd E Vw H → va_S (AE E) s.heap H locs → lv_has ls 7 [(0, .ref (E.1 + 21)), (1, .ref (E.1 + k)), (2, .int o), (3, .int a), (4, .int x)] → W p l e (headSpec wsX0_judgeText (rmD 3)).room s m ([.ref (E.1 + 21), .ref (E.1 + k)] : List Value).toArray below meth c H locs 0 0 (MQ below (QI E (fun V' => Wd E V') (fun r V' => r = truth (V 22) b ∧ ∀ j, j ≠ 21 → V' j = V j)) ([.ref (E.1 + 21), .ref (E.1 + k)] : List Value).toArray s 0 0 (AE E)) (F0 m 12 ls []) := by
    intro fu
    induction fu with
    | zero => intros; omega
    | succ fu ih =>
      intro Vw H locs ls t x o a ob ab p0 ex ht eo ea htx hpb hpos hf hfu hM hS hl
      have hrw : rowIs Vw k b := hr0.keep (hf k (by omega)) (hf (k + 1) (by omega))
      have e22 : Vw 22 = V 22 := hf 22 (by decide)
      refine lv_iload hx hb dX0_judgeText_12 (lv_at hl 4 rfl) ?_
      refine lv_aload_n hx hb dX0_judgeText_14 rfl (lv_at hl 1 rfl) ?_
      refine w_gi 3 1 (T := TX3) (N := 2) hx hb hts in3 hown hK.1 hM (hk).lt (hk).k (hk).n (hk).f1 (by decide) rfl (by decide) k19 rfl dX0_judgeText_15 ?_
      have q : (Vw k 1 : Int32) = nI b.length := hrw.1
      refine lv_eqi q ?_
      refine lv_icmp_gt (tgt := 133) hx hb dX0_judgeText_18 (by decide) (fun c_18 => ?_) (fun c_18 => ?_)
      · refine lv_iconst (v := (-1)) hx hb dX0_judgeText_133 (by decide) ?_
        exact w_iret Vw hx hb hret hK hS hM (⟨by have h9 : t = b.length + 1 := (by rw [ex] at c_18; have := (nI_ltI (by omega) (by omega)).mp c_18; omega); subst h9; rw [← htx, show b.length + 1 - (b.length + 1) = 0 by omega]; rfl, hf⟩) hlocks dX0_judgeText_134
      · have hlt : t ≤ b.length := by rw [ex] at c_18; exact Nat.not_lt.mp (fun q => c_18 (nI_lt q (by omega)))
        refine lv_aload_n hx hb dX0_judgeText_21 rfl (lv_at hl 0 rfl) ?_
        refine lv_aload_n hx hb dX0_judgeText_22 rfl (lv_at hl 1 rfl) ?_
        refine w_cVi (C := RX0) (As := [.ref (E.1 + k)]) (rest := []) ⟨hx, hb, hml, hown, hts⟩ (c_X0_judgeTest l hk hrw hbl hpos (by omega)) (cwV 1 hts gX0_judgeText_X0_judgeTest rfl rfl rfl (by decide +kernel) ⟨Nat.le_of_ble_eq_true rfl, Nat.le_of_ble_eq_true rfl⟩) (w_recv (ci := 0) hK hM (by decide) (by decide) (by decide) rfl) hM hK hS rfl hl.1 rfl (lv_room (Nat.le_of_ble_eq_true rfl)) dX0_judgeText_23 ⟨Nat.le_of_ble_eq_true rfl, Nat.le_of_ble_eq_true rfl⟩ (fun r23 V23 H locs hp23 hM hS => ?_)
        refine lv_istore (lv' := [(5, .int r23), (0, .ref (E.1 + 21)), (1, .ref (E.1 + k)), (2, .int o), (3, .int a), (4, .int x)]) hx hb dX0_judgeText_26 hl (by decide) rfl (fun ls hl => ?_)
        refine lv_iload hx hb dX0_judgeText_28 (lv_at hl 0 rfl) ?_
        refine lv_iconst (v := (-1)) hx hb dX0_judgeText_30 (by decide) ?_
        refine lv_icmp_ne (tgt := 36) hx hb dX0_judgeText_31 (by decide) (fun c_31 => ?_) (fun c_31 => ?_)
        · obtain ⟨⟨rb, pq⟩, hz⟩ : ∃ z, tst (V 22) b p0 = some z := by
            cases hq : tst (V 22) b p0 with
            | none => exact absurd (hp23.2.1 (by rw [e22]; exact hq)) c_31
            | some z => exact ⟨z, rfl⟩
          obtain ⟨hz1, hz2⟩ := hp23.1 rb pq (by rw [e22]; exact hz)
          have hpq := tst_le hz
          refine lv_iload_n hx hb dX0_judgeText_36 rfl (lv_at hl 4 rfl) ?_
          have join51 : ∀ (Va : Vt) (H : Heap) (locs : List Loc) (ls : Array Slot) (a2 : Int32) (ea2 : a2 = b2i (ab && rb)) (eVa : Va = V23), Wd E Va H → va_S (AE E) s.heap H locs → lv_has ls 7 [(0, .ref (E.1 + 21)), (1, .ref (E.1 + k)), (2, .int o), (4, .int x)] → W p l e (headSpec wsX0_judgeText (rmD 3)).room s m ([.ref (E.1 + 21), .ref (E.1 + k)] : List Value).toArray below meth c H locs 0 0 (MQ below (QI E (fun V' => Wd E V') (fun r V' => r = truth (V 22) b ∧ ∀ j, j ≠ 21 → V' j = V j)) ([.ref (E.1 + 21), .ref (E.1 + k)] : List Value).toArray s 0 0 (AE E)) (F0 m 51 ls [.int a2]) := by
            intro Va H locs ls a2 ea2 eVa hM hS hl
            have hr3 : rowIs Va k b := by rw [eVa]; exact hrw.keep (hp23.2.2 k (by omega)) (hp23.2.2 (k + 1) (by omega))
            refine lv_istore_n (lv' := [(3, .int a2), (0, .ref (E.1 + 21)), (1, .ref (E.1 + k)), (2, .int o), (4, .int x)]) hx hb dX0_judgeText_51 rfl hl (by decide) rfl (fun ls hl => ?_)
            refine lv_aload_n hx hb dX0_judgeText_52 rfl (lv_at hl 2 rfl) ?_
            refine lv_aload_n hx hb dX0_judgeText_53 rfl (lv_at hl 1 rfl) ?_
            refine w_gi 0 1 (T := TX0) (N := 2) hx hb hts in0 hown hK.1 hM (by decide) (by decide) (by decide) (by decide) (by decide) rfl (by decide) k15 rfl dX0_judgeText_54 ?_
            have q : (Va 21 1 : Int32) = nI pq := by rw [eVa]; exact hz2
            refine lv_eqi q ?_
            refine w_cVi (C := RX3) (As := [.int (nI pq)]) (rest := []) ⟨hx, hb, hml, hown, hts⟩ (c_X3_byteAt l hk hr3 hbl (nI pq)) (cwV 1 hts gX0_judgeText_X3_byteAt rfl rfl rfl (by decide +kernel) ⟨Nat.le_of_ble_eq_true rfl, Nat.le_of_ble_eq_true rfl⟩) (w_recv (ci := 3) hK hM (hk).lt (hk).k (by decide) rfl) hM hK hS rfl hl.1 rfl (lv_room (Nat.le_of_ble_eq_true rfl)) dX0_judgeText_57 ⟨Nat.le_of_ble_eq_true rfl, Nat.le_of_ble_eq_true rfl⟩ (fun r57 V57 H locs hp57 hM hS => ?_)
            obtain ⟨er57, eV⟩ := hp57
            rw [eV] at hM; clear eV
            have q : (r57 : Int32) = Bt b pq := er57.trans (Bt_eq (by omega) (by omega))
            refine lv_eqi q ?_
            refine lv_topi (fun x6_60 ex6_60 => ?_)
            refine lv_istore (lv' := [(6, .int x6_60), (3, .int a2), (0, .ref (E.1 + 21)), (1, .ref (E.1 + k)), (2, .int o), (4, .int x)]) hx hb dX0_judgeText_60 hl (by decide) rfl (fun ls hl => ?_)
            refine lv_aload_n hx hb dX0_judgeText_62 rfl (lv_at hl 2 rfl) ?_
            refine lv_dup hx hb dX0_judgeText_63 rfl ?_
            refine w_gi 0 1 (T := TX0) (N := 2) hx hb hts in0 hown hK.1 hM (by decide) (by decide) (by decide) (by decide) (by decide) rfl (by decide) k15 rfl dX0_judgeText_64 ?_
            have q : (Va 21 1 : Int32) = nI pq := by rw [eVa]; exact hz2
            refine lv_eqi q ?_
            refine lv_iconst (v := 1) hx hb dX0_judgeText_67 (by decide) ?_
            refine lv_iadd hx hb dX0_judgeText_68 ?_
            refine w_pi 0 1 (T := TX0) (N := 2) hx hb hts in0 tyX0 tyX0_ok nmX0 hown hK.1 hM hS (by decide) (by decide) (by decide) (by decide) (by decide) rfl (by decide) k15 rfl rfl rfl rfl dX0_judgeText_69 (fun H locs hM hS => ?_)
            generalize hV69 : up2 Va 21 1 ((nI pq) + 1) = V69 at hM
            refine lv_iload hx hb dX0_judgeText_72 (lv_at hl 0 rfl) ?_
            refine lv_bipush (v := 38) hx hb dX0_judgeText_74 (by decide) ?_
            have join95 : ∀ (Vc : Vt) (H : Heap) (locs : List Loc) (ls : Array Slot) (o2 : Int32) (a3 : Int32) (ob2 : Bool) (ab2 : Bool) (eo2 : o2 = b2i ob2) (ea3 : a3 = b2i ab2) (eVc : Vc = V69) (hcs : (x6_60 = 38 ∧ ob2 = ob ∧ ab2 = (ab && rb)) ∨ (¬ x6_60 = 38 ∧ ob2 = (ob || (ab && rb)) ∧ ab2 = true)), Wd E Vc H → va_S (AE E) s.heap H locs → lv_has ls 7 [(0, .ref (E.1 + 21)), (1, .ref (E.1 + k)), (2, .int o2), (3, .int a3), (4, .int x), (6, .int x6_60)] → W p l e (headSpec wsX0_judgeText (rmD 3)).room s m ([.ref (E.1 + 21), .ref (E.1 + k)] : List Value).toArray below meth c H locs 0 0 (MQ below (QI E (fun V' => Wd E V') (fun r V' => r = truth (V 22) b ∧ ∀ j, j ≠ 21 → V' j = V j)) ([.ref (E.1 + 21), .ref (E.1 + k)] : List Value).toArray s 0 0 (AE E)) (F0 m 95 ls []) := by
              intro Vc H locs ls o2 a3 ob2 ab2 eo2 ea3 eVc hcs hM hS hl
              have hpos2 : Vc 21 1 = nI (pq + 1) := by rw [eVc]; subst hV69; rw [up2_s]; exact nI_1 _
              have hf2 : ∀ j, j ≠ 21 → Vc j = V j := fun j hj => by rw [eVc]; subst hV69; rw [up2_k _ _ hj, eVa, hp23.2.2 j hj]; exact hf j hj
              have hstep := txt_s (f := b.length - t) (one := ob) (all := ab) hz
              rw [show b.length - t + 1 = b.length + 1 - t by omega, htx, ← ex6_60] at hstep
              refine lv_iload hx hb dX0_judgeText_95 (lv_at hl 5 rfl) ?_
              refine lv_iconst (v := (-1)) hx hb dX0_judgeText_97 (by decide) ?_
              refine lv_icmp_ne (tgt := 111) hx hb dX0_judgeText_98 (by decide) (fun c_98 => ?_) (fun c_98 => ?_)
              · refine lv_iload hx hb dX0_judgeText_111 (lv_at hl 5 rfl) ?_
                refine lv_bipush (v := 38) hx hb dX0_judgeText_113 (by decide) ?_
                refine lv_icmp_eq (tgt := 127) hx hb dX0_judgeText_115 (by decide) (fun c_115 => ?_) (fun c_115 => ?_)
                · have htx2 : (x6_60 = 38 → txt (V 22) b (b.length + 1 - (t + 1)) (pq + 1) ob2 ab2 = truth (V 22) b) ∧ (¬ x6_60 = 38 → x6_60 = 124 → txt (V 22) b (b.length + 1 - (t + 1)) (pq + 1) ob2 ab2 = truth (V 22) b) := by
                    rw [show b.length + 1 - (t + 1) = b.length - t by omega]
                    refine ⟨fun h => ?_, fun h h2 => ?_⟩
                    · rcases hcs with ⟨u1, u2, u3⟩ | ⟨u1, u2, u3⟩
                      · rw [if_pos h] at hstep; rw [u2, u3]; exact hstep.symm
                      · exact absurd h u1
                    · rcases hcs with ⟨u1, u2, u3⟩ | ⟨u1, u2, u3⟩
                      · exact absurd u1 h
                      · rw [if_neg h, if_neg (by rw [h2]; decide), if_pos h2] at hstep; rw [u2, u3]; exact hstep.symm
                  obtain ⟨x4_127, ex4_127⟩ : ∃ y : Int32, y = x + 1 := ⟨_, rfl⟩
                  refine lv_iinc (v := x4_127) (lv' := [(4, .int x4_127), (0, .ref (E.1 + 21)), (1, .ref (E.1 + k)), (2, .int o2), (3, .int a3), (6, .int x6_60)]) hx hb dX0_judgeText_127 hl (k := 4) rfl (by rw [ex4_127]; rfl) (by decide) rfl (fun ls hl => ?_)
                  refine lv_goto (tgt := 12) hx hb dX0_judgeText_130 (by decide) ?_
                  exact ih Vc _ _ _ (t + 1) _ _ _ ob2 ab2 (pq + 1) (by rw [ex4_127, ex, nI_1]) (by omega) eo2 ea3 (by first | exact (htx2.1 c_115) | exact (htx2.2 c_115 c_122)) (by omega) hpos2 hf2 (by omega) hM hS (lv_sub hl [1, 2, 3, 4, 0] rfl)
                · refine lv_iload hx hb dX0_judgeText_118 (lv_at hl 5 rfl) ?_
                  refine lv_bipush (v := 124) hx hb dX0_judgeText_120 (by decide) ?_
                  refine lv_icmp_eq (tgt := 127) hx hb dX0_judgeText_122 (by decide) (fun c_122 => ?_) (fun c_122 => ?_)
                  · have htx2 : (x6_60 = 38 → txt (V 22) b (b.length + 1 - (t + 1)) (pq + 1) ob2 ab2 = truth (V 22) b) ∧ (¬ x6_60 = 38 → x6_60 = 124 → txt (V 22) b (b.length + 1 - (t + 1)) (pq + 1) ob2 ab2 = truth (V 22) b) := by
                      rw [show b.length + 1 - (t + 1) = b.length - t by omega]
                      refine ⟨fun h => ?_, fun h h2 => ?_⟩
                      · rcases hcs with ⟨u1, u2, u3⟩ | ⟨u1, u2, u3⟩
                        · rw [if_pos h] at hstep; rw [u2, u3]; exact hstep.symm
                        · exact absurd h u1
                      · rcases hcs with ⟨u1, u2, u3⟩ | ⟨u1, u2, u3⟩
                        · exact absurd u1 h
                        · rw [if_neg h, if_neg (by rw [h2]; decide), if_pos h2] at hstep; rw [u2, u3]; exact hstep.symm
                    obtain ⟨x4_127, ex4_127⟩ : ∃ y : Int32, y = x + 1 := ⟨_, rfl⟩
                    refine lv_iinc (v := x4_127) (lv' := [(4, .int x4_127), (0, .ref (E.1 + 21)), (1, .ref (E.1 + k)), (2, .int o2), (3, .int a3), (6, .int x6_60)]) hx hb dX0_judgeText_127 hl (k := 4) rfl (by rw [ex4_127]; rfl) (by decide) rfl (fun ls hl => ?_)
                    refine lv_goto (tgt := 12) hx hb dX0_judgeText_130 (by decide) ?_
                    exact ih Vc _ _ _ (t + 1) _ _ _ ob2 ab2 (pq + 1) (by rw [ex4_127, ex, nI_1]) (by omega) eo2 ea3 (by first | exact (htx2.1 c_115) | exact (htx2.2 c_115 c_122)) (by omega) hpos2 hf2 (by omega) hM hS (lv_sub hl [1, 2, 3, 4, 0] rfl)
                  · refine lv_iconst (v := (-1)) hx hb dX0_judgeText_125 (by decide) ?_
                    exact w_iret Vc hx hb hret hK hS hM (⟨by rw [if_neg c_115, if_neg c_98, if_neg c_122] at hstep; exact hstep.symm, hf2⟩) hlocks dX0_judgeText_126
              · refine lv_iload_n hx hb dX0_judgeText_101 rfl (lv_at hl 2 rfl) ?_
                refine lv_if_eq (tgt := 109) hx hb dX0_judgeText_102 (by decide) (fun c_102 => ?_) (fun c_102 => ?_)
                · refine lv_iconst (v := 0) hx hb dX0_judgeText_109 (by decide) ?_
                  exact w_iret Vc hx hb hret hK hS hM (⟨by (rcases hcs with ⟨u1, u2, u3⟩ | ⟨u1, u2, u3⟩); (exact absurd (u1.symm.trans c_98) (by decide)); (rw [if_neg u1, if_pos c_98, ← u2] at hstep; rw [hstep]; first | (rw [eo2] at c_102; rw [b2i_eq0 c_102]; rfl) | (rw [eo2] at c_102; rw [b2i_ne0 c_102]; rfl)), hf2⟩) hlocks dX0_judgeText_110
                · refine lv_iconst (v := 1) hx hb dX0_judgeText_105 (by decide) ?_
                  refine lv_goto (tgt := 110) hx hb dX0_judgeText_106 (by decide) ?_
                  exact w_iret Vc hx hb hret hK hS hM (⟨by (rcases hcs with ⟨u1, u2, u3⟩ | ⟨u1, u2, u3⟩); (exact absurd (u1.symm.trans c_98) (by decide)); (rw [if_neg u1, if_pos c_98, ← u2] at hstep; rw [hstep]; first | (rw [eo2] at c_102; rw [b2i_eq0 c_102]; rfl) | (rw [eo2] at c_102; rw [b2i_ne0 c_102]; rfl)), hf2⟩) hlocks dX0_judgeText_110
            refine lv_icmp_eq (tgt := 95) hx hb dX0_judgeText_76 (by decide) (fun c_76 => ?_) (fun c_76 => ?_)
            · exact join95 V69 _ _ _ _ _ ob (ab && rb) eo ea2 rfl (Or.inl ⟨c_76, rfl, rfl⟩) hM hS (lv_sub hl [2, 3, 4, 1, 5, 0] rfl)
            · refine lv_iload_n hx hb dX0_judgeText_79 rfl (lv_at hl 4 rfl) ?_
              have join92 : ∀ (Vb : Vt) (H : Heap) (locs : List Loc) (ls : Array Slot) (o3 : Int32) (eo3 : o3 = b2i (ob || (ab && rb))) (eVb : Vb = V69), Wd E Vb H → va_S (AE E) s.heap H locs → lv_has ls 7 [(0, .ref (E.1 + 21)), (1, .ref (E.1 + k)), (4, .int x), (6, .int x6_60)] → W p l e (headSpec wsX0_judgeText (rmD 3)).room s m ([.ref (E.1 + 21), .ref (E.1 + k)] : List Value).toArray below meth c H locs 0 0 (MQ below (QI E (fun V' => Wd E V') (fun r V' => r = truth (V 22) b ∧ ∀ j, j ≠ 21 → V' j = V j)) ([.ref (E.1 + 21), .ref (E.1 + k)] : List Value).toArray s 0 0 (AE E)) (F0 m 92 ls [.int o3]) := by
                intro Vb H locs ls o3 eo3 eVb hM hS hl
                refine lv_istore_n (lv' := [(2, .int o3), (0, .ref (E.1 + 21)), (1, .ref (E.1 + k)), (4, .int x), (6, .int x6_60)]) hx hb dX0_judgeText_92 rfl hl (by decide) rfl (fun ls hl => ?_)
                refine lv_iconst (v := 1) hx hb dX0_judgeText_93 (by decide) ?_
                refine lv_istore_n (lv' := [(3, .int 1), (2, .int o3), (0, .ref (E.1 + 21)), (1, .ref (E.1 + k)), (4, .int x), (6, .int x6_60)]) hx hb dX0_judgeText_94 rfl hl (by decide) rfl (fun ls hl => ?_)
                exact join95 Vb _ _ _ _ _ (ob || (ab && rb)) true eo3 rfl eVb (Or.inr ⟨c_76, rfl, rfl⟩) hM hS (lv_sub hl [2, 3, 1, 0, 4, 5] rfl)
              refine lv_if_ne (tgt := 87) hx hb dX0_judgeText_80 (by decide) (fun c_80 => ?_) (fun c_80 => ?_)
              · refine lv_iconst (v := 1) hx hb dX0_judgeText_87 (by decide) ?_
                refine lv_goto (tgt := 92) hx hb dX0_judgeText_88 (by decide) ?_
                exact join92 V69 _ _ _ _ (by first | exact ((b2i_or eo ea2).1 c_80).symm | exact ((b2i_or eo ea2).2.1 c_80 c_84).symm | exact ((b2i_or eo ea2).2.2 c_80 c_84).symm) rfl hM hS (lv_sub hl [2, 3, 5, 0] rfl)
              · refine lv_iload_n hx hb dX0_judgeText_83 rfl (lv_at hl 1 rfl) ?_
                refine lv_if_eq (tgt := 91) hx hb dX0_judgeText_84 (by decide) (fun c_84 => ?_) (fun c_84 => ?_)
                · refine lv_iconst (v := 0) hx hb dX0_judgeText_91 (by decide) ?_
                  exact join92 V69 _ _ _ _ (by first | exact ((b2i_or eo ea2).1 c_80).symm | exact ((b2i_or eo ea2).2.1 c_80 c_84).symm | exact ((b2i_or eo ea2).2.2 c_80 c_84).symm) rfl hM hS (lv_sub hl [2, 3, 5, 0] rfl)
                · refine lv_iconst (v := 1) hx hb dX0_judgeText_87 (by decide) ?_
                  refine lv_goto (tgt := 92) hx hb dX0_judgeText_88 (by decide) ?_
                  exact join92 V69 _ _ _ _ (by first | exact ((b2i_or eo ea2).1 c_80).symm | exact ((b2i_or eo ea2).2.1 c_80 c_84).symm | exact ((b2i_or eo ea2).2.2 c_80 c_84).symm) rfl hM hS (lv_sub hl [2, 3, 5, 0] rfl)
          refine lv_if_eq (tgt := 50) hx hb dX0_judgeText_37 (by decide) (fun c_37 => ?_) (fun c_37 => ?_)
          · refine lv_iconst (v := 0) hx hb dX0_judgeText_50 (by decide) ?_
            exact join51 V23 _ _ _ _ (by first | exact ((b2i_and ea hz1).1 c_37).symm | exact ((b2i_and ea hz1).2.1 c_37 c_43).symm | exact ((b2i_and ea hz1).2.2 c_37 c_43).symm) rfl hM hS (lv_sub hl [1, 2, 3, 5] rfl)
          · refine lv_iload hx hb dX0_judgeText_40 (lv_at hl 0 rfl) ?_
            refine lv_iconst (v := 1) hx hb dX0_judgeText_42 (by decide) ?_
            refine lv_icmp_ne (tgt := 50) hx hb dX0_judgeText_43 (by decide) (fun c_43 => ?_) (fun c_43 => ?_)
            · refine lv_iconst (v := 0) hx hb dX0_judgeText_50 (by decide) ?_
              exact join51 V23 _ _ _ _ (by first | exact ((b2i_and ea hz1).1 c_37).symm | exact ((b2i_and ea hz1).2.1 c_37 c_43).symm | exact ((b2i_and ea hz1).2.2 c_37 c_43).symm) rfl hM hS (lv_sub hl [1, 2, 3, 5] rfl)
            · refine lv_iconst (v := 1) hx hb dX0_judgeText_46 (by decide) ?_
              refine lv_goto (tgt := 51) hx hb dX0_judgeText_47 (by decide) ?_
              exact join51 V23 _ _ _ _ (by first | exact ((b2i_and ea hz1).1 c_37).symm | exact ((b2i_and ea hz1).2.1 c_37 c_43).symm | exact ((b2i_and ea hz1).2.2 c_37 c_43).symm) rfl hM hS (lv_sub hl [1, 2, 3, 5] rfl)
        · have hno : tst (V 22) b p0 = none := by
            cases hq : tst (V 22) b p0 with
            | none => rfl
            | some z => obtain ⟨z1, z2⟩ := z; have h9 := (hp23.1 z1 z2 (by rw [e22]; exact hq)).1; rw [c_31] at h9; cases z1 <;> exact absurd h9 (by decide)
          refine lv_iconst (v := (-1)) hx hb dX0_judgeText_34 (by decide) ?_
          exact w_iret V23 hx hb hret hK hS hM (⟨by rw [← htx, show b.length + 1 - t = (b.length - t) + 1 by omega, txt_n hno], fun j hj => (hp23.2.2 j hj).trans (hf j hj)⟩) hlocks dX0_judgeText_35
  exact loop12 _ V6 _ _ _ 0 0 0 1 false true 0 (rfl) (Nat.zero_le _) (rfl) (rfl) (rfl) (Nat.le_refl _) (by subst hV6; rw [up2_s]; rfl) (fun i hi => by subst hV6; exact up2_k _ _ hi) (Nat.lt_succ_self _) hM hS (lv_sub hl [3, 4, 2, 1, 0] rfl)
