theorem sf3i {t : Int32} (h : in8 t = true) : sf 3 t.toNatClampNeg = some (25 + 60 * rj t) := by
  have := (in8_j h).1
  simp [sf, fxF, rj, this]
theorem sf1i {t : Int32} (h : in8 t = true) : sf 1 t.toNatClampNeg = some (564 + 2 * rj t) := by
  have := (in8_j h).1
  simp [sf, fxF, rj, this]
theorem vp8 {t : Int32} (h : in8 t = true) : vp_in t 8 := by
  have h1 := in8_j h
  rw [h1.2]; exact vp_in_nI h1.1 (by omega)
theorem wl_eq {l : List Int32} (h : l.length < 2 ^ 31) : inR (nI l.length) 1 60 = okW1 l := by
  unfold inR okW1
  congr 1
  · rw [decide_eq_decide, show (1 : Int32) = nI 1 from rfl, nI_ltI h (by omega)]; omega
  · rw [decide_eq_decide, show (60 : Int32) = nI 60 from rfl, nI_ltI (by omega) h]; omega
set_option maxHeartbeats 4000000 in
set_option maxRecDepth 100000 in
theorem c_X7_isRegister (l : Launch) {E : En} {V : Vt} (r : Int32) : CI l yX7_isRegister wsX7_isRegister 0 E V [.int r] (fun v V' => v = b2i (in8 r) ∧ V' = V) := by
  refine Met.ofW (cc := cX7_isRegister) (maxL := 1) (ret := (some .boolean)) (by decide) rfl ?_
  intro p e s m args below meth c s₁ B hml hv
  obtain ⟨rfl, hM, hK⟩ := hv
  have hx := B.exec
  have hb := B.bytes
  have hret := B.returns
  have hts := atoms_spec (ws := wsX7_isRegister) B.pre
  have hown : s.vm.findClass RX7 = some m.cls := findClass_of_methodNamed B.named
  have hlocks := B.notSynchronized
  have hsz : s.heap.size = E.1 + 610 := hM.1
  have hS : va_S (AE E) s.heap s.heap [] := va_S.rf
  have hl := lv_entry ([.int r]) (n := 1) (Nat.le_of_ble_eq_true rfl)
  rw [lg_entry_eq]
  generalize (lg_sl ([.int r]) ++ List.replicate (1 - (lg_sl ([.int r])).length) Slot.unset).toArray = ls at hl ⊢
  have hl : lv_has ls 1 [(0, .int r)] := hl
  refine lv_iload_n hx hb dX7_isRegister_0 rfl (lv_at hl 0 rfl) ?_
  refine lv_if_lt (tgt := 14) hx hb dX7_isRegister_1 (by decide) (fun c_1 => ?_) (fun c_1 => ?_)
  · refine lv_iconst (v := 0) hx hb dX7_isRegister_14 (by decide) ?_
    exact w_zret V hx hb hret hK hS hM (⟨by simp only [in8, b2i]; grind, rfl⟩) (rfl) hlocks dX7_isRegister_15
  · refine lv_iload_n hx hb dX7_isRegister_4 rfl (lv_at hl 0 rfl) ?_
    refine lv_bipush (v := 8) hx hb dX7_isRegister_5 (by decide) ?_
    refine lv_icmp_ge (tgt := 14) hx hb dX7_isRegister_7 (by decide) (fun c_7 => ?_) (fun c_7 => ?_)
    · refine lv_iconst (v := 0) hx hb dX7_isRegister_14 (by decide) ?_
      exact w_zret V hx hb hret hK hS hM (⟨by simp only [in8, b2i]; grind, rfl⟩) (rfl) hlocks dX7_isRegister_15
    · refine lv_iconst (v := 1) hx hb dX7_isRegister_10 (by decide) ?_
      refine lv_goto (tgt := 15) hx hb dX7_isRegister_11 (by decide) ?_
      exact w_zret V hx hb hret hK hS hM (⟨by simp only [in8, b2i]; grind, rfl⟩) (rfl) hlocks dX7_isRegister_15

set_option maxHeartbeats 4000000 in
set_option maxRecDepth 100000 in
theorem c_X7_isTokenNumber (l : Launch) {E : En} {V : Vt} (r : Int32) : CI l yX7_isTokenNumber wsX7_isTokenNumber 0 E V [.int r] (fun v V' => v = b2i (in8 r) ∧ V' = V) := by
  refine Met.ofW (cc := cX7_isTokenNumber) (maxL := 1) (ret := (some .boolean)) (by decide) rfl ?_
  intro p e s m args below meth c s₁ B hml hv
  obtain ⟨rfl, hM, hK⟩ := hv
  have hx := B.exec
  have hb := B.bytes
  have hret := B.returns
  have hts := atoms_spec (ws := wsX7_isTokenNumber) B.pre
  have hown : s.vm.findClass RX7 = some m.cls := findClass_of_methodNamed B.named
  have hlocks := B.notSynchronized
  have hsz : s.heap.size = E.1 + 610 := hM.1
  have hS : va_S (AE E) s.heap s.heap [] := va_S.rf
  have hl := lv_entry ([.int r]) (n := 1) (Nat.le_of_ble_eq_true rfl)
  rw [lg_entry_eq]
  generalize (lg_sl ([.int r]) ++ List.replicate (1 - (lg_sl ([.int r])).length) Slot.unset).toArray = ls at hl ⊢
  have hl : lv_has ls 1 [(0, .int r)] := hl
  refine lv_iload_n hx hb dX7_isTokenNumber_0 rfl (lv_at hl 0 rfl) ?_
  refine lv_if_lt (tgt := 14) hx hb dX7_isTokenNumber_1 (by decide) (fun c_1 => ?_) (fun c_1 => ?_)
  · refine lv_iconst (v := 0) hx hb dX7_isTokenNumber_14 (by decide) ?_
    exact w_zret V hx hb hret hK hS hM (⟨by simp only [in8, b2i]; grind, rfl⟩) (rfl) hlocks dX7_isTokenNumber_15
  · refine lv_iload_n hx hb dX7_isTokenNumber_4 rfl (lv_at hl 0 rfl) ?_
    refine lv_bipush (v := 8) hx hb dX7_isTokenNumber_5 (by decide) ?_
    refine lv_icmp_ge (tgt := 14) hx hb dX7_isTokenNumber_7 (by decide) (fun c_7 => ?_) (fun c_7 => ?_)
    · refine lv_iconst (v := 0) hx hb dX7_isTokenNumber_14 (by decide) ?_
      exact w_zret V hx hb hret hK hS hM (⟨by simp only [in8, b2i]; grind, rfl⟩) (rfl) hlocks dX7_isTokenNumber_15
    · refine lv_iconst (v := 1) hx hb dX7_isTokenNumber_10 (by decide) ?_
      refine lv_goto (tgt := 15) hx hb dX7_isTokenNumber_11 (by decide) ?_
      exact w_zret V hx hb hret hK hS hM (⟨by simp only [in8, b2i]; grind, rfl⟩) (rfl) hlocks dX7_isTokenNumber_15

set_option maxHeartbeats 4000000 in
set_option maxRecDepth 100000 in
theorem c_X7_isWidth (l : Launch) {E : En} {V : Vt} (r : Int32) : CI l yX7_isWidth wsX7_isWidth 0 E V [.int r] (fun v V' => v = b2i (inR r 1 8) ∧ V' = V) := by
  refine Met.ofW (cc := cX7_isWidth) (maxL := 1) (ret := (some .boolean)) (by decide) rfl ?_
  intro p e s m args below meth c s₁ B hml hv
  obtain ⟨rfl, hM, hK⟩ := hv
  have hx := B.exec
  have hb := B.bytes
  have hret := B.returns
  have hts := atoms_spec (ws := wsX7_isWidth) B.pre
  have hown : s.vm.findClass RX7 = some m.cls := findClass_of_methodNamed B.named
  have hlocks := B.notSynchronized
  have hsz : s.heap.size = E.1 + 610 := hM.1
  have hS : va_S (AE E) s.heap s.heap [] := va_S.rf
  have hl := lv_entry ([.int r]) (n := 1) (Nat.le_of_ble_eq_true rfl)
  rw [lg_entry_eq]
  generalize (lg_sl ([.int r]) ++ List.replicate (1 - (lg_sl ([.int r])).length) Slot.unset).toArray = ls at hl ⊢
  have hl : lv_has ls 1 [(0, .int r)] := hl
  refine lv_iload_n hx hb dX7_isWidth_0 rfl (lv_at hl 0 rfl) ?_
  refine lv_iconst (v := 1) hx hb dX7_isWidth_1 (by decide) ?_
  refine lv_icmp_lt (tgt := 15) hx hb dX7_isWidth_2 (by decide) (fun c_2 => ?_) (fun c_2 => ?_)
  · refine lv_iconst (v := 0) hx hb dX7_isWidth_15 (by decide) ?_
    exact w_zret V hx hb hret hK hS hM (⟨by simp only [inR, b2i]; grind, rfl⟩) (rfl) hlocks dX7_isWidth_16
  · refine lv_iload_n hx hb dX7_isWidth_5 rfl (lv_at hl 0 rfl) ?_
    refine lv_bipush (v := 8) hx hb dX7_isWidth_6 (by decide) ?_
    refine lv_icmp_gt (tgt := 15) hx hb dX7_isWidth_8 (by decide) (fun c_8 => ?_) (fun c_8 => ?_)
    · refine lv_iconst (v := 0) hx hb dX7_isWidth_15 (by decide) ?_
      exact w_zret V hx hb hret hK hS hM (⟨by simp only [inR, b2i]; grind, rfl⟩) (rfl) hlocks dX7_isWidth_16
    · refine lv_iconst (v := 1) hx hb dX7_isWidth_11 (by decide) ?_
      refine lv_goto (tgt := 16) hx hb dX7_isWidth_12 (by decide) ?_
      exact w_zret V hx hb hret hK hS hM (⟨by simp only [inR, b2i]; grind, rfl⟩) (rfl) hlocks dX7_isWidth_16

set_option maxHeartbeats 4000000 in
set_option maxRecDepth 100000 in
theorem c_X7_isByte (l : Launch) {E : En} {V : Vt} (r : Int32) : CI l yX7_isByte wsX7_isByte 0 E V [.int r] (fun v V' => v = b2i (inR r 0 255) ∧ V' = V) := by
  refine Met.ofW (cc := cX7_isByte) (maxL := 1) (ret := (some .boolean)) (by decide) rfl ?_
  intro p e s m args below meth c s₁ B hml hv
  obtain ⟨rfl, hM, hK⟩ := hv
  have hx := B.exec
  have hb := B.bytes
  have hret := B.returns
  have hts := atoms_spec (ws := wsX7_isByte) B.pre
  have hown : s.vm.findClass RX7 = some m.cls := findClass_of_methodNamed B.named
  have hlocks := B.notSynchronized
  have hsz : s.heap.size = E.1 + 610 := hM.1
  have hS : va_S (AE E) s.heap s.heap [] := va_S.rf
  have hl := lv_entry ([.int r]) (n := 1) (Nat.le_of_ble_eq_true rfl)
  rw [lg_entry_eq]
  generalize (lg_sl ([.int r]) ++ List.replicate (1 - (lg_sl ([.int r])).length) Slot.unset).toArray = ls at hl ⊢
  have hl : lv_has ls 1 [(0, .int r)] := hl
  refine lv_iload_n hx hb dX7_isByte_0 rfl (lv_at hl 0 rfl) ?_
  refine lv_if_lt (tgt := 15) hx hb dX7_isByte_1 (by decide) (fun c_1 => ?_) (fun c_1 => ?_)
  · refine lv_iconst (v := 0) hx hb dX7_isByte_15 (by decide) ?_
    exact w_zret V hx hb hret hK hS hM (⟨by simp only [inR, b2i]; grind, rfl⟩) (rfl) hlocks dX7_isByte_16
  · refine lv_iload_n hx hb dX7_isByte_4 rfl (lv_at hl 0 rfl) ?_
    refine lv_sipush (v := 255) hx hb dX7_isByte_5 (by decide) ?_
    refine lv_icmp_gt (tgt := 15) hx hb dX7_isByte_8 (by decide) (fun c_8 => ?_) (fun c_8 => ?_)
    · refine lv_iconst (v := 0) hx hb dX7_isByte_15 (by decide) ?_
      exact w_zret V hx hb hret hK hS hM (⟨by simp only [inR, b2i]; grind, rfl⟩) (rfl) hlocks dX7_isByte_16
    · refine lv_iconst (v := 1) hx hb dX7_isByte_11 (by decide) ?_
      refine lv_goto (tgt := 16) hx hb dX7_isByte_12 (by decide) ?_
      exact w_zret V hx hb hret hK hS hM (⟨by simp only [inR, b2i]; grind, rfl⟩) (rfl) hlocks dX7_isByte_16

set_option maxHeartbeats 4000000 in
set_option maxRecDepth 100000 in
theorem c_X7_isWordingLength (l : Launch) {E : En} {V : Vt} (r : Int32) : CI l yX7_isWordingLength wsX7_isWordingLength 0 E V [.int r] (fun v V' => v = b2i (inR r 1 60) ∧ V' = V) := by
  refine Met.ofW (cc := cX7_isWordingLength) (maxL := 1) (ret := (some .boolean)) (by decide) rfl ?_
  intro p e s m args below meth c s₁ B hml hv
  obtain ⟨rfl, hM, hK⟩ := hv
  have hx := B.exec
  have hb := B.bytes
  have hret := B.returns
  have hts := atoms_spec (ws := wsX7_isWordingLength) B.pre
  have hown : s.vm.findClass RX7 = some m.cls := findClass_of_methodNamed B.named
  have hlocks := B.notSynchronized
  have hsz : s.heap.size = E.1 + 610 := hM.1
  have hS : va_S (AE E) s.heap s.heap [] := va_S.rf
  have hl := lv_entry ([.int r]) (n := 1) (Nat.le_of_ble_eq_true rfl)
  rw [lg_entry_eq]
  generalize (lg_sl ([.int r]) ++ List.replicate (1 - (lg_sl ([.int r])).length) Slot.unset).toArray = ls at hl ⊢
  have hl : lv_has ls 1 [(0, .int r)] := hl
  refine lv_iload_n hx hb dX7_isWordingLength_0 rfl (lv_at hl 0 rfl) ?_
  refine lv_iconst (v := 1) hx hb dX7_isWordingLength_1 (by decide) ?_
  refine lv_icmp_lt (tgt := 15) hx hb dX7_isWordingLength_2 (by decide) (fun c_2 => ?_) (fun c_2 => ?_)
  · refine lv_iconst (v := 0) hx hb dX7_isWordingLength_15 (by decide) ?_
    exact w_zret V hx hb hret hK hS hM (⟨by simp only [inR, b2i]; grind, rfl⟩) (rfl) hlocks dX7_isWordingLength_16
  · refine lv_iload_n hx hb dX7_isWordingLength_5 rfl (lv_at hl 0 rfl) ?_
    refine lv_bipush (v := 60) hx hb dX7_isWordingLength_6 (by decide) ?_
    refine lv_icmp_gt (tgt := 15) hx hb dX7_isWordingLength_8 (by decide) (fun c_8 => ?_) (fun c_8 => ?_)
    · refine lv_iconst (v := 0) hx hb dX7_isWordingLength_15 (by decide) ?_
      exact w_zret V hx hb hret hK hS hM (⟨by simp only [inR, b2i]; grind, rfl⟩) (rfl) hlocks dX7_isWordingLength_16
    · refine lv_iconst (v := 1) hx hb dX7_isWordingLength_11 (by decide) ?_
      refine lv_goto (tgt := 16) hx hb dX7_isWordingLength_12 (by decide) ?_
      exact w_zret V hx hb hret hK hS hM (⟨by simp only [inR, b2i]; grind, rfl⟩) (rfl) hlocks dX7_isWordingLength_16

set_option maxHeartbeats 4000000 in
set_option maxRecDepth 100000 in
theorem c_X7_isThere (l : Launch) {E : En} {V : Vt} {σ : St} (hC : cTok V σ) (t : Int32) : CI l yX7_isThere wsX7_isThere 1 E V [.ref (E.1 + 0), .int t] (fun v V' => v = b2i (thr σ t).isSome ∧ V' = V) := by
  refine Met.ofW (cc := cX7_isThere) (maxL := 2) (ret := (some .boolean)) (by decide) rfl ?_
  intro p e s m args below meth c s₁ B hml hv
  obtain ⟨rfl, hM, hK⟩ := hv
  have hx := B.exec
  have hb := B.bytes
  have hret := B.returns
  have hts := atoms_spec (ws := wsX7_isThere) B.pre
  have hown : s.vm.findClass RX7 = some m.cls := findClass_of_methodNamed B.named
  have hlocks := B.notSynchronized
  have hsz : s.heap.size = E.1 + 610 := hM.1
  have hS : va_S (AE E) s.heap s.heap [] := va_S.rf
  have in6 : ∀ w ∈ u_ws RX6 TX6 5, w ∈ wsX7_isThere := by decide +kernel
  have in7 : ∀ w ∈ u_ws RX7 TX7 9, w ∈ wsX7_isThere := by decide +kernel
  have k40 := hts (.fieldLink RX7 40 "LimitTokens" "tokens" "[LLimitTokens$Token;") (by decide +kernel)
  have k106 := hts (.fieldLink RX7 106 "LimitTokens$Token" "there" "Z") (by decide +kernel)
  have hl := lv_entry ([.ref (E.1 + 0), .int t]) (n := 2) (Nat.le_of_ble_eq_true rfl)
  rw [lg_entry_eq]
  generalize (lg_sl ([.ref (E.1 + 0), .int t]) ++ List.replicate (2 - (lg_sl ([.ref (E.1 + 0), .int t])).length) Slot.unset).toArray = ls at hl ⊢
  have hl : lv_has ls 2 [(0, .ref (E.1 + 0)), (1, .int t)] := hl
  refine lv_iload_n hx hb dX7_isThere_0 rfl (lv_at hl 1 rfl) ?_
  refine w_cSi (As := [.int t]) (rest := []) ⟨hx, hb, hml, hown, hts⟩ (c_X7_isTokenNumber l t) (va_cwS 1 hts gX7_isThere_X7_isTokenNumber rfl rfl rfl (by decide +kernel) ⟨Nat.le_of_ble_eq_true rfl, Nat.le_of_ble_eq_true rfl⟩) hM hK hS rfl hl.1 rfl (lv_room (Nat.le_of_ble_eq_true rfl)) dX7_isThere_1 ⟨Nat.le_of_ble_eq_true rfl, Nat.le_of_ble_eq_true rfl⟩ (fun r1 V1 H locs hp1 hM hS => ?_)
  obtain ⟨er1, eV⟩ := hp1
  rw [eV] at hM; clear eV
  refine lv_if_eq (tgt := 23) hx hb dX7_isThere_4 (by decide) (fun c_4 => ?_) (fun c_4 => ?_)
  · have i1 : in8 t = false := b2i_eq0 (by rw [← er1]; exact c_4)
    refine lv_iconst (v := 0) hx hb dX7_isThere_23 (by decide) ?_
    exact w_zret V hx hb hret hK hS hM (⟨by first | (unfold thr; rw [i1]; rfl) | (unfold thr; rw [if_pos i1]; (first | rw [← hb0, c_16] | (rw [← hb0]; rw [hb0] at c_16 ⊢; rw [b2i_ne0 c_16]; rfl))), rfl⟩) (rfl) hlocks dX7_isThere_24
  · have i1 : in8 t = true := b2i_ne0 (by rw [← er1]; exact c_4)
    obtain ⟨ht, et⟩ := in8_j i1
    have hb0 := (hC (rj t) ht).b
    refine lv_aload_n hx hb dX7_isThere_7 rfl (lv_at hl 0 rfl) ?_
    refine w_gr 7 4 3 (T := TX7) (N := 9) hx hb hts in7 hown hK.1 hM (by decide) (by decide) (by decide) (by decide) (by decide) rfl (by decide) k40 rfl dX7_isThere_8 ?_
    refine lv_iload_n hx hb dX7_isThere_11 rfl (lv_at hl 1 rfl) ?_
    refine w_ald (N := 8) 4 hx hb hK.1 hM (by decide) (by first | rfl | (rw [(by decide)]; rfl)) (by first | decide | (rw [(by decide)]; decide)) (by decide) (vp8 i1) (25 + 60 * (rj t)) (sf3i i1) dX7_isThere_12 ?_
    refine w_gi 6 4 (T := TX6) (N := 5) hx hb hts in6 hown hK.1 hM (tok_t ht).lt (tok_t ht).k (tok_t ht).n (tok_t ht).f4 (by decide) rfl (by decide) k106 rfl dX7_isThere_13 ?_
    refine lv_if_eq (tgt := 23) hx hb dX7_isThere_16 (by decide) (fun c_16 => ?_) (fun c_16 => ?_)
    · refine lv_iconst (v := 0) hx hb dX7_isThere_23 (by decide) ?_
      exact w_zret V hx hb hret hK hS hM (⟨by first | (unfold thr; rw [i1]; rfl) | (unfold thr; rw [if_pos i1]; (first | rw [← hb0, c_16] | (rw [← hb0]; rw [hb0] at c_16 ⊢; rw [b2i_ne0 c_16]; rfl))), rfl⟩) (rfl) hlocks dX7_isThere_24
    · refine lv_iconst (v := 1) hx hb dX7_isThere_19 (by decide) ?_
      refine lv_goto (tgt := 24) hx hb dX7_isThere_20 (by decide) ?_
      exact w_zret V hx hb hret hK hS hM (⟨by first | (unfold thr; rw [i1]; rfl) | (unfold thr; rw [if_pos i1]; (first | rw [← hb0, c_16] | (rw [← hb0]; rw [hb0] at c_16 ⊢; rw [b2i_ne0 c_16]; rfl))), rfl⟩) (rfl) hlocks dX7_isThere_24

set_option maxHeartbeats 4000000 in
set_option maxRecDepth 100000 in
theorem c_X7_areThere (l : Launch) {E : En} {V : Vt} {σ : St} (hC : cTok V σ) (h : Int32) : CI l yX7_areThere wsX7_areThere 0 E V [.ref (E.1 + 0), .int h] (fun v V' => v = b2i (areT σ h) ∧ V' = V) := by
  refine Met.ofW (cc := cX7_areThere) (maxL := 3) (ret := (some .boolean)) (by decide) rfl ?_
  intro p e s m args below meth c s₁ B hml hv
  obtain ⟨rfl, hM, hK⟩ := hv
  have hx := B.exec
  have hb := B.bytes
  have hret := B.returns
  have hts := atoms_spec (ws := wsX7_areThere) B.pre
  have hown : s.vm.findClass RX7 = some m.cls := findClass_of_methodNamed B.named
  have hlocks := B.notSynchronized
  have hsz : s.heap.size = E.1 + 610 := hM.1
  have hS : va_S (AE E) s.heap s.heap [] := va_S.rf
  have in6 : ∀ w ∈ u_ws RX6 TX6 5, w ∈ wsX7_areThere := by decide +kernel
  have in7 : ∀ w ∈ u_ws RX7 TX7 9, w ∈ wsX7_areThere := by decide +kernel
  have k40 := hts (.fieldLink RX7 40 "LimitTokens" "tokens" "[LLimitTokens$Token;") (by decide +kernel)
  have k106 := hts (.fieldLink RX7 106 "LimitTokens$Token" "there" "Z") (by decide +kernel)
  have hl := lv_entry ([.ref (E.1 + 0), .int h]) (n := 3) (Nat.le_of_ble_eq_true rfl)
  rw [lg_entry_eq]
  generalize (lg_sl ([.ref (E.1 + 0), .int h]) ++ List.replicate (3 - (lg_sl ([.ref (E.1 + 0), .int h])).length) Slot.unset).toArray = ls at hl ⊢
  have hl : lv_has ls 3 [(0, .ref (E.1 + 0)), (1, .int h)] := hl
  refine lv_iload_n hx hb dX7_areThere_0 rfl (lv_at hl 1 rfl) ?_
  refine lv_if_lt (tgt := 11) hx hb dX7_areThere_1 (by decide) (fun c_1 => ?_) (fun c_1 => ?_)
  · have i1 : inR h 0 255 = false := by simp only [inR]; grind
    refine lv_iconst (v := 0) hx hb dX7_areThere_11 (by decide) ?_
    exact w_zret V hx hb hret hK hS hM (⟨by unfold areT; rw [i1]; rfl, rfl⟩) (rfl) hlocks dX7_areThere_12
  · refine lv_iload_n hx hb dX7_areThere_4 rfl (lv_at hl 1 rfl) ?_
    refine lv_sipush (v := 256) hx hb dX7_areThere_5 (by decide) ?_
    refine lv_icmp_lt (tgt := 13) hx hb dX7_areThere_8 (by decide) (fun c_8 => ?_) (fun c_8 => ?_)
    · have i1 : inR h 0 255 = true := by simp only [inR]; grind
      obtain ⟨-, hm, eh⟩ := inR_j i1 (m := 0) (n := 255) rfl rfl (by omega) (by omega)
      refine lv_iconst (v := 0) hx hb dX7_areThere_13 (by decide) ?_
      refine lv_istore_n (lv' := [(2, .int 0), (0, .ref (E.1 + 0)), (1, .int h)]) hx hb dX7_areThere_14 rfl hl (by decide) rfl (fun ls hl => ?_)
      have loop15 : ∀ (fu : Nat) (Vw : Vt) (H : Heap) (locs : List Loc) (ls : Array Slot) (j : Nat) (x : Int32) (ex : x = nI j) (hj : j ≤ 8) (eV : Vw = V) (hal : ∀ t, t < j → (!(rj h).testBit t || (σ.2.1 t).isSome) = true), 8 - j < fu → Wd E Vw H → va_S (AE E) s.heap H locs → lv_has ls 3 [(0, .ref (E.1 + 0)), (1, .int h), (2, .int x)] → W p l e (headSpec wsX7_areThere (rmD 0)).room s m ([.ref (E.1 + 0), .int h] : List Value).toArray below meth c H locs 0 0 (MQ below (QI E (fun V' => Wd E V') (fun v V' => v = b2i (areT σ h) ∧ V' = V)) ([.ref (E.1 + 0), .int h] : List Value).toArray s 0 0 (AE E)) (F0 m 15 ls []) := by
        intro fu
        induction fu with
        | zero => intros; omega
        | succ fu ih =>
          intro Vw H locs ls j x ex hj eV hal hfu hM hS hl
          refine lv_iload_n hx hb dX7_areThere_15 rfl (lv_at hl 2 rfl) ?_
          refine lv_bipush (v := 8) hx hb dX7_areThere_16 (by decide) ?_
          refine lv_icmp_ge (tgt := 50) hx hb dX7_areThere_18 (by decide) (fun c_18 => ?_) (fun c_18 => ?_)
          · refine lv_iconst (v := 1) hx hb dX7_areThere_50 (by decide) ?_
            exact w_zret Vw hx hb hret hK hS hM (⟨by (have := nI_lei (a := 8) ex c_18 (by omega) (by omega)); (unfold areT; rw [i1, Bool.true_and]; rw [show (List.range 8).all (fun t => !(rj h).testBit t || (σ.2.1 t).isSome) = true from by rw [List.all_eq_true]; exact fun t ht => hal t (by have := List.mem_range.mp ht; omega)]; rfl), eV⟩) (rfl) hlocks dX7_areThere_51
          · have hlt := nI_ltn (a := 8) ex c_18 (by omega) (by omega)
            have hb0 := (hC j hlt).b
            have hbt : (h >>> (x &&& 31)) &&& 1 = (if (rj h).testBit j then 1 else 0) := by
              have q9 := bit_at (rj h) (by omega) j hlt
              rw [← eh, ← ex] at q9; exact q9
            refine lv_iload_n hx hb dX7_areThere_21 rfl (lv_at hl 1 rfl) ?_
            refine lv_iload_n hx hb dX7_areThere_22 rfl (lv_at hl 2 rfl) ?_
            refine lv_ishr hx hb dX7_areThere_23 ?_
            refine lv_iconst (v := 1) hx hb dX7_areThere_24 (by decide) ?_
            refine lv_iand hx hb dX7_areThere_25 ?_
            refine lv_iconst (v := 1) hx hb dX7_areThere_26 (by decide) ?_
            refine lv_icmp_ne (tgt := 44) hx hb dX7_areThere_27 (by decide) (fun c_27 => ?_) (fun c_27 => ?_)
            · obtain ⟨x2_44, ex2_44⟩ : ∃ y : Int32, y = x + 1 := ⟨_, rfl⟩
              refine lv_iinc (v := x2_44) (lv' := [(2, .int x2_44), (0, .ref (E.1 + 0)), (1, .int h)]) hx hb dX7_areThere_44 hl (k := 2) rfl (by rw [ex2_44]; rfl) (by decide) rfl (fun ls hl => ?_)
              refine lv_goto (tgt := 15) hx hb dX7_areThere_47 (by decide) ?_
              exact ih Vw _ _ _ (j + 1) _ (by rw [ex2_44, ex, nI_1]) (by omega) eV (lt_s hal (by first | (rw [hbt] at c_27; rw [Bool.or_eq_true]; exact Or.inl (by by_cases q : (rj h).testBit j = true; (rw [if_pos q] at c_27; exact absurd rfl c_27); (simp at q; simp [q]))) | (rw [Bool.or_eq_true]; exact Or.inr (b2i_ne0 (by rw [← hb0, ← eV]; exact c_39))))) (by omega) hM hS (lv_sub hl [1, 2, 0] rfl)
            · refine lv_aload_n hx hb dX7_areThere_30 rfl (lv_at hl 0 rfl) ?_
              refine w_gr 7 4 3 (T := TX7) (N := 9) hx hb hts in7 hown hK.1 hM (by decide) (by decide) (by decide) (by decide) (by decide) rfl (by decide) k40 rfl dX7_areThere_31 ?_
              refine lv_iload_n hx hb dX7_areThere_34 rfl (lv_at hl 2 rfl) ?_
              refine w_ald (N := 8) 4 hx hb hK.1 hM (by decide) (by first | rfl | (rw [(by decide)]; rfl)) (by first | decide | (rw [(by decide)]; decide)) (by decide) (by rw [ex]; exact vp_in_nI hlt (by omega)) (25 + 60 * j) (by rw [ex]; exact sf_3 hlt) dX7_areThere_35 ?_
              refine w_gi 6 4 (T := TX6) (N := 5) hx hb hts in6 hown hK.1 hM ((tok_t hlt)).lt ((tok_t hlt)).k ((tok_t hlt)).n ((tok_t hlt)).f4 (by decide) rfl (by decide) k106 rfl dX7_areThere_36 ?_
              refine lv_if_ne (tgt := 44) hx hb dX7_areThere_39 (by decide) (fun c_39 => ?_) (fun c_39 => ?_)
              · obtain ⟨x2_44, ex2_44⟩ : ∃ y : Int32, y = x + 1 := ⟨_, rfl⟩
                refine lv_iinc (v := x2_44) (lv' := [(2, .int x2_44), (0, .ref (E.1 + 0)), (1, .int h)]) hx hb dX7_areThere_44 hl (k := 2) rfl (by rw [ex2_44]; rfl) (by decide) rfl (fun ls hl => ?_)
                refine lv_goto (tgt := 15) hx hb dX7_areThere_47 (by decide) ?_
                exact ih Vw _ _ _ (j + 1) _ (by rw [ex2_44, ex, nI_1]) (by omega) eV (lt_s hal (by first | (rw [hbt] at c_27; rw [Bool.or_eq_true]; exact Or.inl (by by_cases q : (rj h).testBit j = true; (rw [if_pos q] at c_27; exact absurd rfl c_27); (simp at q; simp [q]))) | (rw [Bool.or_eq_true]; exact Or.inr (b2i_ne0 (by rw [← hb0, ← eV]; exact c_39))))) (by omega) hM hS (lv_sub hl [1, 2, 0] rfl)
              · refine lv_iconst (v := 0) hx hb dX7_areThere_42 (by decide) ?_
                exact w_zret Vw hx hb hret hK hS hM (⟨by (have q1 : (rj h).testBit j = true := by (rw [hbt] at c_27; by_cases q : (rj h).testBit j = true; (exact q); (rw [if_neg q] at c_27; exact absurd c_27 (by decide)))); (have q2 : (σ.2.1 j).isSome = false := b2i_eq0 (by rw [← hb0, ← eV]; exact c_39)); (unfold areT; rw [i1, Bool.true_and]; rw [show (List.range 8).all (fun t => !(rj h).testBit t || (σ.2.1 t).isSome) = false from by rw [List.all_eq_false]; exact ⟨j, List.mem_range.mpr hlt, by simp [q1, q2]⟩]; rfl), eV⟩) (rfl) hlocks dX7_areThere_43
      exact loop15 _ V _ _ _ 0 0 (rfl) (Nat.zero_le _) (rfl) (lt_0) (Nat.lt_succ_self _) hM hS (lv_sub hl [1, 2, 0] rfl)
    · have i1 : inR h 0 255 = false := by simp only [inR]; grind
      refine lv_iconst (v := 0) hx hb dX7_areThere_11 (by decide) ?_
      exact w_zret V hx hb hret hK hS hM (⟨by unfold areT; rw [i1]; rfl, rfl⟩) (rfl) hlocks dX7_areThere_12

set_option maxHeartbeats 4000000 in
set_option maxRecDepth 100000 in
theorem c_X7_pushLowest (l : Launch) {E : En} {V : Vt} {k cap : Nat} (hk : isRow k cap) {l0 : List Int32} (hr0 : rowIs V k l0) (hl0 : l0.length ≤ cap) {n : Nat} (hn : n ≤ 8) (w : Int64) : CI l yX7_pushLowest wsX7_pushLowest 1 E V [.ref (E.1 + k), .int (nI n), .long w] (fun v V' => (l0.length + n ≤ cap ∧ v = nI (l0.length + n) ∧ rowIs V' k (l0 ++ lowB w n) ∧ frR V V' k) ∨ (cap < l0.length + n ∧ v = -3 ∧ V' = V)) := by
  refine Met.ofW (cc := cX7_pushLowest) (maxL := 5) (ret := (some .int)) (by decide) rfl ?_
  intro p e s m args below meth c s₁ B hml hv
  obtain ⟨rfl, hM, hK⟩ := hv
  have hx := B.exec
  have hb := B.bytes
  have hret := B.returns
  have hts := atoms_spec (ws := wsX7_pushLowest) B.pre
  have hown : s.vm.findClass RX7 = some m.cls := findClass_of_methodNamed B.named
  have hlocks := B.notSynchronized
  have hsz : s.heap.size = E.1 + 610 := hM.1
  have hS : va_S (AE E) s.heap s.heap [] := va_S.rf
  have in3 : ∀ w ∈ u_ws RX3 TX3 2, w ∈ wsX7_pushLowest := by decide +kernel
  have k79 := hts (.fieldLink RX7 79 "LimitTokens$Row" "length" "I") (by decide +kernel)
  have hl := lv_entry ([.ref (E.1 + k), .int (nI n), .long w]) (n := 5) (Nat.le_of_ble_eq_true rfl)
  rw [lg_entry_eq]
  generalize (lg_sl ([.ref (E.1 + k), .int (nI n), .long w]) ++ List.replicate (5 - (lg_sl ([.ref (E.1 + k), .int (nI n), .long w])).length) Slot.unset).toArray = ls at hl ⊢
  have hl : lv_has ls 5 [(0, .ref (E.1 + k)), (1, .int (nI n)), (2, .long w)] := hl
  have hcap := hk.cap
  have hrm : (nI n ≤ nI cap - V k 1) ↔ l0.length + n ≤ cap := by
    rw [hr0.1, pk_sub hl0, nI_leI (by omega) (by omega)]; omega
  refine lv_aload_n hx hb dX7_pushLowest_0 rfl (lv_at hl 0 rfl) ?_
  refine lv_iload_n hx hb dX7_pushLowest_1 rfl (lv_at hl 1 rfl) ?_
  refine w_cVi (C := RX3) (As := [.int (nI n)]) (rest := []) ⟨hx, hb, hml, hown, hts⟩ (c_X3_hasRoomFor l hk (nI n)) (cwV 1 hts gX7_pushLowest_X3_hasRoomFor rfl rfl rfl (by decide +kernel) ⟨Nat.le_of_ble_eq_true rfl, Nat.le_of_ble_eq_true rfl⟩) (w_recv (ci := 3) hK hM (hk).lt (hk).k (by decide) rfl) hM hK hS rfl hl.1 rfl (lv_room (Nat.le_of_ble_eq_true rfl)) dX7_pushLowest_2 ⟨Nat.le_of_ble_eq_true rfl, Nat.le_of_ble_eq_true rfl⟩ (fun r2 V2 H locs hp2 hM hS => ?_)
  obtain ⟨er2, eV⟩ := hp2
  rw [eV] at hM; clear eV
  refine lv_if_ne (tgt := 11) hx hb dX7_pushLowest_5 (by decide) (fun c_5 => ?_) (fun c_5 => ?_)
  · have hfit : l0.length + n ≤ cap := by by_cases q : l0.length + n ≤ cap; (exact q); (rw [er2, if_neg (fun z => q (hrm.mp z))] at c_5; exact absurd rfl c_5)
    refine lv_iconst (v := 0) hx hb dX7_pushLowest_11 (by decide) ?_
    refine lv_istore (lv' := [(4, .int 0), (0, .ref (E.1 + k)), (1, .int (nI n)), (2, .long w)]) hx hb dX7_pushLowest_12 hl (by decide) rfl (fun ls hl => ?_)
    have loop14 : ∀ (fu : Nat) (Vw : Vt) (H : Heap) (locs : List Loc) (ls : Array Slot) (j : Nat) (hj : j ≤ n) (hr : rowIs Vw k (l0 ++ lowB w j)) (hf : frR V Vw k), n - j < fu → Wd E Vw H → va_S (AE E) s.heap H locs → lv_has ls 5 [(0, .ref (E.1 + k)), (1, .int (nI n)), (2, .long w), (4, .int (nI j))] → W p l e (headSpec wsX7_pushLowest (rmD 1)).room s m ([.ref (E.1 + k), .int (nI n), .long w] : List Value).toArray below meth c H locs 0 0 (MQ below (QI E (fun V' => Wd E V') (fun v V' => (l0.length + n ≤ cap ∧ v = nI (l0.length + n) ∧ rowIs V' k (l0 ++ lowB w n) ∧ frR V V' k) ∨ (cap < l0.length + n ∧ v = -3 ∧ V' = V))) ([.ref (E.1 + k), .int (nI n), .long w] : List Value).toArray s 0 0 (AE E)) (F0 m 14 ls []) := by
      intro fu
      induction fu with
      | zero => intros; omega
      | succ fu ih =>
        intro Vw H locs ls j hj hr hf hfu hM hS hl
        refine lv_iload hx hb dX7_pushLowest_14 (lv_at hl 3 rfl) ?_
        refine lv_iload_n hx hb dX7_pushLowest_16 rfl (lv_at hl 1 rfl) ?_
        refine lv_icmp_ge (tgt := 42) hx hb dX7_pushLowest_17 (by decide) (fun c_17 => ?_) (fun c_17 => ?_)
        · refine lv_aload_n hx hb dX7_pushLowest_42 rfl (lv_at hl 0 rfl) ?_
          refine w_gi 3 1 (T := TX3) (N := 2) hx hb hts in3 hown hK.1 hM (hk).lt (hk).k (hk).n (hk).f1 (by decide) rfl (by decide) k79 rfl dX7_pushLowest_43 ?_
          have q : (Vw k 1 : Int32) = nI (l0 ++ lowB w j).length := hr.1
          refine lv_eqi q ?_
          exact w_iret Vw hx hb hret hK hS hM (by have := nI_lei rfl c_17 (by omega) (by omega); have hjn : j = n := (by omega); subst hjn; exact Or.inl ⟨hfit, (by rw [List.length_append, lowB_len]), hr, hf⟩) hlocks dX7_pushLowest_46
        · have hlt := nI_ltn rfl c_17 (by omega) (by omega)
          refine lv_aload_n hx hb dX7_pushLowest_20 rfl (lv_at hl 0 rfl) ?_
          refine lv_lload_n hx hb dX7_pushLowest_21 rfl (lv_at hl 2 rfl) ?_
          refine lv_bipush (v := 8) hx hb dX7_pushLowest_22 (by decide) ?_
          refine lv_iload hx hb dX7_pushLowest_24 (lv_at hl 3 rfl) ?_
          refine lv_imul hx hb dX7_pushLowest_26 ?_
          refine lv_lushr hx hb dX7_pushLowest_27 rfl ?_
          refine lv_l2i hx hb dX7_pushLowest_28 rfl ?_
          refine lv_sipush (v := 255) hx hb dX7_pushLowest_29 (by decide) ?_
          refine lv_iand hx hb dX7_pushLowest_32 ?_
          have q : ((((w.toUInt64 >>> ((8 * (nI j)).toInt64.toUInt64 &&& Int64.toUInt64 63)).toInt64).toInt32) &&& 255 : Int32) = lo8 w j := rfl
          refine lv_eqi q ?_
          refine w_cVv (C := RX3) (As := [.int (lo8 w j)]) (rest := []) ⟨hx, hb, hml, hown, hts⟩ (c_X3_push l hk hr (by rw [List.length_append, lowB_len]; omega) (lo8 w j)) (cwV 1 hts gX7_pushLowest_X3_push rfl rfl rfl (by decide +kernel) ⟨Nat.le_of_ble_eq_true rfl, Nat.le_of_ble_eq_true rfl⟩) (w_recv (ci := 3) hK hM (hk).lt (hk).k (by decide) rfl) hM hK hS rfl hl.1 rfl (lv_room (Nat.le_of_ble_eq_true rfl)) dX7_pushLowest_33 ⟨Nat.le_of_ble_eq_true rfl, Nat.le_of_ble_eq_true rfl⟩ (fun V33 H locs hp33 hM hS => ?_)
          obtain ⟨x4_36, ex4_36⟩ : ∃ y : Int32, y = (nI j) + 1 := ⟨_, rfl⟩
          refine lv_iinc (v := x4_36) (lv' := [(4, .int x4_36), (0, .ref (E.1 + k)), (1, .int (nI n)), (2, .long w)]) hx hb dX7_pushLowest_36 hl (k := 3) rfl (by rw [ex4_36]; rfl) (by decide) rfl (fun ls hl => ?_)
          refine lv_goto (tgt := 14) hx hb dX7_pushLowest_39 (by decide) ?_
          subst ex4_36
          rw [nI_1] at hl
          exact ih V33 _ _ _ (j + 1) (by omega) (by rw [lowB_s, ← List.append_assoc]; exact hp33.1) (hf.trans hp33.2) (by omega) hM hS (lv_sub hl [1, 2, 3, 0] rfl)
    exact loop14 _ V _ _ _ 0 (Nat.zero_le _) (by simpa [lowB] using hr0) (frR.rf) (Nat.lt_succ_self _) hM hS (lv_sub hl [1, 2, 3, 0] rfl)
  · have hno : cap < l0.length + n := by by_cases q : l0.length + n ≤ cap; (rw [er2, if_pos (hrm.mpr q)] at c_5; exact absurd c_5 (by decide)); omega
    refine lv_bipush (v := (-3)) hx hb dX7_pushLowest_8 (by decide) ?_
    exact w_iret V hx hb hret hK hS hM (Or.inr ⟨hno, rfl, rfl⟩) hlocks dX7_pushLowest_10

set_option maxHeartbeats 4000000 in
set_option maxRecDepth 100000 in
theorem c_X2_compareSign (l : Launch) {E : En} {V : Vt} {tk : Nat → Tk} {D : Nat → Bool} (hE : tkE V tk D) {pt : Nat} (hpt : V 2 5 = nI pt) (hpt8 : pt < 8) (hDp : D pt = true) {s0 : List Int32} (hs : rowIs V (81 + 60 * 0) s0) (hsl : s0.length = 32) : CV l yX2_compareSign wsX2_compareSign 1 E V [.ref (E.1 + 2)] (fun V' => ((s0 = (tk pt).2.1 ∧ V' = V) ∨ (¬ s0 = (tk pt).2.1 ∧ V' 2 7 = 5 ∧ V' 2 8 = nI pt ∧ V' 2 9 = nI (tk pt).2.2.length ∧ V' 2 10 = V 2 10)) ∧ ∀ j, j ≠ 2 → V' j = V j) := by
  refine Met.ofW (cc := cX2_compareSign) (maxL := 1) (ret := none) (by decide) rfl ?_
  intro p e s m args below meth c s₁ B hml hv
  obtain ⟨rfl, hM, hK⟩ := hv
  have hx := B.exec
  have hb := B.bytes
  have hret := B.returns
  have hts := atoms_spec (ws := wsX2_compareSign) B.pre
  have hown : s.vm.findClass RX2 = some m.cls := findClass_of_methodNamed B.named
  have hlocks := B.notSynchronized
  have hsz : s.heap.size = E.1 + 610 := hM.1
  have hS : va_S (AE E) s.heap s.heap [] := va_S.rf
  have in2 : ∀ w ∈ u_ws RX2 TX2 11, w ∈ wsX2_compareSign := by decide +kernel
  have in6 : ∀ w ∈ u_ws RX6 TX6 5, w ∈ wsX2_compareSign := by decide +kernel
  have k33 := hts (.fieldLink RX2 33 "LimitTokens$Prover" "signs" "[LLimitTokens$Row;") (by decide +kernel)
  have k11 := hts (.fieldLink RX2 11 "LimitTokens$Prover" "tokens" "[LLimitTokens$Token;") (by decide +kernel)
  have k54 := hts (.fieldLink RX2 54 "LimitTokens$Prover" "proved" "I") (by decide +kernel)
  have k91 := hts (.fieldLink RX2 91 "LimitTokens$Token" "sign" "LLimitTokens$Row;") (by decide +kernel)
  have k71 := hts (.fieldLink RX2 71 "LimitTokens$Token" "count" "I") (by decide +kernel)
  have hl := lv_entry ([.ref (E.1 + 2)]) (n := 1) (Nat.le_of_ble_eq_true rfl)
  rw [lg_entry_eq]
  generalize (lg_sl ([.ref (E.1 + 2)]) ++ List.replicate (1 - (lg_sl ([.ref (E.1 + 2)])).length) Slot.unset).toArray = ls at hl ⊢
  have hl : lv_has ls 1 [(0, .ref (E.1 + 2))] := hl
  obtain ⟨htp, hokp⟩ := hE.1 pt hpt8 hDp
  refine lv_aload_n hx hb dX2_compareSign_0 rfl (lv_at hl 0 rfl) ?_
  refine w_gr 2 3 23 (T := TX2) (N := 11) hx hb hts in2 hown hK.1 hM (by decide) (by decide) (by decide) (by decide) (by decide) rfl (by decide) k33 rfl dX2_compareSign_1 ?_
  refine lv_iconst (v := 0) hx hb dX2_compareSign_4 (by decide) ?_
  refine w_ald (N := 8) 3 hx hb hK.1 hM (by decide) (by first | rfl | (rw [(by decide)]; rfl)) (by first | decide | (rw [(by decide)]; decide)) (by decide) (vp_in_nI (n := 0) (by decide) (by decide)) (81 + 60 * 0) (sf_23 (t := 0) (by decide)) dX2_compareSign_5 ?_
  refine lv_aload_n hx hb dX2_compareSign_6 rfl (lv_at hl 0 rfl) ?_
  refine w_gr 2 0 3 (T := TX2) (N := 11) hx hb hts in2 hown hK.1 hM (by decide) (by decide) (by decide) (by decide) (by decide) rfl (by decide) k11 rfl dX2_compareSign_7 ?_
  refine lv_aload_n hx hb dX2_compareSign_10 rfl (lv_at hl 0 rfl) ?_
  refine w_gi 2 5 (T := TX2) (N := 11) hx hb hts in2 hown hK.1 hM (by decide) (by decide) (by decide) (by decide) (by decide) rfl (by decide) k54 rfl dX2_compareSign_11 ?_
  have q : (V 2 5 : Int32) = nI pt := hpt
  refine lv_eqi q ?_
  refine w_ald (N := 8) 4 hx hb hK.1 hM (by decide) (by first | rfl | (rw [(by decide)]; rfl)) (by first | decide | (rw [(by decide)]; decide)) (by decide) (vp_in_nI hpt8 (by omega)) (25 + 60 * pt) (sf_3 hpt8) dX2_compareSign_14 ?_
  refine w_gr 6 1 (25 + 60 * pt + 3) (T := TX6) (N := 5) hx hb hts in6 hown hK.1 hM ((tok_t hpt8)).lt ((tok_t hpt8)).k ((tok_t hpt8)).n ((tok_t hpt8)).f1 (by decide) rfl (by decide) k91 rfl dX2_compareSign_15 ?_
  refine w_cVi (C := RX3) (As := [.ref (E.1 + (25 + 60 * pt + 3))]) (rest := []) ⟨hx, hb, hml, hown, hts⟩ (c_X3_isSameAs l (rw_S 0 (by decide)) (tok_t hpt8).sign hs htp.2.1 (by omega) (by rw [hokp.2.1.1]; omega)) (cwV 1 hts gX2_compareSign_X3_isSameAs rfl rfl rfl (by decide +kernel) ⟨Nat.le_of_ble_eq_true rfl, Nat.le_of_ble_eq_true rfl⟩) (w_recv (ci := 3) hK hM ((rw_S 0 (by decide))).lt ((rw_S 0 (by decide))).k (by decide) rfl) hM hK hS rfl hl.1 rfl (lv_room (Nat.le_of_ble_eq_true rfl)) dX2_compareSign_18 ⟨Nat.le_of_ble_eq_true rfl, Nat.le_of_ble_eq_true rfl⟩ (fun r18 V18 H locs hp18 hM hS => ?_)
  obtain ⟨er18, eV⟩ := hp18
  rw [eV] at hM; clear eV
  refine lv_if_ne (tgt := 46) hx hb dX2_compareSign_21 (by decide) (fun c_21 => ?_) (fun c_21 => ?_)
  · exact w_vret (free := AE E) V hx hb hret hK hS hM (⟨Or.inl ⟨(by by_cases q : s0 = (tk pt).2.1; (exact q); (rw [er18, if_neg q] at c_21; exact absurd rfl c_21)), rfl⟩, fun _ _ => rfl⟩) hlocks dX2_compareSign_46
  · refine lv_aload_n hx hb dX2_compareSign_24 rfl (lv_at hl 0 rfl) ?_
    refine lv_iconst (v := 5) hx hb dX2_compareSign_25 (by decide) ?_
    refine lv_aload_n hx hb dX2_compareSign_26 rfl (lv_at hl 0 rfl) ?_
    refine w_gi 2 5 (T := TX2) (N := 11) hx hb hts in2 hown hK.1 hM (by decide) (by decide) (by decide) (by decide) (by decide) rfl (by decide) k54 rfl dX2_compareSign_27 ?_
    have q : (V 2 5 : Int32) = nI pt := hpt
    refine lv_eqi q ?_
    refine lv_aload_n hx hb dX2_compareSign_30 rfl (lv_at hl 0 rfl) ?_
    refine w_gr 2 0 3 (T := TX2) (N := 11) hx hb hts in2 hown hK.1 hM (by decide) (by decide) (by decide) (by decide) (by decide) rfl (by decide) k11 rfl dX2_compareSign_31 ?_
    refine lv_aload_n hx hb dX2_compareSign_34 rfl (lv_at hl 0 rfl) ?_
    refine w_gi 2 5 (T := TX2) (N := 11) hx hb hts in2 hown hK.1 hM (by decide) (by decide) (by decide) (by decide) (by decide) rfl (by decide) k54 rfl dX2_compareSign_35 ?_
    have q : (V 2 5 : Int32) = nI pt := hpt
    refine lv_eqi q ?_
    refine w_ald (N := 8) 4 hx hb hK.1 hM (by decide) (by first | rfl | (rw [(by decide)]; rfl)) (by first | decide | (rw [(by decide)]; decide)) (by decide) (vp_in_nI hpt8 (by omega)) (25 + 60 * pt) (sf_3 hpt8) dX2_compareSign_38 ?_
    refine w_gi 6 3 (T := TX6) (N := 5) hx hb hts in6 hown hK.1 hM ((tok_t hpt8)).lt ((tok_t hpt8)).k ((tok_t hpt8)).n ((tok_t hpt8)).f3 (by decide) rfl (by decide) k71 rfl dX2_compareSign_39 ?_
    have q : (V (25 + 60 * pt) 3 : Int32) = nI (tk pt).2.2.length := htp.2.2.1
    refine lv_eqi q ?_
    refine w_cVi (C := RX2) (As := [.int 5, .int (nI pt), .int (nI (tk pt).2.2.length)]) (rest := []) ⟨hx, hb, hml, hown, hts⟩ (c_X2_stopAt l 5 (nI pt) (nI (tk pt).2.2.length)) (cwV 3 hts gX2_compareSign_X2_stopAt rfl rfl rfl (by decide +kernel) ⟨Nat.le_of_ble_eq_true rfl, Nat.le_of_ble_eq_true rfl⟩) (w_recv (ci := 2) hK hM (by decide) (by decide) (by decide) rfl) hM hK hS rfl hl.1 rfl (lv_room (Nat.le_of_ble_eq_true rfl)) dX2_compareSign_42 ⟨Nat.le_of_ble_eq_true rfl, Nat.le_of_ble_eq_true rfl⟩ (fun r42 V42 H locs hp42 hM hS => ?_)
    refine lv_pop hx hb dX2_compareSign_45 rfl ?_
    exact w_vret (free := AE E) V42 hx hb hret hK hS hM (⟨Or.inr ⟨(fun q => by rw [er18, if_pos q] at c_21; exact absurd c_21 (by decide)), hp42.2.1, hp42.2.2.1, hp42.2.2.2.1, hp42.2.2.2.2.1 10 (by omega)⟩, hp42.2.2.2.2.2⟩) hlocks dX2_compareSign_46
