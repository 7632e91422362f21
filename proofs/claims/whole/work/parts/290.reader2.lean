set_option maxHeartbeats 4000000 in
set_option maxRecDepth 100000 in
theorem c_X5_takeLimits (l : Launch) {E : En} {V : Vt} {b : List Int32} (hs : rowIs V 506 b) (hbl : b.length ≤ 1200) {p0 : Nat} (hp0 : V 505 1 = nI p0) (hpl : p0 ≤ b.length) (hok : okL b) (hc0 : V 508 3 = nI 0) : CI l yX5_takeLimits wsX5_takeLimits 4 E V [.ref (E.1 + 505), .ref (E.1 + 508)] (fun r V' => rdP (rLims b 10 p0 []) r V' (fun a => V' 505 1 = nI a.2 ∧ V' 505 2 = V 505 2 ∧ V' 505 3 = V 505 3 ∧ V' 508 3 = nI a.1.length ∧ ∀ i, i < a.1.length → limIs V' (508 + 6 + 5 * i) (a.1.getD i lz)) ∧ V' 508 4 = V 508 4 ∧ ∀ j, j ≠ 505 → (j < 508 ∨ 563 < j ∨ (508 < j ∧ j < 514)) → V' j = V j) := by
  refine Met.ofW (cc := cX5_takeLimits) (maxL := 3) (ret := (some .boolean)) (by decide) rfl ?_
  intro p e s m args below meth c s₁ B hml hv
  obtain ⟨rfl, hM, hK⟩ := hv
  have hx := B.exec
  have hb := B.bytes
  have hret := B.returns
  have hts := atoms_spec (ws := wsX5_takeLimits) B.pre
  have hown : s.vm.findClass RX5 = some m.cls := findClass_of_methodNamed B.named
  have hlocks := B.notSynchronized
  have hsz : s.heap.size = E.1 + 610 := hM.1
  have hS : va_S (AE E) s.heap s.heap [] := va_S.rf
  have in5 : ∀ w ∈ u_ws RX5 TX5 4, w ∈ wsX5_takeLimits := by decide +kernel
  have in6 : ∀ w ∈ u_ws RX6 TX6 5, w ∈ wsX5_takeLimits := by decide +kernel
  have k14 := hts (.fieldLink RX5 14 "LimitTokens$TapeReader" "source" "LLimitTokens$Row;") (by decide +kernel)
  have k24 := hts (.fieldLink RX5 24 "LimitTokens$TapeReader" "position" "I") (by decide +kernel)
  have k67 := hts (.fieldLink RX5 67 "LimitTokens$Token" "limits" "[LLimitTokens$Limit;") (by decide +kernel)
  have k36 := hts (.fieldLink RX5 36 "LimitTokens$Token" "count" "I") (by decide +kernel)
  have hl := lv_entry ([.ref (E.1 + 505), .ref (E.1 + 508)]) (n := 3) (Nat.le_of_ble_eq_true rfl)
  rw [lg_entry_eq]
  generalize (lg_sl ([.ref (E.1 + 505), .ref (E.1 + 508)]) ++ List.replicate (3 - (lg_sl ([.ref (E.1 + 505), .ref (E.1 + 508)])).length) Slot.unset).toArray = ls at hl ⊢
  have hl : lv_has ls 3 [(0, .ref (E.1 + 505)), (1, .ref (E.1 + 508))] := hl
  refine lv_iconst (v := 0) hx hb dX5_takeLimits_0 (by decide) ?_
  refine lv_istore_n (lv' := [(2, .int 0), (0, .ref (E.1 + 505)), (1, .ref (E.1 + 508))]) hx hb dX5_takeLimits_1 rfl hl (by decide) rfl (fun ls hl => ?_)
  have loop2 : ∀ (fu : Nat) (Vw : Vt) (H : Heap) (locs : List Loc) (ls : Array Slot) (j : Nat) (x : Int32) (pj : Nat) (acc : List Lm) (ex : x = nI j) (hj : j ≤ 10) (eac : acc.length = j) (hrl : rLims b (10 - j) pj acc = rLims b 10 p0 []) (hpj : pj ≤ b.length) (pos : Vw 505 1 = nI pj) (kf : Vw 505 2 = V 505 2 ∧ Vw 505 3 = V 505 3) (cnt : Vw 508 3 = nI j) (th : Vw 508 4 = V 508 4) (hli : ∀ i, i < j → limIs Vw (508 + 6 + 5 * i) (acc.getD i lz)) (hf : ∀ j, j ≠ 505 → (j < 508 ∨ 563 < j ∨ (508 < j ∧ j < 514)) → Vw j = V j), 10 - j < fu → Wd E Vw H → va_S (AE E) s.heap H locs → lv_has ls 3 [(0, .ref (E.1 + 505)), (1, .ref (E.1 + 508)), (2, .int x)] → W p l e (headSpec wsX5_takeLimits (rmD 4)).room s m ([.ref (E.1 + 505), .ref (E.1 + 508)] : List Value).toArray below meth c H locs 0 0 (MQ below (QI E (fun V' => Wd E V') (fun r V' => rdP (rLims b 10 p0 []) r V' (fun a => V' 505 1 = nI a.2 ∧ V' 505 2 = V 505 2 ∧ V' 505 3 = V 505 3 ∧ V' 508 3 = nI a.1.length ∧ ∀ i, i < a.1.length → limIs V' (508 + 6 + 5 * i) (a.1.getD i lz)) ∧ V' 508 4 = V 508 4 ∧ ∀ j, j ≠ 505 → (j < 508 ∨ 563 < j ∨ (508 < j ∧ j < 514)) → V' j = V j)) ([.ref (E.1 + 505), .ref (E.1 + 508)] : List Value).toArray s 0 0 (AE E)) (F0 m 2 ls []) := by
    intro fu
    induction fu with
    | zero => intros; omega
    | succ fu ih =>
      intro Vw H locs ls j x pj acc ex hj eac hrl hpj pos kf cnt th hli hf hfu hM hS hl
      have sw : rowIs Vw 506 b := hs.keep (hf 506 (by decide) (by decide)) (hf 507 (by decide) (by decide))
      refine lv_iload_n hx hb dX5_takeLimits_2 rfl (lv_at hl 2 rfl) ?_
      refine lv_bipush (v := 10) hx hb dX5_takeLimits_3 (by decide) ?_
      refine lv_icmp_ge (tgt := 56) hx hb dX5_takeLimits_5 (by decide) (fun c_5 => ?_) (fun c_5 => ?_)
      · have hj10 : j = 10 := by have := nI_lei (a := 10) ex c_5 (by omega) (by omega); omega
        refine lv_aload_n hx hb dX5_takeLimits_56 rfl (lv_at hl 0 rfl) ?_
        refine w_gr 5 0 506 (T := TX5) (N := 4) hx hb hts in5 hown hK.1 hM (by decide) (by decide) (by decide) (by decide) (by decide) rfl (by decide) k14 rfl dX5_takeLimits_57 ?_
        refine lv_aload_n hx hb dX5_takeLimits_60 rfl (lv_at hl 0 rfl) ?_
        refine w_gi 5 1 (T := TX5) (N := 4) hx hb hts in5 hown hK.1 hM (by decide) (by decide) (by decide) (by decide) (by decide) rfl (by decide) k24 rfl dX5_takeLimits_61 ?_
        have q : (Vw 505 1 : Int32) = nI pj := pos
        refine lv_eqi q ?_
        refine w_cVi (C := RX3) (As := [.int (nI pj)]) (rest := []) ⟨hx, hb, hml, hown, hts⟩ (c_X3_byteAt l rw506 sw hbl (nI pj)) (cwV 1 hts gX5_takeLimits_X3_byteAt rfl rfl rfl (by decide +kernel) ⟨Nat.le_of_ble_eq_true rfl, Nat.le_of_ble_eq_true rfl⟩) (w_recv (ci := 3) hK hM (by decide) (by decide) (by decide) rfl) hM hK hS rfl hl.1 rfl (lv_room (Nat.le_of_ble_eq_true rfl)) dX5_takeLimits_64 ⟨Nat.le_of_ble_eq_true rfl, Nat.le_of_ble_eq_true rfl⟩ (fun r64 V64 H locs hp64 hM hS => ?_)
        obtain ⟨er64, eV⟩ := hp64
        rw [eV] at hM; clear eV
        have q : (r64 : Int32) = Bt b pj := er64.trans (Bt_eq (by omega) (by omega))
        refine lv_eqi q ?_
        refine lv_iconst (v := 2) hx hb dX5_takeLimits_67 (by decide) ?_
        refine lv_icmp_ne (tgt := 79) hx hb dX5_takeLimits_68 (by decide) (fun c_68 => ?_) (fun c_68 => ?_)
        · have hend : rLims b 10 p0 [] = .inr (acc, pj) := by
            rw [← hrl, hj10]; simp only [Nat.sub_self, rLims]; rw [if_neg c_68]
          refine lv_iconst (v := 1) hx hb dX5_takeLimits_79 (by decide) ?_
          refine lv_goto (tgt := 84) hx hb dX5_takeLimits_80 (by decide) ?_
          exact w_zret Vw hx hb hret hK hS hM (⟨rdP.r hend ⟨pos, kf.1, kf.2, (by rw [cnt, eac]), fun i hi => hli i (by rw [← eac]; exact hi)⟩, th, hf⟩) (rfl) hlocks dX5_takeLimits_84
        · have hend : rLims b 10 p0 [] = .inl (4, pj) := by
            rw [← hrl, hj10]; simp only [Nat.sub_self, rLims]; rw [if_pos c_68]
          refine lv_aload_n hx hb dX5_takeLimits_71 rfl (lv_at hl 0 rfl) ?_
          refine lv_iconst (v := 4) hx hb dX5_takeLimits_72 (by decide) ?_
          refine w_cVi (C := RX5) (As := [.int 4]) (rest := []) ⟨hx, hb, hml, hown, hts⟩ (c_X5_stopAt l 4) (cwV 1 hts gX5_takeLimits_X5_stopAt rfl rfl rfl (by decide +kernel) ⟨Nat.le_of_ble_eq_true rfl, Nat.le_of_ble_eq_true rfl⟩) (w_recv (ci := 5) hK hM (by decide) (by decide) (by decide) rfl) hM hK hS rfl hl.1 rfl (lv_room (Nat.le_of_ble_eq_true rfl)) dX5_takeLimits_73 ⟨Nat.le_of_ble_eq_true rfl, Nat.le_of_ble_eq_true rfl⟩ (fun r73 V73 H locs hp73 hM hS => ?_)
          have q : (r73 : Int32) = 0 := hp73.1
          refine lv_eqi q ?_
          refine lv_if_eq (tgt := 83) hx hb dX5_takeLimits_76 (by decide) (fun c_76 => ?_) (fun c_76 => ?_)
          · refine lv_iconst (v := 0) hx hb dX5_takeLimits_83 (by decide) ?_
            exact w_zret V73 hx hb hret hK hS hM (⟨rdP.l hend hp73.2.1 (hp73.2.2.1.trans pos), (by rw [hp73.2.2.2 508 (by decide)]; exact th), fun i h1 h2 => by rw [hp73.2.2.2 i h1]; exact hf i h1 h2⟩) (rfl) hlocks dX5_takeLimits_84
          · exact absurd rfl c_76
      · have hj10 := nI_ltn (a := 10) ex c_5 (by omega) (by omega)
        refine lv_aload_n hx hb dX5_takeLimits_8 rfl (lv_at hl 0 rfl) ?_
        refine w_gr 5 0 506 (T := TX5) (N := 4) hx hb hts in5 hown hK.1 hM (by decide) (by decide) (by decide) (by decide) (by decide) rfl (by decide) k14 rfl dX5_takeLimits_9 ?_
        refine lv_aload_n hx hb dX5_takeLimits_12 rfl (lv_at hl 0 rfl) ?_
        refine w_gi 5 1 (T := TX5) (N := 4) hx hb hts in5 hown hK.1 hM (by decide) (by decide) (by decide) (by decide) (by decide) rfl (by decide) k24 rfl dX5_takeLimits_13 ?_
        have q : (Vw 505 1 : Int32) = nI pj := pos
        refine lv_eqi q ?_
        refine w_cVi (C := RX3) (As := [.int (nI pj)]) (rest := []) ⟨hx, hb, hml, hown, hts⟩ (c_X3_byteAt l rw506 sw hbl (nI pj)) (cwV 1 hts gX5_takeLimits_X3_byteAt rfl rfl rfl (by decide +kernel) ⟨Nat.le_of_ble_eq_true rfl, Nat.le_of_ble_eq_true rfl⟩) (w_recv (ci := 3) hK hM (by decide) (by decide) (by decide) rfl) hM hK hS rfl hl.1 rfl (lv_room (Nat.le_of_ble_eq_true rfl)) dX5_takeLimits_16 ⟨Nat.le_of_ble_eq_true rfl, Nat.le_of_ble_eq_true rfl⟩ (fun r16 V16 H locs hp16 hM hS => ?_)
        obtain ⟨er16, eV⟩ := hp16
        rw [eV] at hM; clear eV
        have q : (r16 : Int32) = Bt b pj := er16.trans (Bt_eq (by omega) (by omega))
        refine lv_eqi q ?_
        refine lv_iconst (v := 2) hx hb dX5_takeLimits_19 (by decide) ?_
        refine lv_icmp_eq (tgt := 25) hx hb dX5_takeLimits_20 (by decide) (fun c_20 => ?_) (fun c_20 => ?_)
        · refine lv_aload_n hx hb dX5_takeLimits_25 rfl (lv_at hl 0 rfl) ?_
          refine lv_aload_n hx hb dX5_takeLimits_26 rfl (lv_at hl 1 rfl) ?_
          refine w_gr 6 2 (508 + 5) (T := TX6) (N := 5) hx hb hts in6 hown hK.1 hM (tok_sp).lt (tok_sp).k (tok_sp).n (tok_sp).f2 (by decide) rfl (by decide) k67 rfl dX5_takeLimits_27 ?_
          refine lv_iload_n hx hb dX5_takeLimits_30 rfl (lv_at hl 2 rfl) ?_
          refine w_ald (N := 10) 2 hx hb hK.1 hM (tok_sp).lt5 (by first | rfl | (rw [(tok_sp).k5]; rfl)) (by first | decide | (rw [(tok_sp).k5]; decide)) (tok_sp).n5 (by rw [ex]; exact vp_in_nI hj10 (by omega)) (508 + 6 + 5 * j) (by rw [ex, nI_clamp (by omega)]; exact tok_sp.fl hj10) dX5_takeLimits_31 ?_
          refine w_cVi (C := RX5) (As := [.ref (E.1 + (508 + 6 + 5 * j))]) (rest := []) ⟨hx, hb, hml, hown, hts⟩ (c_X5_takeLimit l sw hbl pos hpj hok (tok_sp.lim hj10) (by omega)) (cwV 1 hts gX5_takeLimits_X5_takeLimit rfl rfl rfl (by decide +kernel) ⟨Nat.le_of_ble_eq_true rfl, Nat.le_of_ble_eq_true rfl⟩) (w_recv (ci := 5) hK hM (by decide) (by decide) (by decide) rfl) hM hK hS rfl hl.1 rfl (lv_room (Nat.le_of_ble_eq_true rfl)) dX5_takeLimits_32 ⟨Nat.le_of_ble_eq_true rfl, Nat.le_of_ble_eq_true rfl⟩ (fun r32 V32 H locs hp32 hM hS => ?_)
          refine lv_if_ne (tgt := 40) hx hb dX5_takeLimits_35 (by decide) (fun c_35 => ?_) (fun c_35 => ?_)
          · obtain ⟨a32, hm32, -, ok32⟩ := hp32.1.f c_35
            refine lv_aload_n hx hb dX5_takeLimits_40 rfl (lv_at hl 1 rfl) ?_
            refine lv_dup hx hb dX5_takeLimits_41 rfl ?_
            refine w_gi 6 3 (T := TX6) (N := 5) hx hb hts in6 hown hK.1 hM (tok_sp).lt (tok_sp).k (tok_sp).n (tok_sp).f3 (by decide) rfl (by decide) k36 rfl dX5_takeLimits_42 ?_
            have q : (V32 508 3 : Int32) = nI j := by rw [hp32.2 508 (by decide) (by omega)]; exact cnt
            refine lv_eqi q ?_
            refine lv_iconst (v := 1) hx hb dX5_takeLimits_45 (by decide) ?_
            refine lv_iadd hx hb dX5_takeLimits_46 ?_
            refine w_pi 6 3 (T := TX6) (N := 5) hx hb hts in6 tyX6 tyX6_ok nmX6 hown hK.1 hM hS (tok_sp).lt (tok_sp).k (tok_sp).n (tok_sp).f3 (by decide) rfl (by decide) k36 rfl rfl rfl rfl dX5_takeLimits_47 (fun H locs hM hS => ?_)
            generalize hV47 : up2 V32 508 3 ((nI j) + 1) = V47 at hM
            obtain ⟨x2_50, ex2_50⟩ : ∃ y : Int32, y = x + 1 := ⟨_, rfl⟩
            refine lv_iinc (v := x2_50) (lv' := [(2, .int x2_50), (0, .ref (E.1 + 505)), (1, .ref (E.1 + 508))]) hx hb dX5_takeLimits_50 hl (k := 2) rfl (by rw [ex2_50]; rfl) (by decide) rfl (fun ls hl => ?_)
            refine lv_goto (tgt := 2) hx hb dX5_takeLimits_53 (by decide) ?_
            obtain ⟨g1, g2, g3⟩ := rLim_ok hm32 hok
            exact ih V47 _ _ _ (j + 1) _ a32.2 (acc ++ [a32.1]) (by rw [ex2_50, ex, nI_1]) (by omega) (by rw [List.length_append, eac]; rfl) (by rw [← hrl, show 10 - j = (10 - (j + 1)) + 1 by omega, rLims_s c_20 hm32]) g1 (by subst hV47; rw [up2_k _ _ (by decide)]; exact ok32.1) (by subst hV47; rw [up2_k _ _ (by decide)]; exact ⟨ok32.2.1.trans kf.1, ok32.2.2.1.trans kf.2⟩) (by subst hV47; rw [up2_s]; exact nI_1 _) (by subst hV47; rw [up2_o _ _ (by decide), hp32.2 508 (by decide) (by omega)]; exact th) (fun i hi => by (subst hV47); (rcases Nat.lt_or_ge i j with q | q); (rw [gd_snoc_lt (by omega)]; exact ⟨(hli i q).1.keep (by rw [up2_k _ _ (by omega)]; exact hp32.2 _ (by omega) (by omega)) (by rw [up2_k _ _ (by omega)]; exact hp32.2 _ (by omega) (by omega)), (hli i q).2.keep (by rw [up2_k _ _ (by omega)]; exact hp32.2 _ (by omega) (by omega)) (by rw [up2_k _ _ (by omega)]; exact hp32.2 _ (by omega) (by omega))⟩); (obtain rfl : i = acc.length := (by omega); rw [gd_snoc_eq, eac]; exact ⟨ok32.2.2.2.1.keep (up2_k _ _ (by omega)) (up2_k _ _ (by omega)), ok32.2.2.2.2.keep (up2_k _ _ (by omega)) (up2_k _ _ (by omega))⟩)) (fun i h1 h2 => by subst hV47; rw [up2_k _ _ (by omega), hp32.2 i h1 (by omega)]; exact hf i h1 h2) (by omega) hM hS (lv_sub hl [1, 2, 0] rfl)
          · obtain ⟨e32, hm32, f32, g32⟩ := hp32.1.t c_35
            refine lv_iconst (v := 0) hx hb dX5_takeLimits_38 (by decide) ?_
            exact w_zret V32 hx hb hret hK hS hM (⟨rdP.l (e := e32) (by rw [← hrl, show 10 - j = (10 - (j + 1)) + 1 by omega, rLims_e c_20 hm32]) f32 g32, (by rw [hp32.2 508 (by decide) (by omega)]; exact th), fun i h1 h2 => by rw [hp32.2 i h1 (by omega)]; exact hf i h1 h2⟩) (rfl) hlocks dX5_takeLimits_39
        · have hend : rLims b 10 p0 [] = .inr (acc, pj) := by
            rw [← hrl, show 10 - j = (10 - (j + 1)) + 1 by omega]; simp only [rLims]; rw [if_neg c_20]
          refine lv_iconst (v := 1) hx hb dX5_takeLimits_23 (by decide) ?_
          exact w_zret Vw hx hb hret hK hS hM (⟨rdP.r hend ⟨pos, kf.1, kf.2, (by rw [cnt, eac]), fun i hi => hli i (by rw [← eac]; exact hi)⟩, th, hf⟩) (rfl) hlocks dX5_takeLimits_24
  exact loop2 _ V _ _ _ 0 0 p0 ([]) (rfl) (Nat.zero_le _) (rfl) (rfl) (hpl) (hp0) (⟨rfl, rfl⟩) (hc0) (rfl) (lt_0) (fun _ _ _ => rfl) (Nat.lt_succ_self _) hM hS (lv_sub hl [1, 2, 0] rfl)

set_option maxHeartbeats 4000000 in
set_option maxRecDepth 100000 in
theorem c_X5_readToken (l : Launch) {E : En} {V : Vt} {b : List Int32} (hs : rowIs V 506 b) (hbl : b.length ≤ 1200) (hok : okL b) : CI l yX5_readToken wsX5_readToken 5 E V [.ref (E.1 + 505), .ref (E.1 + 508)] (fun r V' => rdP (rTok b) r V' (fun Tx => V' 505 2 = 0 ∧ V' 505 3 = -1 ∧ tokIs V' 508 Tx ∧ V' 508 4 = 1) ∧ ∀ j, j ≠ 505 → (j < 508 ∨ 563 < j) → V' j = V j) := by
  refine Met.ofW (cc := cX5_readToken) (maxL := 2) (ret := (some .boolean)) (by decide) rfl ?_
  intro p e s m args below meth c s₁ B hml hv
  obtain ⟨rfl, hM, hK⟩ := hv
  have hx := B.exec
  have hb := B.bytes
  have hret := B.returns
  have hts := atoms_spec (ws := wsX5_readToken) B.pre
  have hown : s.vm.findClass RX5 = some m.cls := findClass_of_methodNamed B.named
  have hlocks := B.notSynchronized
  have hsz : s.heap.size = E.1 + 610 := hM.1
  have hS : va_S (AE E) s.heap s.heap [] := va_S.rf
  have in3 : ∀ w ∈ u_ws RX3 TX3 2, w ∈ wsX5_readToken := by decide +kernel
  have in5 : ∀ w ∈ u_ws RX5 TX5 4, w ∈ wsX5_readToken := by decide +kernel
  have in6 : ∀ w ∈ u_ws RX6 TX6 5, w ∈ wsX5_readToken := by decide +kernel
  have k24 := hts (.fieldLink RX5 24 "LimitTokens$TapeReader" "position" "I") (by decide +kernel)
  have k27 := hts (.fieldLink RX5 27 "LimitTokens$TapeReader" "found" "I") (by decide +kernel)
  have k20 := hts (.fieldLink RX5 20 "LimitTokens$TapeReader" "foundPlace" "I") (by decide +kernel)
  have k30 := hts (.fieldLink RX5 30 "LimitTokens$Token" "there" "Z") (by decide +kernel)
  have k36 := hts (.fieldLink RX5 36 "LimitTokens$Token" "count" "I") (by decide +kernel)
  have k43 := hts (.fieldLink RX5 43 "LimitTokens$Token" "name" "LLimitTokens$Row;") (by decide +kernel)
  have k54 := hts (.fieldLink RX5 54 "LimitTokens$Token" "sign" "LLimitTokens$Row;") (by decide +kernel)
  have k14 := hts (.fieldLink RX5 14 "LimitTokens$TapeReader" "source" "LLimitTokens$Row;") (by decide +kernel)
  have k57 := hts (.fieldLink RX5 57 "LimitTokens$Row" "length" "I") (by decide +kernel)
  have hl := lv_entry ([.ref (E.1 + 505), .ref (E.1 + 508)]) (n := 2) (Nat.le_of_ble_eq_true rfl)
  rw [lg_entry_eq]
  generalize (lg_sl ([.ref (E.1 + 505), .ref (E.1 + 508)]) ++ List.replicate (2 - (lg_sl ([.ref (E.1 + 505), .ref (E.1 + 508)])).length) Slot.unset).toArray = ls at hl ⊢
  have hl : lv_has ls 2 [(0, .ref (E.1 + 505)), (1, .ref (E.1 + 508))] := hl
  refine lv_aload_n hx hb dX5_readToken_0 rfl (lv_at hl 0 rfl) ?_
  refine lv_iconst (v := 0) hx hb dX5_readToken_1 (by decide) ?_
  refine w_pi 5 1 (T := TX5) (N := 4) hx hb hts in5 tyX5 tyX5_ok nmX5 hown hK.1 hM hS (by decide) (by decide) (by decide) (by decide) (by decide) rfl (by decide) k24 rfl rfl rfl rfl dX5_readToken_2 (fun H locs hM hS => ?_)
  generalize hV2 : up2 V 505 1 0 = V2 at hM
  refine lv_aload_n hx hb dX5_readToken_5 rfl (lv_at hl 0 rfl) ?_
  refine lv_iconst (v := 0) hx hb dX5_readToken_6 (by decide) ?_
  refine w_pi 5 2 (T := TX5) (N := 4) hx hb hts in5 tyX5 tyX5_ok nmX5 hown hK.1 hM hS (by decide) (by decide) (by decide) (by decide) (by decide) rfl (by decide) k27 rfl rfl rfl rfl dX5_readToken_7 (fun H locs hM hS => ?_)
  generalize hV7 : up2 V2 505 2 0 = V7 at hM
  refine lv_aload_n hx hb dX5_readToken_10 rfl (lv_at hl 0 rfl) ?_
  refine lv_iconst (v := (-1)) hx hb dX5_readToken_11 (by decide) ?_
  refine w_pi 5 3 (T := TX5) (N := 4) hx hb hts in5 tyX5 tyX5_ok nmX5 hown hK.1 hM hS (by decide) (by decide) (by decide) (by decide) (by decide) rfl (by decide) k20 rfl rfl rfl rfl dX5_readToken_12 (fun H locs hM hS => ?_)
  generalize hV12 : up2 V7 505 3 (-1) = V12 at hM
  refine lv_aload_n hx hb dX5_readToken_15 rfl (lv_at hl 1 rfl) ?_
  refine lv_iconst (v := 1) hx hb dX5_readToken_16 (by decide) ?_
  refine w_pi 6 4 (T := TX6) (N := 5) hx hb hts in6 tyX6 tyX6_ok nmX6 hown hK.1 hM hS (tok_sp).lt (tok_sp).k (tok_sp).n (tok_sp).f4 (by decide) rfl (by decide) k30 rfl rfl rfl rfl dX5_readToken_17 (fun H locs hM hS => ?_)
  generalize hV17 : up2 V12 508 4 1 = V17 at hM
  refine lv_aload_n hx hb dX5_readToken_20 rfl (lv_at hl 1 rfl) ?_
  refine lv_iconst (v := 0) hx hb dX5_readToken_21 (by decide) ?_
  refine w_pi 6 3 (T := TX6) (N := 5) hx hb hts in6 tyX6 tyX6_ok nmX6 hown hK.1 hM hS (tok_sp).lt (tok_sp).k (tok_sp).n (tok_sp).f3 (by decide) rfl (by decide) k36 rfl rfl rfl rfl dX5_readToken_22 (fun H locs hM hS => ?_)
  generalize hV22 : up2 V17 508 3 0 = V22 at hM
  have s22 : rowIs V22 506 b := by subst hV22 hV17 hV12 hV7 hV2; exact hs.keep (by simp [up2, va_up]) (by simp [up2, va_up])
  have p22 : V22 505 1 = nI 0 := by subst hV22 hV17 hV12 hV7 hV2; simp [up2, va_up, upd]; rfl
  have f22 : V22 505 2 = 0 ∧ V22 505 3 = -1 := by subst hV22 hV17 hV12 hV7 hV2; simp [up2, va_up, upd]
  have o22 : ∀ j, j ≠ 505 → j ≠ 508 → V22 j = V j := fun j h1 h2 => by subst hV22 hV17 hV12 hV7 hV2; rw [up2_k _ _ h2, up2_k _ _ h2, up2_k _ _ h1, up2_k _ _ h1, up2_k _ _ h1]
  refine lv_aload_n hx hb dX5_readToken_25 rfl (lv_at hl 0 rfl) ?_
  refine lv_iconst (v := 2) hx hb dX5_readToken_26 (by decide) ?_
  refine w_cVi (C := RX5) (As := [.int 2]) (rest := []) ⟨hx, hb, hml, hown, hts⟩ (c_X5_takeMark l s22 hbl p22 (by omega) 2) (cwV 1 hts gX5_readToken_X5_takeMark rfl rfl rfl (by decide +kernel) ⟨Nat.le_of_ble_eq_true rfl, Nat.le_of_ble_eq_true rfl⟩) (w_recv (ci := 5) hK hM (by decide) (by decide) (by decide) rfl) hM hK hS rfl hl.1 rfl (lv_room (Nat.le_of_ble_eq_true rfl)) dX5_readToken_27 ⟨Nat.le_of_ble_eq_true rfl, Nat.le_of_ble_eq_true rfl⟩ (fun r27 V27 H locs hp27 hM hS => ?_)
  refine lv_if_eq (tgt := 129) hx hb dX5_readToken_30 (by decide) (fun c_30 => ?_) (fun c_30 => ?_)
  · obtain ⟨e27, hm27, f27, g27⟩ := hp27.1.t c_30
    refine lv_iconst (v := 0) hx hb dX5_readToken_129 (by decide) ?_
    exact w_zret V27 hx hb hret hK hS hM (⟨rdP.l (e := e27) (by simp only [rTok, hm27]) f27 g27, fun j h1 h2 => (by rw [hp27.2 j h1]; exact o22 j h1 (by omega))⟩) (rfl) hlocks dX5_readToken_130
  · obtain ⟨a27, hm27, -, ok27⟩ := hp27.1.f c_30
    obtain ⟨ea27, le27⟩ := rMark_le hm27
    have s27 : rowIs V27 506 b := s22.keep (hp27.2 506 (by decide)) (hp27.2 507 (by decide))
    refine lv_aload_n hx hb dX5_readToken_33 rfl (lv_at hl 0 rfl) ?_
    refine lv_iconst (v := 2) hx hb dX5_readToken_34 (by decide) ?_
    refine w_cVi (C := RX5) (As := [.int 2]) (rest := []) ⟨hx, hb, hml, hown, hts⟩ (c_X5_takeMark l s27 hbl ok27.1 (by omega) 2) (cwV 1 hts gX5_readToken_X5_takeMark rfl rfl rfl (by decide +kernel) ⟨Nat.le_of_ble_eq_true rfl, Nat.le_of_ble_eq_true rfl⟩) (w_recv (ci := 5) hK hM (by decide) (by decide) (by decide) rfl) hM hK hS rfl hl.1 rfl (lv_room (Nat.le_of_ble_eq_true rfl)) dX5_readToken_35 ⟨Nat.le_of_ble_eq_true rfl, Nat.le_of_ble_eq_true rfl⟩ (fun r35 V35 H locs hp35 hM hS => ?_)
    refine lv_if_eq (tgt := 129) hx hb dX5_readToken_38 (by decide) (fun c_38 => ?_) (fun c_38 => ?_)
    · obtain ⟨e35, hm35, f35, g35⟩ := hp35.1.t c_38
      refine lv_iconst (v := 0) hx hb dX5_readToken_129 (by decide) ?_
      exact w_zret V35 hx hb hret hK hS hM (⟨rdP.l (e := e35) (by simp only [rTok, hm27, hm35]) f35 g35, fun j h1 h2 => (by rw [hp35.2 j h1, hp27.2 j h1]; exact o22 j h1 (by omega))⟩) (rfl) hlocks dX5_readToken_130
    · obtain ⟨a35, hm35, -, ok35⟩ := hp35.1.f c_38
      obtain ⟨ea35, le35⟩ := rMark_le hm35
      have s35 : rowIs V35 506 b := s27.keep (hp35.2 506 (by decide)) (hp35.2 507 (by decide))
      refine lv_aload_n hx hb dX5_readToken_41 rfl (lv_at hl 0 rfl) ?_
      refine lv_aload_n hx hb dX5_readToken_42 rfl (lv_at hl 1 rfl) ?_
      refine w_gr 6 0 (508 + 1) (T := TX6) (N := 5) hx hb hts in6 hown hK.1 hM (tok_sp).lt (tok_sp).k (tok_sp).n (tok_sp).f0 (by decide) rfl (by decide) k43 rfl dX5_readToken_43 ?_
      refine lv_iconst (v := 1) hx hb dX5_readToken_46 (by decide) ?_
      refine lv_bipush (v := 60) hx hb dX5_readToken_47 (by decide) ?_
      refine w_cVi (C := RX5) (As := [.ref (E.1 + (508 + 1)), .int 1, .int 60]) (rest := []) ⟨hx, hb, hml, hown, hts⟩ (c_X5_takeBytes l s35 hbl ok35.1 (by omega) hok tok_sp.name (by decide) (lo := 1) (hi := 60) rfl rfl (by decide) (by decide)) (cwV 3 hts gX5_readToken_X5_takeBytes rfl rfl rfl (by decide +kernel) ⟨Nat.le_of_ble_eq_true rfl, Nat.le_of_ble_eq_true rfl⟩) (w_recv (ci := 5) hK hM (by decide) (by decide) (by decide) rfl) hM hK hS rfl hl.1 rfl (lv_room (Nat.le_of_ble_eq_true rfl)) dX5_readToken_49 ⟨Nat.le_of_ble_eq_true rfl, Nat.le_of_ble_eq_true rfl⟩ (fun r49 V49 H locs hp49 hM hS => ?_)
      refine lv_if_eq (tgt := 129) hx hb dX5_readToken_52 (by decide) (fun c_52 => ?_) (fun c_52 => ?_)
      · obtain ⟨e49, hm49, f49, g49⟩ := hp49.1.t c_52
        refine lv_iconst (v := 0) hx hb dX5_readToken_129 (by decide) ?_
        exact w_zret V49 hx hb hret hK hS hM (⟨rdP.l (e := e49) (by simp only [rTok, hm27, hm35, hm49]) f49 g49, fun j h1 h2 => (by rw [hp49.2 j h1 (by omega) (by omega), hp35.2 j h1, hp27.2 j h1]; exact o22 j h1 (by omega))⟩) (rfl) hlocks dX5_readToken_130
      · obtain ⟨a49, hm49, -, ok49⟩ := hp49.1.f c_52
        obtain ⟨le49, -, -, -, -⟩ := rBytes_ok hm49 (by omega) (by omega) hok
        have s49 : rowIs V49 506 b := s35.keep (hp49.2 506 (by decide) (by decide) (by decide)) (hp49.2 507 (by decide) (by decide) (by decide))
        refine lv_aload_n hx hb dX5_readToken_55 rfl (lv_at hl 0 rfl) ?_
        refine lv_iconst (v := 0) hx hb dX5_readToken_56 (by decide) ?_
        refine w_cVi (C := RX5) (As := [.int 0]) (rest := []) ⟨hx, hb, hml, hown, hts⟩ (c_X5_takeMark l s49 hbl ok49.1 (by omega) 0) (cwV 1 hts gX5_readToken_X5_takeMark rfl rfl rfl (by decide +kernel) ⟨Nat.le_of_ble_eq_true rfl, Nat.le_of_ble_eq_true rfl⟩) (w_recv (ci := 5) hK hM (by decide) (by decide) (by decide) rfl) hM hK hS rfl hl.1 rfl (lv_room (Nat.le_of_ble_eq_true rfl)) dX5_readToken_57 ⟨Nat.le_of_ble_eq_true rfl, Nat.le_of_ble_eq_true rfl⟩ (fun r57 V57 H locs hp57 hM hS => ?_)
        refine lv_if_eq (tgt := 129) hx hb dX5_readToken_60 (by decide) (fun c_60 => ?_) (fun c_60 => ?_)
        · obtain ⟨e57, hm57, f57, g57⟩ := hp57.1.t c_60
          refine lv_iconst (v := 0) hx hb dX5_readToken_129 (by decide) ?_
          exact w_zret V57 hx hb hret hK hS hM (⟨rdP.l (e := e57) (by simp only [rTok, hm27, hm35, hm49, hm57]) f57 g57, fun j h1 h2 => (by rw [hp57.2 j h1, hp49.2 j h1 (by omega) (by omega), hp35.2 j h1, hp27.2 j h1]; exact o22 j h1 (by omega))⟩) (rfl) hlocks dX5_readToken_130
        · obtain ⟨a57, hm57, -, ok57⟩ := hp57.1.f c_60
          obtain ⟨ea57, le57⟩ := rMark_le hm57
          have s57 : rowIs V57 506 b := s49.keep (hp57.2 506 (by decide)) (hp57.2 507 (by decide))
          have c57 : V57 508 = V22 508 := by rw [hp57.2 508 (by decide), hp49.2 508 (by decide) (by decide) (by decide), hp35.2 508 (by decide), hp27.2 508 (by decide)]
          have n57 : rowIs V57 509 a49.1 := ok49.2.2.2.keep (hp57.2 509 (by decide)) (hp57.2 510 (by decide))
          refine lv_aload_n hx hb dX5_readToken_63 rfl (lv_at hl 0 rfl) ?_
          refine lv_aload_n hx hb dX5_readToken_64 rfl (lv_at hl 1 rfl) ?_
          refine w_cVi (C := RX5) (As := [.ref (E.1 + 508)]) (rest := []) ⟨hx, hb, hml, hown, hts⟩ (c_X5_takeLimits l s57 hbl ok57.1 (by omega) hok (by rw [c57, ← hV22, up2_s]; rfl)) (cwV 1 hts gX5_readToken_X5_takeLimits rfl rfl rfl (by decide +kernel) ⟨Nat.le_of_ble_eq_true rfl, Nat.le_of_ble_eq_true rfl⟩) (w_recv (ci := 5) hK hM (by decide) (by decide) (by decide) rfl) hM hK hS rfl hl.1 rfl (lv_room (Nat.le_of_ble_eq_true rfl)) dX5_readToken_65 ⟨Nat.le_of_ble_eq_true rfl, Nat.le_of_ble_eq_true rfl⟩ (fun r65 V65 H locs hp65 hM hS => ?_)
          refine lv_if_eq (tgt := 129) hx hb dX5_readToken_68 (by decide) (fun c_68 => ?_) (fun c_68 => ?_)
          · obtain ⟨e65, hm65, f65, g65⟩ := hp65.1.t c_68
            refine lv_iconst (v := 0) hx hb dX5_readToken_129 (by decide) ?_
            exact w_zret V65 hx hb hret hK hS hM (⟨rdP.l (e := e65) (by simp only [rTok, hm27, hm35, hm49, hm57, hm65]) f65 g65, fun j h1 h2 => (by rw [hp65.2.2 j h1 (by omega), hp57.2 j h1, hp49.2 j h1 (by omega) (by omega), hp35.2 j h1, hp27.2 j h1]; exact o22 j h1 (by omega))⟩) (rfl) hlocks dX5_readToken_130
          · obtain ⟨a65, hm65, -, ok65⟩ := hp65.1.f c_68
            obtain ⟨le65, ll65, lo65⟩ := rLims_ok hok 10 _ [] a65 hm65 (by omega) (fun i hi => absurd hi (Nat.not_lt_zero i))
            have s65 : rowIs V65 506 b := s57.keep (hp65.2.2 506 (by decide) (by decide)) (hp65.2.2 507 (by decide) (by decide))
            have n65 : rowIs V65 509 a49.1 := n57.keep (hp65.2.2 509 (by decide) (by decide)) (hp65.2.2 510 (by decide) (by decide))
            refine lv_aload_n hx hb dX5_readToken_71 rfl (lv_at hl 0 rfl) ?_
            refine lv_iconst (v := 0) hx hb dX5_readToken_72 (by decide) ?_
            refine w_cVi (C := RX5) (As := [.int 0]) (rest := []) ⟨hx, hb, hml, hown, hts⟩ (c_X5_takeMark l s65 hbl ok65.1 (by omega) 0) (cwV 1 hts gX5_readToken_X5_takeMark rfl rfl rfl (by decide +kernel) ⟨Nat.le_of_ble_eq_true rfl, Nat.le_of_ble_eq_true rfl⟩) (w_recv (ci := 5) hK hM (by decide) (by decide) (by decide) rfl) hM hK hS rfl hl.1 rfl (lv_room (Nat.le_of_ble_eq_true rfl)) dX5_readToken_73 ⟨Nat.le_of_ble_eq_true rfl, Nat.le_of_ble_eq_true rfl⟩ (fun r73 V73 H locs hp73 hM hS => ?_)
            refine lv_if_eq (tgt := 129) hx hb dX5_readToken_76 (by decide) (fun c_76 => ?_) (fun c_76 => ?_)
            · obtain ⟨e73, hm73, f73, g73⟩ := hp73.1.t c_76
              refine lv_iconst (v := 0) hx hb dX5_readToken_129 (by decide) ?_
              exact w_zret V73 hx hb hret hK hS hM (⟨rdP.l (e := e73) (by simp only [rTok, hm27, hm35, hm49, hm57, hm65, hm73]) f73 g73, fun j h1 h2 => (by rw [hp73.2 j h1, hp65.2.2 j h1 (by omega), hp57.2 j h1, hp49.2 j h1 (by omega) (by omega), hp35.2 j h1, hp27.2 j h1]; exact o22 j h1 (by omega))⟩) (rfl) hlocks dX5_readToken_130
            · obtain ⟨a73, hm73, -, ok73⟩ := hp73.1.f c_76
              obtain ⟨ea73, le73⟩ := rMark_le hm73
              have s73 : rowIs V73 506 b := s65.keep (hp73.2 506 (by decide)) (hp73.2 507 (by decide))
              refine lv_aload_n hx hb dX5_readToken_79 rfl (lv_at hl 0 rfl) ?_
              refine lv_bipush (v := 6) hx hb dX5_readToken_80 (by decide) ?_
              refine w_cVi (C := RX5) (As := [.int 6]) (rest := []) ⟨hx, hb, hml, hown, hts⟩ (c_X5_takeMark l s73 hbl ok73.1 (by omega) 6) (cwV 1 hts gX5_readToken_X5_takeMark rfl rfl rfl (by decide +kernel) ⟨Nat.le_of_ble_eq_true rfl, Nat.le_of_ble_eq_true rfl⟩) (w_recv (ci := 5) hK hM (by decide) (by decide) (by decide) rfl) hM hK hS rfl hl.1 rfl (lv_room (Nat.le_of_ble_eq_true rfl)) dX5_readToken_82 ⟨Nat.le_of_ble_eq_true rfl, Nat.le_of_ble_eq_true rfl⟩ (fun r82 V82 H locs hp82 hM hS => ?_)
              refine lv_if_eq (tgt := 129) hx hb dX5_readToken_85 (by decide) (fun c_85 => ?_) (fun c_85 => ?_)
              · obtain ⟨e82, hm82, f82, g82⟩ := hp82.1.t c_85
                refine lv_iconst (v := 0) hx hb dX5_readToken_129 (by decide) ?_
                exact w_zret V82 hx hb hret hK hS hM (⟨rdP.l (e := e82) (by simp only [rTok, hm27, hm35, hm49, hm57, hm65, hm73, hm82]) f82 g82, fun j h1 h2 => (by rw [hp82.2 j h1, hp73.2 j h1, hp65.2.2 j h1 (by omega), hp57.2 j h1, hp49.2 j h1 (by omega) (by omega), hp35.2 j h1, hp27.2 j h1]; exact o22 j h1 (by omega))⟩) (rfl) hlocks dX5_readToken_130
              · obtain ⟨a82, hm82, -, ok82⟩ := hp82.1.f c_85
                obtain ⟨ea82, le82⟩ := rMark_le hm82
                have s82 : rowIs V82 506 b := s73.keep (hp82.2 506 (by decide)) (hp82.2 507 (by decide))
                refine lv_aload_n hx hb dX5_readToken_88 rfl (lv_at hl 0 rfl) ?_
                refine lv_aload_n hx hb dX5_readToken_89 rfl (lv_at hl 1 rfl) ?_
                refine w_gr 6 1 (508 + 3) (T := TX6) (N := 5) hx hb hts in6 hown hK.1 hM (tok_sp).lt (tok_sp).k (tok_sp).n (tok_sp).f1 (by decide) rfl (by decide) k54 rfl dX5_readToken_90 ?_
                refine lv_bipush (v := 32) hx hb dX5_readToken_93 (by decide) ?_
                refine lv_bipush (v := 32) hx hb dX5_readToken_95 (by decide) ?_
                refine w_cVi (C := RX5) (As := [.ref (E.1 + (508 + 3)), .int 32, .int 32]) (rest := []) ⟨hx, hb, hml, hown, hts⟩ (c_X5_takeBytes l s82 hbl ok82.1 (by omega) hok tok_sp.sign (by decide) (lo := 32) (hi := 32) rfl rfl (by decide) (by decide)) (cwV 3 hts gX5_readToken_X5_takeBytes rfl rfl rfl (by decide +kernel) ⟨Nat.le_of_ble_eq_true rfl, Nat.le_of_ble_eq_true rfl⟩) (w_recv (ci := 5) hK hM (by decide) (by decide) (by decide) rfl) hM hK hS rfl hl.1 rfl (lv_room (Nat.le_of_ble_eq_true rfl)) dX5_readToken_97 ⟨Nat.le_of_ble_eq_true rfl, Nat.le_of_ble_eq_true rfl⟩ (fun r97 V97 H locs hp97 hM hS => ?_)
                refine lv_if_eq (tgt := 129) hx hb dX5_readToken_100 (by decide) (fun c_100 => ?_) (fun c_100 => ?_)
                · obtain ⟨e97, hm97, f97, g97⟩ := hp97.1.t c_100
                  refine lv_iconst (v := 0) hx hb dX5_readToken_129 (by decide) ?_
                  exact w_zret V97 hx hb hret hK hS hM (⟨rdP.l (e := e97) (by simp only [rTok, hm27, hm35, hm49, hm57, hm65, hm73, hm82, hm97]) f97 g97, fun j h1 h2 => (by rw [hp97.2 j h1 (by omega) (by omega), hp82.2 j h1, hp73.2 j h1, hp65.2.2 j h1 (by omega), hp57.2 j h1, hp49.2 j h1 (by omega) (by omega), hp35.2 j h1, hp27.2 j h1]; exact o22 j h1 (by omega))⟩) (rfl) hlocks dX5_readToken_130
                · obtain ⟨a97, hm97, -, ok97⟩ := hp97.1.f c_100
                  obtain ⟨le97, -, -, -, -⟩ := rBytes_ok hm97 (by omega) (by omega) hok
                  have s97 : rowIs V97 506 b := s82.keep (hp97.2 506 (by decide) (by decide) (by decide)) (hp97.2 507 (by decide) (by decide) (by decide))
                  have q82 : ∀ j, j ≠ 505 → V82 j = V65 j := fun j hj => (hp82.2 j hj).trans (hp73.2 j hj)
                  have tk97 : tokIs V97 508 (a49.1, a97.1, a65.1) := ⟨n65.keep (by rw [hp97.2 509 (by decide) (by decide) (by decide)]; exact q82 509 (by decide)) (by rw [hp97.2 510 (by decide) (by decide) (by decide)]; exact q82 510 (by decide)), ok97.2.2.2, (by rw [hp97.2 508 (by decide) (by decide) (by decide), q82 508 (by decide)]; exact ok65.2.2.2.1), fun i hi => (have hi10 : i < 10 := (by simp at ll65 hi; omega); have hL := ok65.2.2.2.2 i hi; ⟨hL.1.keep (by rw [hp97.2 _ (by omega) (by omega) (by omega)]; exact q82 _ (by omega)) (by rw [hp97.2 _ (by omega) (by omega) (by omega)]; exact q82 _ (by omega)), hL.2.keep (by rw [hp97.2 _ (by omega) (by omega) (by omega)]; exact q82 _ (by omega)) (by rw [hp97.2 _ (by omega) (by omega) (by omega)]; exact q82 _ (by omega))⟩)⟩
                  have th97 : V97 508 4 = 1 := by rw [hp97.2 508 (by decide) (by decide) (by decide), q82 508 (by decide), hp65.2.1, c57, ← hV22, up2_o _ _ (by decide), ← hV17, up2_s]
                  have kf97 : V97 505 2 = 0 ∧ V97 505 3 = -1 := by rw [ok97.2.1, ok97.2.2.1, ok82.2.1, ok82.2.2, ok73.2.1, ok73.2.2, ok65.2.1, ok65.2.2.1, ok57.2.1, ok57.2.2, ok49.2.1, ok49.2.2.1, ok35.2.1, ok35.2.2, ok27.2.1, ok27.2.2]; exact f22
                  refine lv_aload_n hx hb dX5_readToken_103 rfl (lv_at hl 0 rfl) ?_
                  refine w_gi 5 1 (T := TX5) (N := 4) hx hb hts in5 hown hK.1 hM (by decide) (by decide) (by decide) (by decide) (by decide) rfl (by decide) k24 rfl dX5_readToken_104 ?_
                  have q : (V97 505 1 : Int32) = nI a97.2 := ok97.1
                  refine lv_eqi q ?_
                  refine lv_aload_n hx hb dX5_readToken_107 rfl (lv_at hl 0 rfl) ?_
                  refine w_gr 5 0 506 (T := TX5) (N := 4) hx hb hts in5 hown hK.1 hM (by decide) (by decide) (by decide) (by decide) (by decide) rfl (by decide) k14 rfl dX5_readToken_108 ?_
                  refine w_gi 3 1 (T := TX3) (N := 2) hx hb hts in3 hown hK.1 hM (by decide) (by decide) (by decide) (by decide) (by decide) rfl (by decide) k57 rfl dX5_readToken_111 ?_
                  have q : (V97 506 1 : Int32) = nI b.length := s97.1
                  refine lv_eqi q ?_
                  refine lv_icmp_eq (tgt := 125) hx hb dX5_readToken_114 (by decide) (fun c_114 => ?_) (fun c_114 => ?_)
                  · refine lv_iconst (v := 1) hx hb dX5_readToken_125 (by decide) ?_
                    refine lv_goto (tgt := 130) hx hb dX5_readToken_126 (by decide) ?_
                    exact w_zret V97 hx hb hret hK hS hM (⟨rdP.r (a := (a49.1, a97.1, a65.1)) (by simp only [rTok, hm27, hm35, hm49, hm57, hm65, hm73, hm82, hm97]; rw [if_pos ((nI_eq (by omega) (by omega)).mp c_114)]) ⟨kf97.1, kf97.2, tk97, th97⟩, fun j h1 h2 => (by rw [hp97.2 j h1 (by omega) (by omega), hp82.2 j h1, hp73.2 j h1, hp65.2.2 j h1 (by omega), hp57.2 j h1, hp49.2 j h1 (by omega) (by omega), hp35.2 j h1, hp27.2 j h1]; exact o22 j h1 (by omega))⟩) (rfl) hlocks dX5_readToken_130
                  · refine lv_aload_n hx hb dX5_readToken_117 rfl (lv_at hl 0 rfl) ?_
                    refine lv_iconst (v := 5) hx hb dX5_readToken_118 (by decide) ?_
                    refine w_cVi (C := RX5) (As := [.int 5]) (rest := []) ⟨hx, hb, hml, hown, hts⟩ (c_X5_stopAt l 5) (cwV 1 hts gX5_readToken_X5_stopAt rfl rfl rfl (by decide +kernel) ⟨Nat.le_of_ble_eq_true rfl, Nat.le_of_ble_eq_true rfl⟩) (w_recv (ci := 5) hK hM (by decide) (by decide) (by decide) rfl) hM hK hS rfl hl.1 rfl (lv_room (Nat.le_of_ble_eq_true rfl)) dX5_readToken_119 ⟨Nat.le_of_ble_eq_true rfl, Nat.le_of_ble_eq_true rfl⟩ (fun r119 V119 H locs hp119 hM hS => ?_)
                    have q : (r119 : Int32) = 0 := hp119.1
                    refine lv_eqi q ?_
                    refine lv_if_eq (tgt := 129) hx hb dX5_readToken_122 (by decide) (fun c_122 => ?_) (fun c_122 => ?_)
                    · refine lv_iconst (v := 0) hx hb dX5_readToken_129 (by decide) ?_
                      exact w_zret V119 hx hb hret hK hS hM (⟨rdP.l (e := (5, a97.2)) (by simp only [rTok, hm27, hm35, hm49, hm57, hm65, hm73, hm82, hm97]; rw [if_neg (fun q => c_114 (by rw [q]))]) hp119.2.1 (hp119.2.2.1.trans ok97.1), fun j h1 h2 => (by rw [hp119.2.2.2 j h1, hp97.2 j h1 (by omega) (by omega), hp82.2 j h1, hp73.2 j h1, hp65.2.2 j h1 (by omega), hp57.2 j h1, hp49.2 j h1 (by omega) (by omega), hp35.2 j h1, hp27.2 j h1]; exact o22 j h1 (by omega))⟩) (rfl) hlocks dX5_readToken_130
                    · exact absurd rfl c_122
