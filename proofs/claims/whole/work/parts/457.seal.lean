-- needs: 44 450 451 452 453 454 455 456
set_option maxHeartbeats 4000000 in
set_option maxRecDepth 100000 in
theorem c_X8_sealNow (l : Launch) {E : En} {V : Vt} (hA : ∀ i, i < 64 → V 582 i = cuT.getD i 0) (hB : ∀ i, i < 8 → V 581 i = sqT.getD i 0) {kl ml : List Int32} (hk : buf V 10 588 kl) (hm : buf V 12 589 ml) (hkl : kl.length ≤ 100) (hm0 : ml.length ≤ 200) : CV l yX8_sealNow wsX8_sealNow 3 E V [.ref (E.1 + 580)] (fun V' => seg V' 590 0 (hmac kl ml) ∧ frS V V' 583 590) := by
  refine Met.ofW (cc := cX8_sealNow) (maxL := 2) (ret := none) (by decide) rfl ?_
  intro p e s m args below meth c s₁ B hml hv
  obtain ⟨rfl, hM, hK⟩ := hv
  have hx := B.exec
  have hb := B.bytes
  have hret := B.returns
  have hts := atoms_spec (ws := wsX8_sealNow) B.pre
  have hown : s.vm.findClass RX8 = some m.cls := findClass_of_methodNamed B.named
  have hlocks := B.notSynchronized
  have hsz : s.heap.size = E.1 + 610 := hM.1
  have hS : va_S (AE E) s.heap s.heap [] := va_S.rf
  have in8 : ∀ w ∈ u_ws RX8 TX8 42, w ∈ wsX8_sealNow := by decide +kernel
  have k34 := hts (.fieldLink RX8 34 "LimitTokensModel" "message" "[I") (by decide +kernel)
  have k135 := hts (.fieldLink RX8 135 "LimitTokensModel" "messageSize" "I") (by decide +kernel)
  have k28 := hts (.fieldLink RX8 28 "LimitTokensModel" "hashed" "[I") (by decide +kernel)
  have k37 := hts (.fieldLink RX8 37 "LimitTokensModel" "out" "[I") (by decide +kernel)
  have k132 := hts (.fieldLink RX8 132 "LimitTokensModel" "keySize" "I") (by decide +kernel)
  have k126 := hts (.fieldLink RX8 126 "LimitTokensModel" "inSize" "I") (by decide +kernel)
  have k31 := hts (.fieldLink RX8 31 "LimitTokensModel" "key" "[I") (by decide +kernel)
  have hl := lv_entry ([.ref (E.1 + 580)]) (n := 2) (Nat.le_of_ble_eq_true rfl)
  rw [lg_entry_eq]
  generalize (lg_sl ([.ref (E.1 + 580)]) ++ List.replicate (2 - (lg_sl ([.ref (E.1 + 580)])).length) Slot.unset).toArray = ls at hl ⊢
  have hl : lv_has ls 2 [(0, .ref (E.1 + 580))] := hl
  have join63 : ∀ (Vj : Vt) (H : Heap) (locs : List Loc) (ls : Array Slot) (k1 : List Int32) (hk1 : buf Vj 10 588 k1) (hk64 : k1.length ≤ 64) (hke : (if kl.length > 64 then sha kl else kl) = k1) (hm1 : buf Vj 12 589 ml) (hfj : frS V Vj 583 590), Wd E Vj H → va_S (AE E) s.heap H locs → lv_has ls 2 [(0, .ref (E.1 + 580))] → W p l e (headSpec wsX8_sealNow (rmD 3)).room s m ([.ref (E.1 + 580)] : List Value).toArray below meth c H locs 0 0 (MQ below (QV E (fun V' => Wd E V') (fun V' => seg V' 590 0 (hmac kl ml) ∧ frS V V' 583 590)) ([.ref (E.1 + 580)] : List Value).toArray s 0 0 (AE E)) (F0 m 63 ls []) := by
    intro Vj H locs ls k1 hk1 hk64 hke hm1 hfj hM hS hl
    refine lv_aload_n hx hb dX8_sealNow_63 rfl (lv_at hl 0 rfl) ?_
    refine lv_bipush (v := 54) hx hb dX8_sealNow_64 (by decide) ?_
    refine w_cVv (C := RX8) (As := [.int 54]) (rest := []) ⟨hx, hb, hml, hown, hts⟩ (c_X8_keyed l hk1 hk64 54) (cwV 1 hts gX8_sealNow_X8_keyed rfl rfl rfl (by decide +kernel) ⟨Nat.le_of_ble_eq_true rfl, Nat.le_of_ble_eq_true rfl⟩) (w_recv (ci := 8) hK hM (by decide) (by decide) (by decide) rfl) hM hK hS rfl hl.1 rfl (lv_room (Nat.le_of_ble_eq_true rfl)) dX8_sealNow_66 ⟨Nat.le_of_ble_eq_true rfl, Nat.le_of_ble_eq_true rfl⟩ (fun V66 H locs hp66 hM hS => ?_)
    have F66 : frS V V66 583 590 := hfj.trans (hp66.2.toS (by omega) (by decide))
    have hm66 : buf V66 12 589 ml := hm1.keep (hp66.2.2 12 (by decide)) (hp66.2.1 589 (by decide) (by decide))
    have hk66 : buf V66 10 588 k1 := hk1.keep (hp66.2.2 10 (by decide)) (hp66.2.1 588 (by decide) (by decide))
    have hL : (k1 ++ List.replicate (64 - k1.length) 0).length = 64 := by simp; omega
    refine lv_aload_n hx hb dX8_sealNow_69 rfl (lv_at hl 0 rfl) ?_
    refine lv_aload_n hx hb dX8_sealNow_70 rfl (lv_at hl 0 rfl) ?_
    refine w_gr 8 11 589 (T := TX8) (N := 42) hx hb hts in8 hown hK.1 hM (by decide) (by decide) (by decide) (by decide) (by decide) rfl (by decide) k34 rfl dX8_sealNow_71 ?_
    refine lv_iconst (v := 0) hx hb dX8_sealNow_74 (by decide) ?_
    refine lv_aload_n hx hb dX8_sealNow_75 rfl (lv_at hl 0 rfl) ?_
    refine w_gi 8 12 (T := TX8) (N := 42) hx hb hts in8 hown hK.1 hM (by decide) (by decide) (by decide) (by decide) (by decide) rfl (by decide) k135 rfl dX8_sealNow_76 ?_
    have q : (V66 580 12 : Int32) = nI ml.length := hm66.1
    refine lv_eqi q ?_
    refine w_cVv (C := RX8) (As := [.ref (E.1 + 589), .int 0, .int (nI ml.length)]) (rest := []) ⟨hx, hb, hml, hown, hts⟩ (m_take l a589 (by decide) hp66.1 (b := 0) hm66.2 (by omega) (by simp at hL ⊢; omega) rfl) (cwV 3 hts gX8_sealNow_X8_take rfl rfl rfl (by decide +kernel) ⟨Nat.le_of_ble_eq_true rfl, Nat.le_of_ble_eq_true rfl⟩) (w_recv (ci := 8) hK hM (by decide) (by decide) (by decide) rfl) hM hK hS rfl hl.1 rfl (lv_room (Nat.le_of_ble_eq_true rfl)) dX8_sealNow_79 ⟨Nat.le_of_ble_eq_true rfl, Nat.le_of_ble_eq_true rfl⟩ (fun V79 H locs hp79 hM hS => ?_)
    have F79 : frS V V79 583 590 := F66.trans (hp79.2.toS (by omega) (by decide))
    refine lv_aload_n hx hb dX8_sealNow_82 rfl (lv_at hl 0 rfl) ?_
    refine w_cVv (C := RX8) (As := []) (rest := []) ⟨hx, hb, hml, hown, hts⟩ (c_X8_hashNow l (fun i hi => by rw [F79.1 582 (by omega) (by decide)]; exact hA i hi) (fun i hi => by rw [F79.1 581 (by omega) (by decide)]; exact hB i hi) hp79.1 (by simp at hL ⊢; omega)) (cwV 0 hts gX8_sealNow_X8_hashNow rfl rfl rfl (by decide +kernel) ⟨Nat.le_of_ble_eq_true rfl, Nat.le_of_ble_eq_true rfl⟩) (w_recv (ci := 8) hK hM (by decide) (by decide) (by decide) rfl) hM hK hS rfl hl.1 rfl (lv_room (Nat.le_of_ble_eq_true rfl)) dX8_sealNow_83 ⟨Nat.le_of_ble_eq_true rfl, Nat.le_of_ble_eq_true rfl⟩ (fun V83 H locs hp83 hM hS => ?_)
    have F83 : frS V V83 583 590 := F79.trans ⟨fun k a b => hp83.2.2.1 k (by omega) b, fun i a _ _ => hp83.2.2.2 i a⟩
    have hk83 : buf V83 10 588 k1 := hk66.keep (by rw [hp83.2.2.2 10 (by decide)]; exact hp79.2.2 10 (by decide)) (by rw [hp83.2.2.1 588 (by omega) (by decide)]; exact hp79.2.1 588 (by decide) (by decide))
    refine lv_aload_n hx hb dX8_sealNow_86 rfl (lv_at hl 0 rfl) ?_
    refine lv_bipush (v := 92) hx hb dX8_sealNow_87 (by decide) ?_
    refine w_cVv (C := RX8) (As := [.int 92]) (rest := []) ⟨hx, hb, hml, hown, hts⟩ (c_X8_keyed l hk83 hk64 92) (cwV 1 hts gX8_sealNow_X8_keyed rfl rfl rfl (by decide +kernel) ⟨Nat.le_of_ble_eq_true rfl, Nat.le_of_ble_eq_true rfl⟩) (w_recv (ci := 8) hK hM (by decide) (by decide) (by decide) rfl) hM hK hS rfl hl.1 rfl (lv_room (Nat.le_of_ble_eq_true rfl)) dX8_sealNow_89 ⟨Nat.le_of_ble_eq_true rfl, Nat.le_of_ble_eq_true rfl⟩ (fun V89 H locs hp89 hM hS => ?_)
    have F89 : frS V V89 583 590 := F83.trans (hp89.2.toS (by omega) (by decide))
    refine lv_aload_n hx hb dX8_sealNow_92 rfl (lv_at hl 0 rfl) ?_
    refine lv_aload_n hx hb dX8_sealNow_93 rfl (lv_at hl 0 rfl) ?_
    refine w_gr 8 8 587 (T := TX8) (N := 42) hx hb hts in8 hown hK.1 hM (by decide) (by decide) (by decide) (by decide) (by decide) rfl (by decide) k28 rfl dX8_sealNow_94 ?_
    refine lv_iconst (v := 0) hx hb dX8_sealNow_97 (by decide) ?_
    refine lv_bipush (v := 32) hx hb dX8_sealNow_98 (by decide) ?_
    refine w_cVv (C := RX8) (As := [.ref (E.1 + 587), .int 0, .int 32]) (rest := []) ⟨hx, hb, hml, hown, hts⟩ (m_take l a587 (by decide) hp89.1 (b := 0) (n := 32) (hp83.1.keep (hp89.2.1 587 (by decide) (by decide))) (by omega) (by simp at hL ⊢; omega) (sha_len _)) (cwV 3 hts gX8_sealNow_X8_take rfl rfl rfl (by decide +kernel) ⟨Nat.le_of_ble_eq_true rfl, Nat.le_of_ble_eq_true rfl⟩) (w_recv (ci := 8) hK hM (by decide) (by decide) (by decide) rfl) hM hK hS rfl hl.1 rfl (lv_room (Nat.le_of_ble_eq_true rfl)) dX8_sealNow_100 ⟨Nat.le_of_ble_eq_true rfl, Nat.le_of_ble_eq_true rfl⟩ (fun V100 H locs hp100 hM hS => ?_)
    have F100 : frS V V100 583 590 := F89.trans (hp100.2.toS (by omega) (by decide))
    refine lv_aload_n hx hb dX8_sealNow_103 rfl (lv_at hl 0 rfl) ?_
    refine w_cVv (C := RX8) (As := []) (rest := []) ⟨hx, hb, hml, hown, hts⟩ (c_X8_hashNow l (fun i hi => by rw [F100.1 582 (by omega) (by decide)]; exact hA i hi) (fun i hi => by rw [F100.1 581 (by omega) (by decide)]; exact hB i hi) hp100.1 (by simp [sha_len] at hL ⊢; omega)) (cwV 0 hts gX8_sealNow_X8_hashNow rfl rfl rfl (by decide +kernel) ⟨Nat.le_of_ble_eq_true rfl, Nat.le_of_ble_eq_true rfl⟩) (w_recv (ci := 8) hK hM (by decide) (by decide) (by decide) rfl) hM hK hS rfl hl.1 rfl (lv_room (Nat.le_of_ble_eq_true rfl)) dX8_sealNow_104 ⟨Nat.le_of_ble_eq_true rfl, Nat.le_of_ble_eq_true rfl⟩ (fun V104 H locs hp104 hM hS => ?_)
    have F104 : frS V V104 583 590 := F100.trans ⟨fun k a b => hp104.2.2.1 k (by omega) b, fun i a _ _ => hp104.2.2.2 i a⟩
    refine lv_aload_n hx hb dX8_sealNow_107 rfl (lv_at hl 0 rfl) ?_
    refine w_gr 8 8 587 (T := TX8) (N := 42) hx hb hts in8 hown hK.1 hM (by decide) (by decide) (by decide) (by decide) (by decide) rfl (by decide) k28 rfl dX8_sealNow_108 ?_
    refine lv_aload_n hx hb dX8_sealNow_111 rfl (lv_at hl 0 rfl) ?_
    refine w_gr 8 13 590 (T := TX8) (N := 42) hx hb hts in8 hown hK.1 hM (by decide) (by decide) (by decide) (by decide) (by decide) rfl (by decide) k37 rfl dX8_sealNow_112 ?_
    refine lv_iconst (v := 0) hx hb dX8_sealNow_115 (by decide) ?_
    refine w_cSv (As := [.ref (E.1 + 587), .ref (E.1 + 590), .int 0]) (rest := []) ⟨hx, hb, hml, hown, hts⟩ (c_X8_copyTo l a587 a590 (by decide) (by omega) (b := 0) (by omega)) (va_cwS 3 hts gX8_sealNow_X8_copyTo rfl rfl rfl (by decide +kernel) ⟨Nat.le_of_ble_eq_true rfl, Nat.le_of_ble_eq_true rfl⟩) hM hK hS rfl hl.1 rfl (lv_room (Nat.le_of_ble_eq_true rfl)) dX8_sealNow_116 ⟨Nat.le_of_ble_eq_true rfl, Nat.le_of_ble_eq_true rfl⟩ (fun V116 H locs hp116 hM hS => ?_)
    have F116 : frS V V116 583 590 := F104.trans (hp116.toS (by decide) (by decide))
    have hpost : (fun V' => seg V' 590 0 (hmac kl ml) ∧ frS V V' 583 590) V116 := by
      refine ⟨?_, F116⟩
      have h9 := cpx_seg2 hp116 (sha_len _) hp104.1
      unfold hmac kB
      rw [hke]
      exact h9
    exact w_vret (free := AE E) V116 hx hb hret hK hS hM (hpost) hlocks dX8_sealNow_119
  refine lv_aload_n hx hb dX8_sealNow_0 rfl (lv_at hl 0 rfl) ?_
  refine w_gi 8 10 (T := TX8) (N := 42) hx hb hts in8 hown hK.1 hM (by decide) (by decide) (by decide) (by decide) (by decide) rfl (by decide) k132 rfl dX8_sealNow_1 ?_
  have q : (V 580 10 : Int32) = nI kl.length := hk.1
  refine lv_eqi q ?_
  refine lv_bipush (v := 64) hx hb dX8_sealNow_4 (by decide) ?_
  refine lv_icmp_le (tgt := 63) hx hb dX8_sealNow_6 (by decide) (fun c_6 => ?_) (fun c_6 => ?_)
  · have n_6 : kl.length ≤ 64 := (nLe (a := kl.length) (b := 64) rfl rfl (by omega) (by omega)).mp c_6
    exact join63 V _ _ _ kl hk (by omega) (if_neg (by omega)) hm frS.rf hM hS (lv_sub hl [0] rfl)
  · have n_6 : ¬ kl.length ≤ 64 := fun q9 => c_6 ((nLe (a := kl.length) (b := 64) rfl rfl (by omega) (by omega)).mpr q9)
    refine lv_aload_n hx hb dX8_sealNow_9 rfl (lv_at hl 0 rfl) ?_
    refine lv_iconst (v := 0) hx hb dX8_sealNow_10 (by decide) ?_
    refine w_pi 8 7 (T := TX8) (N := 42) hx hb hts in8 tyX8 tyX8_ok nmX8 hown hK.1 hM hS (by decide) (by decide) (by decide) (by decide) (by decide) rfl (by decide) k126 rfl rfl rfl rfl dX8_sealNow_11 (fun H locs hM hS => ?_)
    generalize hV11 : up2 V 580 7 0 = V11 at hM
    refine lv_aload_n hx hb dX8_sealNow_14 rfl (lv_at hl 0 rfl) ?_
    refine lv_aload_n hx hb dX8_sealNow_15 rfl (lv_at hl 0 rfl) ?_
    refine w_gr 8 9 588 (T := TX8) (N := 42) hx hb hts in8 hown hK.1 hM (by decide) (by decide) (by decide) (by decide) (by decide) rfl (by decide) k31 rfl dX8_sealNow_16 ?_
    refine lv_iconst (v := 0) hx hb dX8_sealNow_19 (by decide) ?_
    refine lv_aload_n hx hb dX8_sealNow_20 rfl (lv_at hl 0 rfl) ?_
    refine w_gi 8 10 (T := TX8) (N := 42) hx hb hts in8 hown hK.1 hM (by decide) (by decide) (by decide) (by decide) (by decide) rfl (by decide) k132 rfl dX8_sealNow_21 ?_
    have q : (V11 580 10 : Int32) = nI kl.length := by rw [← hV11, up2_o _ _ (by omega)]; exact hk.1
    refine lv_eqi q ?_
    refine w_cVv (C := RX8) (As := [.ref (E.1 + 588), .int 0, .int (nI kl.length)]) (rest := []) ⟨hx, hb, hml, hown, hts⟩ (m_take l a588 (by decide) (buf.nil hV11) (b := 0) (l0 := kl) (hk.2.keep (by rw [← hV11, up2_k _ _ (by decide)])) (by omega) (by simp; omega) rfl) (cwV 3 hts gX8_sealNow_X8_take rfl rfl rfl (by decide +kernel) ⟨Nat.le_of_ble_eq_true rfl, Nat.le_of_ble_eq_true rfl⟩) (w_recv (ci := 8) hK hM (by decide) (by decide) (by decide) rfl) hM hK hS rfl hl.1 rfl (lv_room (Nat.le_of_ble_eq_true rfl)) dX8_sealNow_24 ⟨Nat.le_of_ble_eq_true rfl, Nat.le_of_ble_eq_true rfl⟩ (fun V24 H locs hp24 hM hS => ?_)
    have f24 := hp24.2
    have F24 : frS V V24 583 590 := (show frS V V11 583 590 from ⟨fun k _ b => by rw [← hV11, up2_k _ _ b], fun i a _ _ => by rw [← hV11, up2_o _ _ a]⟩).trans (f24.toS (by omega) (by decide))
    refine lv_aload_n hx hb dX8_sealNow_27 rfl (lv_at hl 0 rfl) ?_
    refine w_cVv (C := RX8) (As := []) (rest := []) ⟨hx, hb, hml, hown, hts⟩ (c_X8_hashNow l (fun i hi => by rw [F24.1 582 (by omega) (by decide)]; exact hA i hi) (fun i hi => by rw [F24.1 581 (by omega) (by decide)]; exact hB i hi) (l0 := [] ++ kl) hp24.1 (by simp; omega)) (cwV 0 hts gX8_sealNow_X8_hashNow rfl rfl rfl (by decide +kernel) ⟨Nat.le_of_ble_eq_true rfl, Nat.le_of_ble_eq_true rfl⟩) (w_recv (ci := 8) hK hM (by decide) (by decide) (by decide) rfl) hM hK hS rfl hl.1 rfl (lv_room (Nat.le_of_ble_eq_true rfl)) dX8_sealNow_28 ⟨Nat.le_of_ble_eq_true rfl, Nat.le_of_ble_eq_true rfl⟩ (fun V28 H locs hp28 hM hS => ?_)
    rw [List.nil_append] at hp28
    have f28 := hp28.2.2
    have F28 : frS V V28 583 590 := F24.trans ⟨fun k a b => hp28.2.2.1 k (by omega) b, fun i a _ _ => hp28.2.2.2 i a⟩
    refine lv_iconst (v := 0) hx hb dX8_sealNow_31 (by decide) ?_
    refine lv_istore_n (lv' := [(1, .int 0), (0, .ref (E.1 + 580))]) hx hb dX8_sealNow_32 rfl hl (by decide) rfl (fun ls hl => ?_)
    have loop33 : ∀ (fu : Nat) (Vc : Vt) (H : Heap) (locs : List Loc) (ls : Array Slot) (j : Nat) (hj : j ≤ 32) (hc : cpx Vc V28 588 0 j (fun i => (sha kl).getD i 0)), 32 - j < fu → Wd E Vc H → va_S (AE E) s.heap H locs → lv_has ls 2 [(0, .ref (E.1 + 580)), (1, .int (nI j))] → W p l e (headSpec wsX8_sealNow (rmD 3)).room s m ([.ref (E.1 + 580)] : List Value).toArray below meth c H locs 0 0 (MQ below (QV E (fun V' => Wd E V') (fun V' => seg V' 590 0 (hmac kl ml) ∧ frS V V' 583 590)) ([.ref (E.1 + 580)] : List Value).toArray s 0 0 (AE E)) (F0 m 33 ls []) := by
      intro fu
      induction fu with
      | zero => intros; omega
      | succ fu ih33 =>
        intro Vc H locs ls j hj hc hfu hM hS hl
        refine lv_iload_n hx hb dX8_sealNow_33 rfl (lv_at hl 1 rfl) ?_
        refine lv_bipush (v := 32) hx hb dX8_sealNow_34 (by decide) ?_
        refine lv_icmp_ge (tgt := 57) hx hb dX8_sealNow_36 (by decide) (fun c_36 => ?_) (fun c_36 => ?_)
        · have n_36 : 32 ≤ j := (nLe (a := 32) (b := j) rfl rfl (by omega) (by omega)).mp c_36
          refine lv_aload_n hx hb dX8_sealNow_57 rfl (lv_at hl 0 rfl) ?_
          refine lv_bipush (v := 32) hx hb dX8_sealNow_58 (by decide) ?_
          refine w_pi 8 10 (T := TX8) (N := 42) hx hb hts in8 tyX8 tyX8_ok nmX8 hown hK.1 hM hS (by decide) (by decide) (by decide) (by decide) (by decide) rfl (by decide) k132 rfl rfl rfl rfl dX8_sealNow_60 (fun H locs hM hS => ?_)
          generalize hV60 : up2 Vc 580 10 32 = V60 at hM
          exact join63 V60 _ _ _ (sha kl) ⟨by subst hV60; rw [up2_s, sha_len]; rfl, by subst hV60; exact seg.keep (hc.seg (by rw [sha_len]; omega) (fun _ _ => rfl)) (up2_k _ _ (by decide))⟩ (by rw [sha_len]; omega) (if_pos (by omega)) (by subst hV60; exact hm.keep (by rw [up2_o _ _ (by decide), hc.2.2 580 (by decide), f28.2 12 (by decide), f24.2 12 (by decide), ← hV11, up2_o _ _ (by decide)]) (by rw [up2_k _ _ (by decide), hc.2.2 589 (by decide), f28.1 589 (by omega) (by decide), f24.1 589 (by decide) (by decide), ← hV11, up2_k _ _ (by decide)])) (by subst hV60; exact (F28.trans (hc.toS (by decide) (by decide))).trans ⟨fun k _ b => up2_k _ _ b, fun i _ b _ => up2_o _ _ b⟩) hM hS (lv_sub hl [0] rfl)
        · have n_36 : ¬ 32 ≤ j := fun q9 => c_36 ((nLe (a := 32) (b := j) rfl rfl (by omega) (by omega)).mpr q9)
          refine lv_aload_n hx hb dX8_sealNow_39 rfl (lv_at hl 0 rfl) ?_
          refine w_gr 8 9 588 (T := TX8) (N := 42) hx hb hts in8 hown hK.1 hM (by decide) (by decide) (by decide) (by decide) (by decide) rfl (by decide) k31 rfl dX8_sealNow_40 ?_
          refine lv_iload_n hx hb dX8_sealNow_43 rfl (lv_at hl 1 rfl) ?_
          refine lv_aload_n hx hb dX8_sealNow_44 rfl (lv_at hl 0 rfl) ?_
          refine w_gr 8 8 587 (T := TX8) (N := 42) hx hb hts in8 hown hK.1 hM (by decide) (by decide) (by decide) (by decide) (by decide) rfl (by decide) k28 rfl dX8_sealNow_45 ?_
          refine lv_iload_n hx hb dX8_sealNow_48 rfl (lv_at hl 1 rfl) ?_
          have i_49 : (nI j : Int32) = nI (j) := rfl
          refine w_ild (N := 32) hx hb hK.1 hM (by decide) (by decide) (by decide) (by rw [i_49]; exact vp_in_nI (by omega) (by omega)) dX8_sealNow_49 ?_
          have q : (Vc 587 (nI j).toNatClampNeg : Int32) = Vc 587 j := by rw [i_49, nI_clamp (by omega)]
          refine lv_eqi q ?_
          have i_50 : (nI j : Int32) = nI (j) := rfl
          have j_50 : (nI j).toNatClampNeg = j := by rw [i_50, nI_clamp (by omega)]
          refine w_ist (N := 100) hx hb hK.1 hM hS (by decide) (by decide) (by decide) (by rw [i_50]; exact vp_in_nI (by omega) (by omega)) dX8_sealNow_50 (fun H locs hM hS => ?_)
          rw [j_50] at hM
          generalize hV50 : up2 Vc 588 j (Vc 587 j) = V50 at hM
          obtain ⟨x1_51, ex1_51⟩ : ∃ y : Int32, y = (nI j) + 1 := ⟨_, rfl⟩
          refine lv_iinc (v := x1_51) (lv' := [(1, .int x1_51), (0, .ref (E.1 + 580))]) hx hb dX8_sealNow_51 hl (k := 1) rfl (by rw [ex1_51]; rfl) (by decide) rfl (fun ls hl => ?_)
          refine lv_goto (tgt := 33) hx hb dX8_sealNow_54 (by decide) ?_
          rw [show x1_51 = nI (j + 1) from (ex1_51.trans (nAdd rfl rfl))] at hl
          exact ih33 V50 _ _ _ (j + 1) (by omega) (hc.s hV50 (by omega) (by rw [hc.2.2 587 (by decide)]; exact hp28.1.z (by rw [sha_len]; omega))) (by omega) hM hS (lv_sub hl [1, 0] rfl)
    exact loop33 _ V28 _ _ _ 0 (Nat.zero_le _) (cpx.z _ _ _ _) (Nat.lt_succ_self _) hM hS (lv_sub hl [1, 0] rfl)
