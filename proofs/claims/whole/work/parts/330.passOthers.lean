set_option maxHeartbeats 4000000 in
set_option maxRecDepth 100000 in
theorem c_X2_passOthers (l : Launch) {E : En} {V : Vt} {f : Nat} (hW : 0 < f → WalkC l E f) {tk : Nat → Tk} {D : Nat → Bool} (hE : tkE V tk D) {pt : Nat} (hpt : V 2 5 = nI pt) (hpt8 : pt < 8) (hDp : D pt = true) {t : Nat} (ht : t < 8) (hDt : D t = true) {d0 : Nat} (hd : d0 < 8) {s0 : List Int32} (hs : rowIs V (81 + 60 * d0) s0) (hsl : s0.length = 32) {i : Nat} (hi : i < (tk t).2.2.length) {m0 bg : Nat} (hm : V 2 6 = nI m0) (hm2 : m0 < 256) (hbg : V 2 10 = nI bg) (hmD : ∀ h, h < 8 → m0.testBit h = true → D h = true) (hdf : d0 + (f + 1) = 8) (hcn : cnt m0 + d0 ≤ 7) (hoth : ¬ ((tk t).2.2.getD i lz).2 = []) : CI l yX2_passOthers wsX2_passOthers (7 + 2 * f) E V [.ref (E.1 + 2), .int (nI t), .int (nI i), .int (nI d0)] (fun r V' => wkP (wOne (V 22) tk (tk pt).2.1 (wk (V 22) tk (tk pt).2.1 f) t i ((tk t).2.2.getD i lz) s0 (m0, bg)) r V V' d0 ∧ frW V V' d0) := by
  refine Met.ofW (cc := cX2_passOthers) (maxL := 7) (ret := (some .boolean)) (by decide) rfl ?_
  intro p e s m args below meth c s₁ B hml hv
  obtain ⟨rfl, hM, hK⟩ := hv
  have hx := B.exec
  have hb := B.bytes
  have hret := B.returns
  have hts := atoms_spec (ws := wsX2_passOthers) B.pre
  have hown : s.vm.findClass RX2 = some m.cls := findClass_of_methodNamed B.named
  have hlocks := B.notSynchronized
  have hsz : s.heap.size = E.1 + 610 := hM.1
  have hS : va_S (AE E) s.heap s.heap [] := va_S.rf
  have in1 : ∀ w ∈ u_ws RX1 TX1 2, w ∈ wsX2_passOthers := by decide +kernel
  have in2 : ∀ w ∈ u_ws RX2 TX2 11, w ∈ wsX2_passOthers := by decide +kernel
  have in6 : ∀ w ∈ u_ws RX6 TX6 5, w ∈ wsX2_passOthers := by decide +kernel
  have k11 := hts (.fieldLink RX2 11 "LimitTokens$Prover" "tokens" "[LLimitTokens$Token;") (by decide +kernel)
  have k74 := hts (.fieldLink RX2 74 "LimitTokens$Token" "limits" "[LLimitTokens$Limit;") (by decide +kernel)
  have k57 := hts (.fieldLink RX2 57 "LimitTokens$Prover" "waiting" "I") (by decide +kernel)
  have k47 := hts (.fieldLink RX2 47 "LimitTokens$Prover" "begun" "I") (by decide +kernel)
  have k20 := hts (.fieldLink RX2 20 "LimitTokens$Prover" "sealer" "LLimitTokens$Sealer;") (by decide +kernel)
  have k37 := hts (.fieldLink RX2 37 "LimitTokens$Prover" "keys" "[LLimitTokens$Row;") (by decide +kernel)
  have k115 := hts (.fieldLink RX2 115 "LimitTokens$Limit" "lock" "LLimitTokens$Row;") (by decide +kernel)
  have k33 := hts (.fieldLink RX2 33 "LimitTokens$Prover" "signs" "[LLimitTokens$Row;") (by decide +kernel)
  have k101 := hts (.fieldLink RX2 101 "LimitTokens$Limit" "text" "LLimitTokens$Row;") (by decide +kernel)
  have k54 := hts (.fieldLink RX2 54 "LimitTokens$Prover" "proved" "I") (by decide +kernel)
  have k91 := hts (.fieldLink RX2 91 "LimitTokens$Token" "sign" "LLimitTokens$Row;") (by decide +kernel)
  have hl := lv_entry ([.ref (E.1 + 2), .int (nI t), .int (nI i), .int (nI d0)]) (n := 7) (Nat.le_of_ble_eq_true rfl)
  rw [lg_entry_eq]
  generalize (lg_sl ([.ref (E.1 + 2), .int (nI t), .int (nI i), .int (nI d0)]) ++ List.replicate (7 - (lg_sl ([.ref (E.1 + 2), .int (nI t), .int (nI i), .int (nI d0)])).length) Slot.unset).toArray = ls at hl ⊢
  have hl : lv_has ls 7 [(0, .ref (E.1 + 2)), (1, .int (nI t)), (2, .int (nI i)), (3, .int (nI d0))] := hl
  obtain ⟨htk, hok⟩ := hE.1 t ht hDt
  have hn := hok.2.2.1
  have hi10 : i < 10 := by omega
  have hL := htk.2.2.2 i hi
  have hoL := hok.2.2.2 i hi
  obtain ⟨htp, hokp⟩ := hE.1 pt hpt8 hDp
  have hlk : ((tk t).2.2.getD i lz).2.length = 32 := by rcases hoL.2.2.1 with h | h; (exact absurd h hoth); (exact h)
  refine lv_aload_n hx hb dX2_passOthers_0 rfl (lv_at hl 0 rfl) ?_
  refine w_gr 2 0 3 (T := TX2) (N := 11) hx hb hts in2 hown hK.1 hM (by decide) (by decide) (by decide) (by decide) (by decide) rfl (by decide) k11 rfl dX2_passOthers_1 ?_
  refine lv_iload_n hx hb dX2_passOthers_4 rfl (lv_at hl 1 rfl) ?_
  refine w_ald (N := 8) 4 hx hb hK.1 hM (by decide) (by first | rfl | (rw [(by decide)]; rfl)) (by first | decide | (rw [(by decide)]; decide)) (by decide) (vp_in_nI ht (by omega)) (25 + 60 * t) (sf_3 ht) dX2_passOthers_5 ?_
  refine w_gr 6 2 (25 + 60 * t + 5) (T := TX6) (N := 5) hx hb hts in6 hown hK.1 hM ((tok_t ht)).lt ((tok_t ht)).k ((tok_t ht)).n ((tok_t ht)).f2 (by decide) rfl (by decide) k74 rfl dX2_passOthers_6 ?_
  refine lv_iload_n hx hb dX2_passOthers_9 rfl (lv_at hl 2 rfl) ?_
  refine w_ald (N := 10) 2 hx hb hK.1 hM ((tok_t ht)).lt5 (by first | rfl | (rw [((tok_t ht)).k5]; rfl)) (by first | decide | (rw [((tok_t ht)).k5]; decide)) ((tok_t ht)).n5 (vp_in_nI hi10 (by omega)) (25 + 60 * t + 6 + 5 * i) (by rw [nI_clamp (by omega)]; exact (tok_t ht).fl hi10) dX2_passOthers_10 ?_
  refine lv_astore (lv' := [(4, .ref (E.1 + (25 + 60 * t + 6 + 5 * i))), (0, .ref (E.1 + 2)), (1, .int (nI t)), (2, .int (nI i)), (3, .int (nI d0))]) hx hb dX2_passOthers_11 hl (by decide) rfl (fun ls hl => ?_)
  refine lv_iload_n hx hb dX2_passOthers_13 rfl (lv_at hl 4 rfl) ?_
  refine lv_iconst (v := 1) hx hb dX2_passOthers_14 (by decide) ?_
  refine lv_iadd hx hb dX2_passOthers_15 ?_
  refine lv_bipush (v := 8) hx hb dX2_passOthers_16 (by decide) ?_
  have join34 : ∀ (Va : Vt) (H : Heap) (locs : List Loc) (ls : Array Slot) (hv : Int32) (ehv : hv = (match fH (fun h => m0.testBit h && decide ((tk h).1 = ((tk t).2.2.getD i lz).1)) 8 0 with | none => -1 | some h => nI h)) (eVa : Va = V), Wd E Va H → va_S (AE E) s.heap H locs → lv_has ls 7 [(0, .ref (E.1 + 2)), (1, .int (nI t)), (2, .int (nI i)), (3, .int (nI d0)), (4, .ref (E.1 + (25 + 60 * t + 6 + 5 * i)))] → W p l e (headSpec wsX2_passOthers (rmD (7 + 2 * f))).room s m ([.ref (E.1 + 2), .int (nI t), .int (nI i), .int (nI d0)] : List Value).toArray below meth c H locs 0 0 (MQ below (QI E (fun V' => Wd E V') (fun r V' => wkP (wOne (V 22) tk (tk pt).2.1 (wk (V 22) tk (tk pt).2.1 f) t i ((tk t).2.2.getD i lz) s0 (m0, bg)) r V V' d0 ∧ frW V V' d0)) ([.ref (E.1 + 2), .int (nI t), .int (nI i), .int (nI d0)] : List Value).toArray s 0 0 (AE E)) (F0 m 34 ls [.int hv]) := by
    intro Va H locs ls hv ehv eVa hM hS hl
    refine lv_istore (lv' := [(5, .int hv), (0, .ref (E.1 + 2)), (1, .int (nI t)), (2, .int (nI i)), (3, .int (nI d0)), (4, .ref (E.1 + (25 + 60 * t + 6 + 5 * i)))]) hx hb dX2_passOthers_34 hl (by decide) rfl (fun ls hl => ?_)
    refine lv_iload hx hb dX2_passOthers_36 (lv_at hl 0 rfl) ?_
    refine lv_iconst (v := (-1)) hx hb dX2_passOthers_38 (by decide) ?_
    refine lv_icmp_ne (tgt := 50) hx hb dX2_passOthers_39 (by decide) (fun c_39 => ?_) (fun c_39 => ?_)
    · obtain ⟨h, hfh⟩ : ∃ h, fH (fun h => m0.testBit h && decide ((tk h).1 = ((tk t).2.2.getD i lz).1)) 8 0 = some h := by
        cases hq : fH (fun h => m0.testBit h && decide ((tk h).1 = ((tk t).2.2.getD i lz).1)) 8 0 with
        | none => rw [hq] at ehv; exact absurd ehv c_39
        | some h => exact ⟨h, rfl⟩
      have ehv2 : hv = nI h := by rw [ehv, hfh]
      clear ehv
      have hfs := fH_some hfh
      have hbh : m0.testBit h = true := by have := hfs.1; simp only [Bool.and_eq_true] at this; exact this.1
      have hh8 : h < 8 := by omega
      have hd1 : d0 + 1 < 8 := by have := cnt_pos hm2 hh8 hbh; omega
      have hDh := hmD h hh8 hbh
      subst ehv2
      refine lv_aload_n hx hb dX2_passOthers_50 rfl (lv_at hl 1 rfl) ?_
      refine lv_dup hx hb dX2_passOthers_51 rfl ?_
      refine w_gi 2 6 (T := TX2) (N := 11) hx hb hts in2 hown hK.1 hM (by decide) (by decide) (by decide) (by decide) (by decide) rfl (by decide) k57 rfl dX2_passOthers_52 ?_
      have q : (Va 2 6 : Int32) = nI m0 := by rw [eVa]; exact hm
      refine lv_eqi q ?_
      refine lv_iconst (v := 1) hx hb dX2_passOthers_55 (by decide) ?_
      refine lv_iload hx hb dX2_passOthers_56 (lv_at hl 0 rfl) ?_
      refine lv_ishl hx hb dX2_passOthers_58 ?_
      refine lv_iconst (v := (-1)) hx hb dX2_passOthers_59 (by decide) ?_
      refine lv_ixor hx hb dX2_passOthers_60 ?_
      refine lv_iand hx hb dX2_passOthers_61 ?_
      have q : ((nI m0) &&& ((1 <<< ((nI h) &&& 31)) ^^^ (-1)) : Int32) = nI (clr m0 h) := bit_clr m0 hm2 h hh8
      refine lv_eqi q ?_
      refine w_pi 2 6 (T := TX2) (N := 11) hx hb hts in2 tyX2 tyX2_ok nmX2 hown hK.1 hM hS (by decide) (by decide) (by decide) (by decide) (by decide) rfl (by decide) k57 rfl rfl rfl rfl dX2_passOthers_62 (fun H locs hM hS => ?_)
      generalize hV62 : up2 Va 2 6 (nI (clr m0 h)) = V62 at hM
      refine lv_aload_n hx hb dX2_passOthers_65 rfl (lv_at hl 1 rfl) ?_
      refine lv_dup hx hb dX2_passOthers_66 rfl ?_
      refine w_gi 2 10 (T := TX2) (N := 11) hx hb hts in2 hown hK.1 hM (by decide) (by decide) (by decide) (by decide) (by decide) rfl (by decide) k47 rfl dX2_passOthers_67 ?_
      have q : (V62 2 10 : Int32) = nI bg := by rw [← hV62, up2_o _ _ (by omega)]; exact by rw [eVa]; exact hbg
      refine lv_eqi q ?_
      refine lv_iconst (v := 1) hx hb dX2_passOthers_70 (by decide) ?_
      refine lv_iadd hx hb dX2_passOthers_71 ?_
      have q : ((nI bg) + 1 : Int32) = nI (bg + 1) := nI_1 _
      refine lv_eqi q ?_
      refine w_pi 2 10 (T := TX2) (N := 11) hx hb hts in2 tyX2 tyX2_ok nmX2 hown hK.1 hM hS (by decide) (by decide) (by decide) (by decide) (by decide) rfl (by decide) k47 rfl rfl rfl rfl dX2_passOthers_72 (fun H locs hM hS => ?_)
      generalize hV72 : up2 V62 2 10 (nI (bg + 1)) = V72 at hM
      have o72 : ∀ j, j ≠ 2 → V72 j = V j := fun j hj => by subst hV72 hV62; rw [up2_k _ _ hj, up2_k _ _ hj, eVa]
      rw [eVa] at hV62
      refine lv_aload_n hx hb dX2_passOthers_75 rfl (lv_at hl 1 rfl) ?_
      refine w_gr 2 1 4 (T := TX2) (N := 11) hx hb hts in2 hown hK.1 hM (by decide) (by decide) (by decide) (by decide) (by decide) rfl (by decide) k20 rfl dX2_passOthers_76 ?_
      refine lv_aload_n hx hb dX2_passOthers_79 rfl (lv_at hl 1 rfl) ?_
      refine w_gr 2 4 24 (T := TX2) (N := 11) hx hb hts in2 hown hK.1 hM (by decide) (by decide) (by decide) (by decide) (by decide) rfl (by decide) k37 rfl dX2_passOthers_80 ?_
      refine lv_iload_n hx hb dX2_passOthers_83 rfl (lv_at hl 4 rfl) ?_
      refine w_ald (N := 8) 3 hx hb hK.1 hM (by decide) (by first | rfl | (rw [(by decide)]; rfl)) (by first | decide | (rw [(by decide)]; decide)) (by decide) (vp_in_nI hd (by omega)) (83 + 60 * d0) (sf_24 hd) dX2_passOthers_84 ?_
      refine lv_aload hx hb dX2_passOthers_85 (lv_at hl 5 rfl) ?_
      refine w_gr 1 1 (25 + 60 * t + 6 + 5 * i + 3) (T := TX1) (N := 2) hx hb hts in1 hown hK.1 hM (((tok_t ht).lim hi10)).lt (((tok_t ht).lim hi10)).k (((tok_t ht).lim hi10)).n (((tok_t ht).lim hi10)).f1 (by decide) rfl (by decide) k115 rfl dX2_passOthers_87 ?_
      refine lv_aload_n hx hb dX2_passOthers_90 rfl (lv_at hl 1 rfl) ?_
      refine w_gr 2 3 23 (T := TX2) (N := 11) hx hb hts in2 hown hK.1 hM (by decide) (by decide) (by decide) (by decide) (by decide) rfl (by decide) k33 rfl dX2_passOthers_91 ?_
      refine lv_iload_n hx hb dX2_passOthers_94 rfl (lv_at hl 4 rfl) ?_
      refine w_ald (N := 8) 3 hx hb hK.1 hM (by decide) (by first | rfl | (rw [(by decide)]; rfl)) (by first | decide | (rw [(by decide)]; decide)) (by decide) (vp_in_nI hd (by omega)) (81 + 60 * d0) (sf_23 hd) dX2_passOthers_95 ?_
      refine lv_aload hx hb dX2_passOthers_96 (lv_at hl 5 rfl) ?_
      refine w_gr 1 0 (25 + 60 * t + 6 + 5 * i + 1) (T := TX1) (N := 2) hx hb hts in1 hown hK.1 hM (((tok_t ht).lim hi10)).lt (((tok_t ht).lim hi10)).k (((tok_t ht).lim hi10)).n (((tok_t ht).lim hi10)).f0 (by decide) rfl (by decide) k101 rfl dX2_passOthers_98 ?_
      refine w_cVv (C := RX4) (As := [.ref (E.1 + (83 + 60 * d0)), .ref (E.1 + (25 + 60 * t + 6 + 5 * i + 3)), .ref (E.1 + (81 + 60 * d0)), .ref (E.1 + (25 + 60 * t + 6 + 5 * i + 1))]) (rest := []) ⟨hx, hb, hml, hown, hts⟩ (c_X4_turnKey l (rw_K d0 hd) (by decide) (by omega) ((tok_t ht).lim hi10).lock (by omega) (rw_S d0 hd) (by omega) ((tok_t ht).lim hi10).text (by omega) (hL.2.keep (o72 _ (by omega)) (o72 _ (by omega))) (hs.keep (o72 _ (by omega)) (o72 _ (by omega))) (hL.1.keep (o72 _ (by omega)) (o72 _ (by omega))) hlk (by decide) (by omega) (by decide) hoL.2.1 (by decide)) (cwV 4 hts gX2_passOthers_X4_turnKey rfl rfl rfl (by decide +kernel) ⟨(by show 4 + 1 ≤ 7 + 2 * f; omega), (by show 8 + (6 + 11) + 60 * 4 ≤ 60 * (7 + 2 * f); omega)⟩) (w_recv (ci := 4) hK hM (by decide) (by decide) (by decide) rfl) hM hK hS rfl hl.1 rfl (lv_room (Nat.le_of_ble_eq_true rfl)) dX2_passOthers_101 ⟨Nat.le_of_ble_eq_true rfl, Nat.le_of_ble_eq_true rfl⟩ (fun V101 H locs hp101 hM hS => ?_)
      have e101 : V101 2 = V72 2 := hp101.2 2 (by omega) (by omega) (by omega)
      have e22 : V101 22 = V 22 := by rw [hp101.2 22 (by omega) (by omega) (by omega)]; exact o72 22 (by decide)
      have f101 : frW V V101 d0 := (frW.of2 o72).trans (frW.ofK hp101.2 (Nat.le_refl _) hd)
      have hf1 : 0 < f := by omega
      have hh := clr_lt m0 hm2 h hh8
      refine lv_aload_n hx hb dX2_passOthers_104 rfl (lv_at hl 1 rfl) ?_
      refine lv_iload hx hb dX2_passOthers_105 (lv_at hl 0 rfl) ?_
      refine lv_aload_n hx hb dX2_passOthers_107 rfl (lv_at hl 1 rfl) ?_
      refine w_gr 2 4 24 (T := TX2) (N := 11) hx hb hts in2 hown hK.1 hM (by decide) (by decide) (by decide) (by decide) (by decide) rfl (by decide) k37 rfl dX2_passOthers_108 ?_
      refine lv_iload_n hx hb dX2_passOthers_111 rfl (lv_at hl 4 rfl) ?_
      refine w_ald (N := 8) 3 hx hb hK.1 hM (by decide) (by first | rfl | (rw [(by decide)]; rfl)) (by first | decide | (rw [(by decide)]; decide)) (by decide) (vp_in_nI hd (by omega)) (83 + 60 * d0) (sf_24 hd) dX2_passOthers_112 ?_
      refine lv_iload_n hx hb dX2_passOthers_113 rfl (lv_at hl 4 rfl) ?_
      refine lv_iconst (v := 1) hx hb dX2_passOthers_114 (by decide) ?_
      refine lv_iadd hx hb dX2_passOthers_115 ?_
      have q : ((nI d0) + 1 : Int32) = nI (d0 + 1) := nI_1 _
      refine lv_eqi q ?_
      refine w_cVi (C := RX2) (As := [.int (nI h), .ref (E.1 + (83 + 60 * d0)), .int (nI (d0 + 1))]) (rest := []) ⟨hx, hb, hml, hown, hts⟩ (hW hf1 (hE.mv f101) (pt := pt) (by rw [e101, ← hV72, up2_o _ _ (by decide), ← hV62, up2_o _ _ (by decide)]; exact hpt) hpt8 hDp (t := h) hh8 hDh (d0 := d0 + 1) (by omega) (m0 := clr m0 h) (bg := bg + 1) (by rw [e101, ← hV72, up2_o _ _ (by decide), ← hV62, up2_s]) hh.1 (fun g hg hx => hmD g hg (by rw [clr_bit m0 hm2 h hh8 g hg, Bool.and_eq_true] at hx; exact hx.1)) (by rw [e101, ← hV72, up2_s]) (by have := cnt_pos hm2 hh8 hbh; omega) (rw_K d0 hd) (by omega) hp101.1 (by rw [xorL_len (by rw [hlk, hmac_len]), hlk]; omega) (by rw [xorL_len (by rw [hlk, hmac_len]), hlk]; omega)) (cwV 3 hts gX2_passOthers_X2_walk rfl rfl rfl (by decide +kernel) ⟨(by show (6 + 2 * f) + 1 ≤ 7 + 2 * f; omega), (by show 8 + (7 + 11) + 60 * (6 + 2 * f) ≤ 60 * (7 + 2 * f); omega)⟩) (w_recv (ci := 2) hK hM (by decide) (by decide) (by decide) rfl) hM hK hS rfl hl.1 rfl (lv_room (Nat.le_of_ble_eq_true rfl)) dX2_passOthers_116 ⟨Nat.le_of_ble_eq_true rfl, Nat.le_of_ble_eq_true rfl⟩ (fun r116 V116 H locs hp116 hM hS => ?_)
      rw [e22] at hp116
      have f116 : frW V V116 d0 := f101.trans (hp116.2.wide (by omega))
      have wok := (wk_ok (V 22) tk (tk pt).2.1 f) h (xorL ((tk t).2.2.getD i lz).2 (hmac s0 ((tk t).2.2.getD i lz).1)) (clr m0 h, bg + 1) hh.1
      have p116 : V116 2 5 = nI pt := by rw [hp116.1.1, e101, ← hV72, up2_o _ _ (by decide), ← hV62, up2_o _ _ (by decide)]; exact hpt
      refine lv_if_ne (tgt := 124) hx hb dX2_passOthers_119 (by decide) (fun c_119 => ?_) (fun c_119 => ?_)
      · obtain ⟨s2, hs2e⟩ := hp116.1.f c_119
        have hs2 := hp116.1.2.2.2.2 s2 hs2e
        have hs2l := wok.2 s2 hs2e
        refine lv_aload_n hx hb dX2_passOthers_124 rfl (lv_at hl 1 rfl) ?_
        refine w_gr 2 3 23 (T := TX2) (N := 11) hx hb hts in2 hown hK.1 hM (by decide) (by decide) (by decide) (by decide) (by decide) rfl (by decide) k33 rfl dX2_passOthers_125 ?_
        refine lv_iload_n hx hb dX2_passOthers_128 rfl (lv_at hl 4 rfl) ?_
        refine lv_iconst (v := 1) hx hb dX2_passOthers_129 (by decide) ?_
        refine lv_iadd hx hb dX2_passOthers_130 ?_
        refine w_ald (N := 8) 3 hx hb hK.1 hM (by decide) (by first | rfl | (rw [(by decide)]; rfl)) (by first | decide | (rw [(by decide)]; decide)) (by decide) (by rw [nI_1]; exact vp_in_nI hd1 (by omega)) (81 + 60 * (d0 + 1)) (by rw [nI_1]; exact sf_23 hd1) dX2_passOthers_131 ?_
        refine lv_astore (lv' := [(6, .ref (E.1 + (81 + 60 * (d0 + 1)))), (5, .int (nI h)), (0, .ref (E.1 + 2)), (1, .int (nI t)), (2, .int (nI i)), (3, .int (nI d0)), (4, .ref (E.1 + (25 + 60 * t + 6 + 5 * i)))]) hx hb dX2_passOthers_132 hl (by decide) rfl (fun ls hl => ?_)
        refine lv_aload_n hx hb dX2_passOthers_134 rfl (lv_at hl 2 rfl) ?_
        refine w_gr 2 1 4 (T := TX2) (N := 11) hx hb hts in2 hown hK.1 hM (by decide) (by decide) (by decide) (by decide) (by decide) rfl (by decide) k20 rfl dX2_passOthers_135 ?_
        refine lv_aload hx hb dX2_passOthers_138 (lv_at hl 0 rfl) ?_
        refine lv_aload_n hx hb dX2_passOthers_140 rfl (lv_at hl 2 rfl) ?_
        refine w_gr 2 0 3 (T := TX2) (N := 11) hx hb hts in2 hown hK.1 hM (by decide) (by decide) (by decide) (by decide) (by decide) rfl (by decide) k11 rfl dX2_passOthers_141 ?_
        refine lv_aload_n hx hb dX2_passOthers_144 rfl (lv_at hl 2 rfl) ?_
        refine w_gi 2 5 (T := TX2) (N := 11) hx hb hts in2 hown hK.1 hM (by decide) (by decide) (by decide) (by decide) (by decide) rfl (by decide) k54 rfl dX2_passOthers_145 ?_
        have q : (V116 2 5 : Int32) = nI pt := p116
        refine lv_eqi q ?_
        refine w_ald (N := 8) 4 hx hb hK.1 hM (by decide) (by first | rfl | (rw [(by decide)]; rfl)) (by first | decide | (rw [(by decide)]; decide)) (by decide) (vp_in_nI hpt8 (by omega)) (25 + 60 * pt) (sf_3 hpt8) dX2_passOthers_148 ?_
        refine w_gr 6 1 (25 + 60 * pt + 3) (T := TX6) (N := 5) hx hb hts in6 hown hK.1 hM ((tok_t hpt8)).lt ((tok_t hpt8)).k ((tok_t hpt8)).n ((tok_t hpt8)).f1 (by decide) rfl (by decide) k91 rfl dX2_passOthers_149 ?_
        refine w_cVv (C := RX4) (As := [.ref (E.1 + (81 + 60 * (d0 + 1))), .ref (E.1 + (25 + 60 * pt + 3))]) (rest := []) ⟨hx, hb, hml, hown, hts⟩ (c_X4_bindSign l (rw_S (d0 + 1) hd1) (by decide) (by omega) (tok_t hpt8).sign (by omega) hs2.2.2.2.2 ((htp.2.1.keep (f116 _ (by omega) (by omega) (by omega) (by omega)) (f116 _ (by omega) (by omega) (by omega) (by omega)))) hs2l hokp.2.1.1 (by decide) ((hE.mv f116).2)) (cwV 2 hts gX2_passOthers_X4_bindSign rfl rfl rfl (by decide +kernel) ⟨(by show 4 + 1 ≤ 7 + 2 * f; omega), (by show 8 + (3 + 11) + 60 * 4 ≤ 60 * (7 + 2 * f); omega)⟩) (w_recv (ci := 4) hK hM (by decide) (by decide) (by decide) rfl) hM hK hS rfl hl.1 rfl (lv_room (Nat.le_of_ble_eq_true rfl)) dX2_passOthers_152 ⟨Nat.le_of_ble_eq_true rfl, Nat.le_of_ble_eq_true rfl⟩ (fun V152 H locs hp152 hM hS => ?_)
        rw [show List.replicate 32 (0 : Int32) = zr from rfl] at hp152
        have f152 : frW V V152 d0 := f116.trans (frW.ofB hp152.2 (by omega) hd1)
        have e152 : V152 2 = V116 2 := hp152.2 2 (by omega) (by omega) (by omega)
        obtain ⟨hth, hokh⟩ := (hE.mv f152).1 h hh8 hDh
        refine lv_aload hx hb dX2_passOthers_155 (lv_at hl 0 rfl) ?_
        refine lv_aload_n hx hb dX2_passOthers_157 rfl (lv_at hl 2 rfl) ?_
        refine w_gr 2 0 3 (T := TX2) (N := 11) hx hb hts in2 hown hK.1 hM (by decide) (by decide) (by decide) (by decide) (by decide) rfl (by decide) k11 rfl dX2_passOthers_158 ?_
        refine lv_iload hx hb dX2_passOthers_161 (lv_at hl 1 rfl) ?_
        refine w_ald (N := 8) 4 hx hb hK.1 hM (by decide) (by first | rfl | (rw [(by decide)]; rfl)) (by first | decide | (rw [(by decide)]; decide)) (by decide) (vp_in_nI hh8 (by omega)) (25 + 60 * h) (sf_3 hh8) dX2_passOthers_163 ?_
        refine w_gr 6 1 (25 + 60 * h + 3) (T := TX6) (N := 5) hx hb hts in6 hown hK.1 hM ((tok_t hh8)).lt ((tok_t hh8)).k ((tok_t hh8)).n ((tok_t hh8)).f1 (by decide) rfl (by decide) k91 rfl dX2_passOthers_164 ?_
        refine w_cVi (C := RX3) (As := [.ref (E.1 + (25 + 60 * h + 3))]) (rest := []) ⟨hx, hb, hml, hown, hts⟩ (c_X3_isSameAs l (rw_S (d0 + 1) hd1) (tok_t hh8).sign hp152.1 hth.2.1 (by rw [hmac_len]; omega) (by rw [hokh.2.1.1]; omega)) (cwV 1 hts gX2_passOthers_X3_isSameAs rfl rfl rfl (by decide +kernel) ⟨(by show 0 + 1 ≤ 7 + 2 * f; omega), (by show 8 + (3 + 11) + 60 * 0 ≤ 60 * (7 + 2 * f); omega)⟩) (w_recv (ci := 3) hK hM ((rw_S (d0 + 1) hd1)).lt ((rw_S (d0 + 1) hd1)).k (by decide) rfl) hM hK hS rfl hl.1 rfl (lv_room (Nat.le_of_ble_eq_true rfl)) dX2_passOthers_167 ⟨Nat.le_of_ble_eq_true rfl, Nat.le_of_ble_eq_true rfl⟩ (fun r167 V167 H locs hp167 hM hS => ?_)
        obtain ⟨er167, eV⟩ := hp167
        rw [eV] at hM; clear eV
        refine lv_if_ne (tgt := 182) hx hb dX2_passOthers_170 (by decide) (fun c_170 => ?_) (fun c_170 => ?_)
        · have heq : hmac zr ((tk pt).2.1 ++ s2) = (tk h).2.1 := by by_cases q : hmac zr ((tk pt).2.1 ++ s2) = (tk h).2.1; (exact q); (rw [er167, if_neg q] at c_170; exact absurd rfl c_170)
          have hx1 := wOne_5 (q := V 22) (t := t) (i := i) (s := s0) (σ := (m0, bg)) (ps := (tk pt).2.1) hoth hfh hs2e heq
          have sk152 : ∀ j, (j = 81 + 60 * d0 ∨ j = 82 + 60 * d0) → V152 j = V j := fun j hj => by rw [hp152.2 j (by omega) (by omega) (by omega), hp116.2 j (by omega) (by omega) (by omega) (by omega), hp101.2 j (by omega) (by omega) (by omega)]; exact o72 j (by omega)
          refine lv_aload_n hx hb dX2_passOthers_182 rfl (lv_at hl 2 rfl) ?_
          refine w_gr 2 1 4 (T := TX2) (N := 11) hx hb hts in2 hown hK.1 hM (by decide) (by decide) (by decide) (by decide) (by decide) rfl (by decide) k20 rfl dX2_passOthers_183 ?_
          refine lv_aload_n hx hb dX2_passOthers_186 rfl (lv_at hl 2 rfl) ?_
          refine w_gr 2 3 23 (T := TX2) (N := 11) hx hb hts in2 hown hK.1 hM (by decide) (by decide) (by decide) (by decide) (by decide) rfl (by decide) k33 rfl dX2_passOthers_187 ?_
          refine lv_iload_n hx hb dX2_passOthers_190 rfl (lv_at hl 5 rfl) ?_
          refine w_ald (N := 8) 3 hx hb hK.1 hM (by decide) (by first | rfl | (rw [(by decide)]; rfl)) (by first | decide | (rw [(by decide)]; decide)) (by decide) (vp_in_nI hd (by omega)) (81 + 60 * d0) (sf_23 hd) dX2_passOthers_191 ?_
          refine lv_aload hx hb dX2_passOthers_192 (lv_at hl 6 rfl) ?_
          refine w_cVv (C := RX4) (As := [.ref (E.1 + (81 + 60 * d0)), .ref (E.1 + (25 + 60 * t + 6 + 5 * i))]) (rest := []) ⟨hx, hb, hml, hown, hts⟩ (c_X4_goOnOthers l (rw_S d0 hd) (by decide) (by omega) ((tok_t ht).lim hi10) (by omega) (by omega) (hs.keep (sk152 _ (by omega)) (sk152 _ (by omega))) (hL.1.keep (f152 _ (by omega) (by omega) (by omega) (by omega)) (f152 _ (by omega) (by omega) (by omega) (by omega))) (hL.2.keep (f152 _ (by omega) (by omega) (by omega) (by omega)) (f152 _ (by omega) (by omega) (by omega) (by omega))) (by omega) hoL.2.1 (by omega)) (cwV 2 hts gX2_passOthers_X4_goOnOthers rfl rfl rfl (by decide +kernel) ⟨(by show 4 + 1 ≤ 7 + 2 * f; omega), (by show 8 + (3 + 11) + 60 * 4 ≤ 60 * (7 + 2 * f); omega)⟩) (w_recv (ci := 4) hK hM (by decide) (by decide) (by decide) rfl) hM hK hS rfl hl.1 rfl (lv_room (Nat.le_of_ble_eq_true rfl)) dX2_passOthers_194 ⟨Nat.le_of_ble_eq_true rfl, Nat.le_of_ble_eq_true rfl⟩ (fun V194 H locs hp194 hM hS => ?_)
          have f194 : frW V V194 d0 := f152.trans (frW.ofB hp194.2 (Nat.le_refl _) hd)
          have e194 : V194 2 = V116 2 := by rw [hp194.2 2 (by omega) (by omega) (by omega)]; exact e152
          refine lv_iconst (v := 1) hx hb dX2_passOthers_197 (by decide) ?_
          exact w_zret V194 hx hb hret hK hS hM (⟨wkP.ofr hx1 (by rw [e194, p116, hpt]) (by rw [e194]; exact hp116.1.2.1) (by rw [e194]; exact hp116.1.2.2.1) (by rw [e194, hs2.2.1, hs2.2.2.1, hs2.2.2.2.1, e101, ← hV72, up2_o _ _ (by decide), up2_o _ _ (by decide), up2_o _ _ (by decide), ← hV62, up2_o _ _ (by decide), up2_o _ _ (by decide), up2_o _ _ (by decide)]; exact ⟨rfl, rfl, rfl⟩) hp194.1, f194⟩) (rfl) hlocks dX2_passOthers_198
        · have hne : ¬ hmac zr ((tk pt).2.1 ++ s2) = (tk h).2.1 := fun q => by rw [er167, if_pos q] at c_170; exact absurd c_170 (by decide)
          have hx1 := wOne_4 (q := V 22) (t := t) (i := i) (s := s0) (σ := (m0, bg)) (ps := (tk pt).2.1) hoth hfh hs2e hne
          refine lv_aload_n hx hb dX2_passOthers_173 rfl (lv_at hl 2 rfl) ?_
          refine lv_iconst (v := 4) hx hb dX2_passOthers_174 (by decide) ?_
          refine lv_iload hx hb dX2_passOthers_175 (lv_at hl 1 rfl) ?_
          refine lv_iload_n hx hb dX2_passOthers_177 rfl (lv_at hl 4 rfl) ?_
          refine w_cVi (C := RX2) (As := [.int 4, .int (nI h), .int (nI i)]) (rest := []) ⟨hx, hb, hml, hown, hts⟩ (c_X2_stopAt l 4 (nI h) (nI i)) (cwV 3 hts gX2_passOthers_X2_stopAt rfl rfl rfl (by decide +kernel) ⟨(by show 0 + 1 ≤ 7 + 2 * f; omega), (by show 8 + (4 + 11) + 60 * 0 ≤ 60 * (7 + 2 * f); omega)⟩) (w_recv (ci := 2) hK hM (by decide) (by decide) (by decide) rfl) hM hK hS rfl hl.1 rfl (lv_room (Nat.le_of_ble_eq_true rfl)) dX2_passOthers_178 ⟨Nat.le_of_ble_eq_true rfl, Nat.le_of_ble_eq_true rfl⟩ (fun r178 V178 H locs hp178 hM hS => ?_)
          have q : (r178 : Int32) = 0 := hp178.1
          refine lv_eqi q ?_
          exact w_zret V178 hx hb hret hK hS hM (⟨wkP.ofl hx1 (by rw [hp178.2.2.2.2.1 5 (by omega), e152, p116, hpt]) (by rw [hp178.2.2.2.2.1 6 (by omega), e152]; exact hp116.1.2.1) (by rw [hp178.2.2.2.2.1 10 (by omega), e152]; exact hp116.1.2.2.1) ⟨hp178.2.1, hp178.2.2.1, hp178.2.2.2.1⟩, f152.trans (frW.of2 hp178.2.2.2.2.2)⟩) (rfl) hlocks dX2_passOthers_181
      · obtain ⟨fl, hfl⟩ := hp116.1.t c_119
        have hx1 := wOne_r (q := V 22) (t := t) (i := i) (s := s0) (σ := (m0, bg)) (ps := (tk pt).2.1) hoth hfh hfl
        refine lv_iconst (v := 0) hx hb dX2_passOthers_122 (by decide) ?_
        exact w_zret V116 hx hb hret hK hS hM (⟨wkP.ofl hx1 (by rw [p116, hpt]) hp116.1.2.1 hp116.1.2.2.1 (hp116.1.2.2.2.1 fl hfl).2, f116⟩) (rfl) hlocks dX2_passOthers_123
    · have hfn : fH (fun h => m0.testBit h && decide ((tk h).1 = ((tk t).2.2.getD i lz).1)) 8 0 = none := by
        cases hq : fH (fun h => m0.testBit h && decide ((tk h).1 = ((tk t).2.2.getD i lz).1)) 8 0 with
        | none => rfl
        | some h => rw [hq] at ehv; exact absurd (ehv.symm.trans c_39) (nI_n1 (by have := (fH_some hq).2.2; omega))
      refine lv_aload_n hx hb dX2_passOthers_42 rfl (lv_at hl 1 rfl) ?_
      refine lv_iconst (v := 3) hx hb dX2_passOthers_43 (by decide) ?_
      refine lv_iload_n hx hb dX2_passOthers_44 rfl (lv_at hl 2 rfl) ?_
      refine lv_iload_n hx hb dX2_passOthers_45 rfl (lv_at hl 3 rfl) ?_
      refine w_cVi (C := RX2) (As := [.int 3, .int (nI t), .int (nI i)]) (rest := []) ⟨hx, hb, hml, hown, hts⟩ (c_X2_stopAt l 3 (nI t) (nI i)) (cwV 3 hts gX2_passOthers_X2_stopAt rfl rfl rfl (by decide +kernel) ⟨(by show 0 + 1 ≤ 7 + 2 * f; omega), (by show 8 + (4 + 11) + 60 * 0 ≤ 60 * (7 + 2 * f); omega)⟩) (w_recv (ci := 2) hK hM (by decide) (by decide) (by decide) rfl) hM hK hS rfl hl.1 rfl (lv_room (Nat.le_of_ble_eq_true rfl)) dX2_passOthers_46 ⟨Nat.le_of_ble_eq_true rfl, Nat.le_of_ble_eq_true rfl⟩ (fun r46 V46 H locs hp46 hM hS => ?_)
      have q : (r46 : Int32) = 0 := hp46.1
      refine lv_eqi q ?_
      exact w_zret V46 hx hb hret hK hS hM (by subst eVa; exact ⟨wkP.ofl (wOne_3 hoth hfn) (hp46.2.2.2.2.1 5 (by omega)) (by rw [hp46.2.2.2.2.1 6 (by omega)]; exact hm) (by rw [hp46.2.2.2.2.1 10 (by omega)]; exact hbg) ⟨hp46.2.1, hp46.2.2.1, hp46.2.2.2.1⟩, frW.of2 hp46.2.2.2.2.2⟩) (rfl) hlocks dX2_passOthers_49
  refine lv_icmp_ge (tgt := 33) hx hb dX2_passOthers_18 (by decide) (fun c_18 => ?_) (fun c_18 => ?_)
  · refine lv_iconst (v := (-1)) hx hb dX2_passOthers_33 (by decide) ?_
    exact join34 V _ _ _ _ (by first | exact er27 | (rw [fH_none (fun h _ h2 => by simp only [cnt_0 m0 hm2 (by rw [nI_1] at c_18; have := (nI_leI (a := 8) (by omega) (by omega)).mp c_18; omega) h (by omega), Bool.false_and])])) rfl hM hS (lv_sub hl [1, 2, 3, 4, 0] rfl)
  · refine lv_aload_n hx hb dX2_passOthers_21 rfl (lv_at hl 1 rfl) ?_
    refine lv_aload hx hb dX2_passOthers_22 (lv_at hl 0 rfl) ?_
    refine w_gr 1 0 (25 + 60 * t + 6 + 5 * i + 1) (T := TX1) (N := 2) hx hb hts in1 hown hK.1 hM (((tok_t ht).lim hi10)).lt (((tok_t ht).lim hi10)).k (((tok_t ht).lim hi10)).n (((tok_t ht).lim hi10)).f0 (by decide) rfl (by decide) k101 rfl dX2_passOthers_24 ?_
    refine w_cVi (C := RX2) (As := [.ref (E.1 + (25 + 60 * t + 6 + 5 * i + 1))]) (rest := []) ⟨hx, hb, hml, hown, hts⟩ (c_X2_helperNamed l hE ((tok_t ht).lim hi10).text hL.1 hoL.2.1 hm hm2 hmD) (cwV 1 hts gX2_passOthers_X2_helperNamed rfl rfl rfl (by decide +kernel) ⟨(by show 1 + 1 ≤ 7 + 2 * f; omega), (by show 8 + (3 + 11) + 60 * 1 ≤ 60 * (7 + 2 * f); omega)⟩) (w_recv (ci := 2) hK hM (by decide) (by decide) (by decide) rfl) hM hK hS rfl hl.1 rfl (lv_room (Nat.le_of_ble_eq_true rfl)) dX2_passOthers_27 ⟨Nat.le_of_ble_eq_true rfl, Nat.le_of_ble_eq_true rfl⟩ (fun r27 V27 H locs hp27 hM hS => ?_)
    obtain ⟨er27, eV⟩ := hp27
    rw [eV] at hM; clear eV
    refine lv_goto (tgt := 34) hx hb dX2_passOthers_30 (by decide) ?_
    exact join34 V _ _ _ _ (by first | exact er27 | (rw [fH_none (fun h _ h2 => by simp only [cnt_0 m0 hm2 (by rw [nI_1] at c_18; have := (nI_leI (a := 8) (by omega) (by omega)).mp c_18; omega) h (by omega), Bool.false_and])])) rfl hM hS (lv_sub hl [1, 2, 3, 4, 0] rfl)
