set_option maxHeartbeats 4000000 in
set_option maxRecDepth 100000 in
theorem c_X2_passOwn (l : Launch) {E : En} {V : Vt} {tk : Nat → Tk} {D : Nat → Bool} (hE : tkE V tk D) {t : Nat} (ht : t < 8) (hDt : D t = true) {d0 : Nat} (hd : d0 < 8) {s0 : List Int32} (hs : rowIs V (81 + 60 * d0) s0) (hsl : s0.length = 32) {i : Nat} (hi : i < (tk t).2.2.length) {m0 bg : Nat} (hm : V 2 6 = nI m0) (hm2 : m0 < 256) (hbg : V 2 10 = nI bg) (hown0 : ((tk t).2.2.getD i lz).2 = []) (ps : List Int32) (rc : Nat → List Int32 → Nat × Nat → WR) : CI l yX2_passOwn wsX2_passOwn 5 E V [.ref (E.1 + 2), .int (nI t), .int (nI i), .int (nI d0)] (fun r V' => wkP (wOne (V 22) tk ps rc t i ((tk t).2.2.getD i lz) s0 (m0, bg)) r V V' d0 ∧ frW V V' d0) := by
  refine Met.ofW (cc := cX2_passOwn) (maxL := 6) (ret := (some .boolean)) (by decide) rfl ?_
  intro p e s m args below meth c s₁ B hml hv
  obtain ⟨rfl, hM, hK⟩ := hv
  have hx := B.exec
  have hb := B.bytes
  have hret := B.returns
  have hts := atoms_spec (ws := wsX2_passOwn) B.pre
  have hown : s.vm.findClass RX2 = some m.cls := findClass_of_methodNamed B.named
  have hlocks := B.notSynchronized
  have hsz : s.heap.size = E.1 + 610 := hM.1
  have hS : va_S (AE E) s.heap s.heap [] := va_S.rf
  have in1 : ∀ w ∈ u_ws RX1 TX1 2, w ∈ wsX2_passOwn := by decide +kernel
  have in2 : ∀ w ∈ u_ws RX2 TX2 11, w ∈ wsX2_passOwn := by decide +kernel
  have in6 : ∀ w ∈ u_ws RX6 TX6 5, w ∈ wsX2_passOwn := by decide +kernel
  have k11 := hts (.fieldLink RX2 11 "LimitTokens$Prover" "tokens" "[LLimitTokens$Token;") (by decide +kernel)
  have k74 := hts (.fieldLink RX2 74 "LimitTokens$Token" "limits" "[LLimitTokens$Limit;") (by decide +kernel)
  have k27 := hts (.fieldLink RX2 27 "LimitTokens$Prover" "judge" "LLimitTokens$Judge;") (by decide +kernel)
  have k101 := hts (.fieldLink RX2 101 "LimitTokens$Limit" "text" "LLimitTokens$Row;") (by decide +kernel)
  have k20 := hts (.fieldLink RX2 20 "LimitTokens$Prover" "sealer" "LLimitTokens$Sealer;") (by decide +kernel)
  have k33 := hts (.fieldLink RX2 33 "LimitTokens$Prover" "signs" "[LLimitTokens$Row;") (by decide +kernel)
  have hl := lv_entry ([.ref (E.1 + 2), .int (nI t), .int (nI i), .int (nI d0)]) (n := 6) (Nat.le_of_ble_eq_true rfl)
  rw [lg_entry_eq]
  generalize (lg_sl ([.ref (E.1 + 2), .int (nI t), .int (nI i), .int (nI d0)]) ++ List.replicate (6 - (lg_sl ([.ref (E.1 + 2), .int (nI t), .int (nI i), .int (nI d0)])).length) Slot.unset).toArray = ls at hl ⊢
  have hl : lv_has ls 6 [(0, .ref (E.1 + 2)), (1, .int (nI t)), (2, .int (nI i)), (3, .int (nI d0))] := hl
  obtain ⟨htk, hok⟩ := hE.1 t ht hDt
  have hn := hok.2.2.1
  have hi10 : i < 10 := by omega
  have hL := htk.2.2.2 i hi
  have hoL := hok.2.2.2 i hi
  refine lv_aload_n hx hb dX2_passOwn_0 rfl (lv_at hl 0 rfl) ?_
  refine w_gr 2 0 3 (T := TX2) (N := 11) hx hb hts in2 hown hK.1 hM (by decide) (by decide) (by decide) (by decide) (by decide) rfl (by decide) k11 rfl dX2_passOwn_1 ?_
  refine lv_iload_n hx hb dX2_passOwn_4 rfl (lv_at hl 1 rfl) ?_
  refine w_ald (N := 8) 4 hx hb hK.1 hM (by decide) (by first | rfl | (rw [(by decide)]; rfl)) (by first | decide | (rw [(by decide)]; decide)) (by decide) (vp_in_nI ht (by omega)) (25 + 60 * t) (sf_3 ht) dX2_passOwn_5 ?_
  refine w_gr 6 2 (25 + 60 * t + 5) (T := TX6) (N := 5) hx hb hts in6 hown hK.1 hM ((tok_t ht)).lt ((tok_t ht)).k ((tok_t ht)).n ((tok_t ht)).f2 (by decide) rfl (by decide) k74 rfl dX2_passOwn_6 ?_
  refine lv_iload_n hx hb dX2_passOwn_9 rfl (lv_at hl 2 rfl) ?_
  refine w_ald (N := 10) 2 hx hb hK.1 hM ((tok_t ht)).lt5 (by first | rfl | (rw [((tok_t ht)).k5]; rfl)) (by first | decide | (rw [((tok_t ht)).k5]; decide)) ((tok_t ht)).n5 (vp_in_nI hi10 (by omega)) (25 + 60 * t + 6 + 5 * i) (by rw [nI_clamp (by omega)]; exact (tok_t ht).fl hi10) dX2_passOwn_10 ?_
  refine lv_astore (lv' := [(4, .ref (E.1 + (25 + 60 * t + 6 + 5 * i))), (0, .ref (E.1 + 2)), (1, .int (nI t)), (2, .int (nI i)), (3, .int (nI d0))]) hx hb dX2_passOwn_11 hl (by decide) rfl (fun ls hl => ?_)
  refine lv_aload_n hx hb dX2_passOwn_13 rfl (lv_at hl 1 rfl) ?_
  refine w_gr 2 2 21 (T := TX2) (N := 11) hx hb hts in2 hown hK.1 hM (by decide) (by decide) (by decide) (by decide) (by decide) rfl (by decide) k27 rfl dX2_passOwn_14 ?_
  refine lv_aload hx hb dX2_passOwn_17 (lv_at hl 0 rfl) ?_
  refine w_gr 1 0 (25 + 60 * t + 6 + 5 * i + 1) (T := TX1) (N := 2) hx hb hts in1 hown hK.1 hM (((tok_t ht).lim hi10)).lt (((tok_t ht).lim hi10)).k (((tok_t ht).lim hi10)).n (((tok_t ht).lim hi10)).f0 (by decide) rfl (by decide) k101 rfl dX2_passOwn_19 ?_
  refine w_cVi (C := RX0) (As := [.ref (E.1 + (25 + 60 * t + 6 + 5 * i + 1))]) (rest := []) ⟨hx, hb, hml, hown, hts⟩ (c_X0_judgeText l ((tok_t ht).lim hi10).text hL.1 hoL.2.1) (cwV 1 hts gX2_passOwn_X0_judgeText rfl rfl rfl (by decide +kernel) ⟨Nat.le_of_ble_eq_true rfl, Nat.le_of_ble_eq_true rfl⟩) (w_recv (ci := 0) hK hM (by decide) (by decide) (by decide) rfl) hM hK hS rfl hl.1 rfl (lv_room (Nat.le_of_ble_eq_true rfl)) dX2_passOwn_22 ⟨Nat.le_of_ble_eq_true rfl, Nat.le_of_ble_eq_true rfl⟩ (fun r22 V22 H locs hp22 hM hS => ?_)
  have f22 : frW V V22 d0 := frW.of21 hp22.2
  refine lv_istore (lv' := [(5, .int r22), (4, .ref (E.1 + (25 + 60 * t + 6 + 5 * i))), (0, .ref (E.1 + 2)), (1, .int (nI t)), (2, .int (nI i)), (3, .int (nI d0))]) hx hb dX2_passOwn_25 hl (by decide) rfl (fun ls hl => ?_)
  refine lv_iload hx hb dX2_passOwn_27 (lv_at hl 0 rfl) ?_
  refine lv_iconst (v := 1) hx hb dX2_passOwn_29 (by decide) ?_
  refine lv_icmp_eq (tgt := 51) hx hb dX2_passOwn_30 (by decide) (fun c_30 => ?_) (fun c_30 => ?_)
  · refine lv_aload_n hx hb dX2_passOwn_51 rfl (lv_at hl 2 rfl) ?_
    refine w_gr 2 1 4 (T := TX2) (N := 11) hx hb hts in2 hown hK.1 hM (by decide) (by decide) (by decide) (by decide) (by decide) rfl (by decide) k20 rfl dX2_passOwn_52 ?_
    refine lv_aload_n hx hb dX2_passOwn_55 rfl (lv_at hl 2 rfl) ?_
    refine w_gr 2 3 23 (T := TX2) (N := 11) hx hb hts in2 hown hK.1 hM (by decide) (by decide) (by decide) (by decide) (by decide) rfl (by decide) k33 rfl dX2_passOwn_56 ?_
    refine lv_iload_n hx hb dX2_passOwn_59 rfl (lv_at hl 5 rfl) ?_
    refine w_ald (N := 8) 3 hx hb hK.1 hM (by decide) (by first | rfl | (rw [(by decide)]; rfl)) (by first | decide | (rw [(by decide)]; decide)) (by decide) (vp_in_nI hd (by omega)) (81 + 60 * d0) (sf_23 hd) dX2_passOwn_60 ?_
    refine lv_aload hx hb dX2_passOwn_61 (lv_at hl 1 rfl) ?_
    refine w_cVv (C := RX4) (As := [.ref (E.1 + (81 + 60 * d0)), .ref (E.1 + (25 + 60 * t + 6 + 5 * i))]) (rest := []) ⟨hx, hb, hml, hown, hts⟩ (c_X4_goOnOwn l (rw_S d0 hd) (by decide) (by omega) ((tok_t ht).lim hi10) (by omega) (hs.keep (hp22.2 _ (by omega)) (hp22.2 _ (by omega))) (hL.1.keep (hp22.2 _ (by omega)) (hp22.2 _ (by omega))) (by omega) hoL.2.1) (cwV 2 hts gX2_passOwn_X4_goOnOwn rfl rfl rfl (by decide +kernel) ⟨Nat.le_of_ble_eq_true rfl, Nat.le_of_ble_eq_true rfl⟩) (w_recv (ci := 4) hK hM (by decide) (by decide) (by decide) rfl) hM hK hS rfl hl.1 rfl (lv_room (Nat.le_of_ble_eq_true rfl)) dX2_passOwn_63 ⟨Nat.le_of_ble_eq_true rfl, Nat.le_of_ble_eq_true rfl⟩ (fun V63 H locs hp63 hM hS => ?_)
    have f63 : frW V V63 d0 := f22.trans (frW.ofB (hp63.2.wide (by omega) (Or.inl rfl)) (Nat.le_refl _) hd)
    refine lv_iconst (v := 1) hx hb dX2_passOwn_66 (by decide) ?_
    have hpost : (fun r V' => wkP (wOne (V 22) tk ps rc t i ((tk t).2.2.getD i lz) s0 (m0, bg)) r V V' d0 ∧ frW V V' d0) 1 V63 := by
      have e2 : V63 2 = V 2 := by rw [hp63.2 2 (by omega) (by omega) (by omega)]; exact hp22.2 2 (by decide)
      refine ⟨⟨by rw [e2], ?_, ?_, ?_, ?_⟩, f63⟩
      · rw [e2, hm]; unfold wOne; rw [if_pos hown0, if_pos (by rw [← hp22.1]; exact c_30)]
      · rw [e2, hbg]; unfold wOne; rw [if_pos hown0, if_pos (by rw [← hp22.1]; exact c_30)]
      · intro f hf; unfold wOne at hf; rw [if_pos hown0, if_pos (by rw [← hp22.1]; exact c_30)] at hf; cases hf
      · intro s hf; unfold wOne at hf; rw [if_pos hown0, if_pos (by rw [← hp22.1]; exact c_30)] at hf; cases hf; exact ⟨rfl, by rw [e2], by rw [e2], by rw [e2], hp63.1⟩
    exact w_zret V63 hx hb hret hK hS hM (hpost) (rfl) hlocks dX2_passOwn_67
  · refine lv_aload_n hx hb dX2_passOwn_33 rfl (lv_at hl 2 rfl) ?_
    refine lv_iload hx hb dX2_passOwn_34 (lv_at hl 0 rfl) ?_
    refine lv_iconst (v := (-1)) hx hb dX2_passOwn_36 (by decide) ?_
    have join45 : ∀ (Va : Vt) (H : Heap) (locs : List Loc) (ls : Array Slot) (cd : Int32) (ecd : cd = (if truth (V 22) ((tk t).2.2.getD i lz).1 = -1 then 1 else 2)) (eVa : Va = V22), Wd E Va H → va_S (AE E) s.heap H locs → lv_has ls 6 [(1, .int (nI t)), (2, .int (nI i))] → W p l e (headSpec wsX2_passOwn (rmD 5)).room s m ([.ref (E.1 + 2), .int (nI t), .int (nI i), .int (nI d0)] : List Value).toArray below meth c H locs 0 0 (MQ below (QI E (fun V' => Wd E V') (fun r V' => wkP (wOne (V 22) tk ps rc t i ((tk t).2.2.getD i lz) s0 (m0, bg)) r V V' d0 ∧ frW V V' d0)) ([.ref (E.1 + 2), .int (nI t), .int (nI i), .int (nI d0)] : List Value).toArray s 0 0 (AE E)) (F0 m 45 ls [.int cd, .ref (E.1 + 2)]) := by
      intro Va H locs ls cd ecd eVa hM hS hl
      refine lv_iload_n hx hb dX2_passOwn_45 rfl (lv_at hl 0 rfl) ?_
      refine lv_iload_n hx hb dX2_passOwn_46 rfl (lv_at hl 1 rfl) ?_
      refine w_cVi (C := RX2) (As := [.int cd, .int (nI t), .int (nI i)]) (rest := []) ⟨hx, hb, hml, hown, hts⟩ (c_X2_stopAt l cd (nI t) (nI i)) (cwV 3 hts gX2_passOwn_X2_stopAt rfl rfl rfl (by decide +kernel) ⟨Nat.le_of_ble_eq_true rfl, Nat.le_of_ble_eq_true rfl⟩) (w_recv (ci := 2) hK hM (by decide) (by decide) (by decide) rfl) hM hK hS rfl hl.1 rfl (lv_room (Nat.le_of_ble_eq_true rfl)) dX2_passOwn_47 ⟨Nat.le_of_ble_eq_true rfl, Nat.le_of_ble_eq_true rfl⟩ (fun r47 V47 H locs hp47 hM hS => ?_)
      have q : (r47 : Int32) = 0 := hp47.1
      refine lv_eqi q ?_
      have hpost : (fun r V' => wkP (wOne (V 22) tk ps rc t i ((tk t).2.2.getD i lz) s0 (m0, bg)) r V V' d0 ∧ frW V V' d0) 0 V47 := by
        subst eVa
        refine ⟨⟨?_, ?_, ?_, ?_, ?_⟩, f22.trans (frW.of2 hp47.2.2.2.2.2)⟩
        · rw [hp47.2.2.2.2.1 5 (by omega), hp22.2 2 (by decide)]
        · rw [hp47.2.2.2.2.1 6 (by omega), hp22.2 2 (by decide), hm]; unfold wOne; rw [if_pos hown0, if_neg (by rw [← hp22.1]; exact c_30)]
        · rw [hp47.2.2.2.2.1 10 (by omega), hp22.2 2 (by decide), hbg]; unfold wOne; rw [if_pos hown0, if_neg (by rw [← hp22.1]; exact c_30)]
        · intro f hf; unfold wOne at hf; rw [if_pos hown0, if_neg (by rw [← hp22.1]; exact c_30)] at hf; cases hf; refine ⟨rfl, ?_, hp47.2.2.1, hp47.2.2.2.1⟩; rw [hp47.2.1, ecd]; by_cases hq : truth (V 22) ((tk t).2.2.getD i lz).1 = -1; (rw [if_pos hq, if_pos hq]; rfl); (rw [if_neg hq, if_neg hq]; rfl)
        · intro s hf; unfold wOne at hf; rw [if_pos hown0, if_neg (by rw [← hp22.1]; exact c_30)] at hf; cases hf
      exact w_zret V47 hx hb hret hK hS hM (hpost) (rfl) hlocks dX2_passOwn_50
    refine lv_icmp_ne (tgt := 44) hx hb dX2_passOwn_37 (by decide) (fun c_37 => ?_) (fun c_37 => ?_)
    · refine lv_iconst (v := 2) hx hb dX2_passOwn_44 (by decide) ?_
      exact join45 V22 _ _ _ _ (by rw [← hp22.1]; first | rw [if_pos c_37] | rw [if_neg c_37]) rfl hM hS (lv_sub hl [3, 4] rfl)
    · refine lv_iconst (v := 1) hx hb dX2_passOwn_40 (by decide) ?_
      refine lv_goto (tgt := 45) hx hb dX2_passOwn_41 (by decide) ?_
      exact join45 V22 _ _ _ _ (by rw [← hp22.1]; first | rw [if_pos c_37] | rw [if_neg c_37]) rfl hM hS (lv_sub hl [3, 4] rfl)
