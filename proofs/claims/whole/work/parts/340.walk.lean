theorem drop_cons {ls : List Lm} {j : Nat} (h : j < ls.length) : ls.drop j = ls.getD j lz :: ls.drop (j + 1) := by
  rw [List.drop_eq_getElem_cons h, List.getD_eq_getElem?_getD, List.getElem?_eq_getElem h]
  rfl
set_option maxHeartbeats 4000000 in
set_option maxRecDepth 100000 in
theorem c_X2_walk_s (l : Launch) {E : En} {V : Vt} {f : Nat} (hW : 0 < f → WalkC l E f) {tk : Nat → Tk} {D : Nat → Bool} (hE : tkE V tk D) {pt : Nat} (hpt : V 2 5 = nI pt) (hpt8 : pt < 8) (hDp : D pt = true) {t : Nat} (ht : t < 8) (hDt : D t = true) {d0 : Nat} (hdf : d0 + (f + 1) = 8) {m0 bg : Nat} (hm : V 2 6 = nI m0) (hm2 : m0 < 256) (hbg : V 2 10 = nI bg) (hmD : ∀ h, h < 8 → m0.testBit h = true → D h = true) (hcn : cnt m0 + d0 ≤ 7) {k cap : Nat} (hk : isRow k cap) (hk20 : 20 < k) {kl : List Int32} (hkr : rowIs V k kl) (hkl : kl.length ≤ 100) (hkc : kl.length ≤ cap) : CI l yX2_walk wsX2_walk (6 + 2 * (f + 1)) E V [.ref (E.1 + 2), .int (nI t), .ref (E.1 + k), .int (nI d0)] (fun r V' => wkP (wk (V 22) tk (tk pt).2.1 (f + 1) t kl (m0, bg)) r V V' d0 ∧ frW V V' d0) := by
  refine Met.ofW (cc := cX2_walk) (maxL := 7) (ret := (some .boolean)) (by decide) rfl ?_
  intro p e s m args below meth c s₁ B hml hv
  obtain ⟨rfl, hM, hK⟩ := hv
  have hx := B.exec
  have hb := B.bytes
  have hret := B.returns
  have hts := atoms_spec (ws := wsX2_walk) B.pre
  have hown : s.vm.findClass RX2 = some m.cls := findClass_of_methodNamed B.named
  have hlocks := B.notSynchronized
  have hsz : s.heap.size = E.1 + 610 := hM.1
  have hS : va_S (AE E) s.heap s.heap [] := va_S.rf
  have in2 : ∀ w ∈ u_ws RX2 TX2 11, w ∈ wsX2_walk := by decide +kernel
  have in6 : ∀ w ∈ u_ws RX6 TX6 5, w ∈ wsX2_walk := by decide +kernel
  have k11 := hts (.fieldLink RX2 11 "LimitTokens$Prover" "tokens" "[LLimitTokens$Token;") (by decide +kernel)
  have k20 := hts (.fieldLink RX2 20 "LimitTokens$Prover" "sealer" "LLimitTokens$Sealer;") (by decide +kernel)
  have k33 := hts (.fieldLink RX2 33 "LimitTokens$Prover" "signs" "[LLimitTokens$Row;") (by decide +kernel)
  have k63 := hts (.fieldLink RX2 63 "LimitTokens$Token" "name" "LLimitTokens$Row;") (by decide +kernel)
  have k71 := hts (.fieldLink RX2 71 "LimitTokens$Token" "count" "I") (by decide +kernel)
  have k74 := hts (.fieldLink RX2 74 "LimitTokens$Token" "limits" "[LLimitTokens$Limit;") (by decide +kernel)
  have hl := lv_entry ([.ref (E.1 + 2), .int (nI t), .ref (E.1 + k), .int (nI d0)]) (n := 7) (Nat.le_of_ble_eq_true rfl)
  rw [lg_entry_eq]
  generalize (lg_sl ([.ref (E.1 + 2), .int (nI t), .ref (E.1 + k), .int (nI d0)]) ++ List.replicate (7 - (lg_sl ([.ref (E.1 + 2), .int (nI t), .ref (E.1 + k), .int (nI d0)])).length) Slot.unset).toArray = ls at hl ⊢
  have hl : lv_has ls 7 [(0, .ref (E.1 + 2)), (1, .int (nI t)), (2, .ref (E.1 + k)), (3, .int (nI d0))] := hl
  obtain ⟨htk, hok⟩ := hE.1 t ht hDt
  have hn := hok.2.2.1
  have hd : d0 < 8 := by omega
  refine lv_aload_n hx hb dX2_walk_0 rfl (lv_at hl 0 rfl) ?_
  refine w_gr 2 0 3 (T := TX2) (N := 11) hx hb hts in2 hown hK.1 hM (by decide) (by decide) (by decide) (by decide) (by decide) rfl (by decide) k11 rfl dX2_walk_1 ?_
  refine lv_iload_n hx hb dX2_walk_4 rfl (lv_at hl 1 rfl) ?_
  refine w_ald (N := 8) 4 hx hb hK.1 hM (by decide) (by first | rfl | (rw [(by decide)]; rfl)) (by first | decide | (rw [(by decide)]; decide)) (by decide) (vp_in_nI ht (by omega)) (25 + 60 * t) (sf_3 ht) dX2_walk_5 ?_
  refine lv_astore (lv' := [(4, .ref (E.1 + (25 + 60 * t))), (0, .ref (E.1 + 2)), (1, .int (nI t)), (2, .ref (E.1 + k)), (3, .int (nI d0))]) hx hb dX2_walk_6 hl (by decide) rfl (fun ls hl => ?_)
  refine lv_aload_n hx hb dX2_walk_8 rfl (lv_at hl 1 rfl) ?_
  refine w_gr 2 1 4 (T := TX2) (N := 11) hx hb hts in2 hown hK.1 hM (by decide) (by decide) (by decide) (by decide) (by decide) rfl (by decide) k20 rfl dX2_walk_9 ?_
  refine lv_aload_n hx hb dX2_walk_12 rfl (lv_at hl 1 rfl) ?_
  refine w_gr 2 3 23 (T := TX2) (N := 11) hx hb hts in2 hown hK.1 hM (by decide) (by decide) (by decide) (by decide) (by decide) rfl (by decide) k33 rfl dX2_walk_13 ?_
  refine lv_iload_n hx hb dX2_walk_16 rfl (lv_at hl 4 rfl) ?_
  refine w_ald (N := 8) 3 hx hb hK.1 hM (by decide) (by first | rfl | (rw [(by decide)]; rfl)) (by first | decide | (rw [(by decide)]; decide)) (by decide) (vp_in_nI hd (by omega)) (81 + 60 * d0) (sf_23 hd) dX2_walk_17 ?_
  refine lv_aload_n hx hb dX2_walk_18 rfl (lv_at hl 3 rfl) ?_
  refine lv_aload hx hb dX2_walk_19 (lv_at hl 0 rfl) ?_
  refine w_gr 6 0 (25 + 60 * t + 1) (T := TX6) (N := 5) hx hb hts in6 hown hK.1 hM ((tok_t ht)).lt ((tok_t ht)).k ((tok_t ht)).n ((tok_t ht)).f0 (by decide) rfl (by decide) k63 rfl dX2_walk_21 ?_
  refine w_cVv (C := RX4) (As := [.ref (E.1 + (81 + 60 * d0)), .ref (E.1 + k), .ref (E.1 + (25 + 60 * t + 1))]) (rest := []) ⟨hx, hb, hml, hown, hts⟩ (c_X4_sealInto l (rw_S d0 hd) (by decide) (by omega) hk (by omega) (tok_t ht).name (by omega) hkr htk.1 hkc hok.1.2.1 hkl (by have := hok.1.2.1; omega)) (cwV 3 hts gX2_walk_X4_sealInto rfl rfl rfl (by decide +kernel) ⟨(by show 3 + 1 ≤ 6 + 2 * (f + 1); omega), (by show 8 + (4 + 11) + 60 * 3 ≤ 60 * (6 + 2 * (f + 1)); omega)⟩) (w_recv (ci := 4) hK hM (by decide) (by decide) (by decide) rfl) hM hK hS rfl hl.1 rfl (lv_room (Nat.le_of_ble_eq_true rfl)) dX2_walk_24 ⟨Nat.le_of_ble_eq_true rfl, Nat.le_of_ble_eq_true rfl⟩ (fun V24 H locs hp24 hM hS => ?_)
  have f24 : frW V V24 d0 := frW.ofB (hp24.2.wide (by omega) (Or.inl rfl)) (Nat.le_refl _) hd
  have e24 : V24 2 = V 2 := hp24.2 2 (by omega) (by omega) (by omega)
  refine lv_iconst (v := 0) hx hb dX2_walk_27 (by decide) ?_
  refine lv_istore (lv' := [(5, .int 0), (4, .ref (E.1 + (25 + 60 * t))), (0, .ref (E.1 + 2)), (1, .int (nI t)), (2, .ref (E.1 + k)), (3, .int (nI d0))]) hx hb dX2_walk_28 hl (by decide) rfl (fun ls hl => ?_)
  have loop30 : ∀ (fu : Nat) (Vw : Vt) (H : Heap) (locs : List Loc) (ls : Array Slot) (j : Nat) (s0 : List Int32) (m1 : Nat) (bg1 : Nat) (hj : j ≤ (tk t).2.2.length) (hrun : wLims (V 22) tk (tk pt).2.1 (wk (V 22) tk (tk pt).2.1 f) t ((tk t).2.2.drop j) j s0 (m1, bg1) = wk (V 22) tk (tk pt).2.1 (f + 1) t kl (m0, bg)) (hsw : rowIs Vw (81 + 60 * d0) s0) (hsl : s0.length = 32) (hptw : Vw 2 5 = nI pt) (hmw : Vw 2 6 = nI m1) (hbgw : Vw 2 10 = nI bg1) (hkp : Vw 2 7 = V 2 7 ∧ Vw 2 8 = V 2 8 ∧ Vw 2 9 = V 2 9) (hokw : okW (m0, bg) (m1, bg1)) (hf : frW V Vw d0), (tk t).2.2.length - j < fu → Wd E Vw H → va_S (AE E) s.heap H locs → lv_has ls 7 [(0, .ref (E.1 + 2)), (1, .int (nI t)), (3, .int (nI d0)), (4, .ref (E.1 + (25 + 60 * t))), (5, .int (nI j))] → W p l e (headSpec wsX2_walk (rmD (6 + 2 * (f + 1)))).room s m ([.ref (E.1 + 2), .int (nI t), .ref (E.1 + k), .int (nI d0)] : List Value).toArray below meth c H locs 0 0 (MQ below (QI E (fun V' => Wd E V') (fun r V' => wkP (wk (V 22) tk (tk pt).2.1 (f + 1) t kl (m0, bg)) r V V' d0 ∧ frW V V' d0)) ([.ref (E.1 + 2), .int (nI t), .ref (E.1 + k), .int (nI d0)] : List Value).toArray s 0 0 (AE E)) (F0 m 30 ls []) := by
    intro fu
    induction fu with
    | zero => intros; omega
    | succ fu ih =>
      intro Vw H locs ls j s0 m1 bg1 hj hrun hsw hsl hptw hmw hbgw hkp hokw hf hfu hM hS hl
      have hEw := hE.mv hf
      obtain ⟨htkw, -⟩ := hEw.1 t ht hDt
      have e22w : Vw 22 = V 22 := hf 22 (by omega) (by omega) (by omega) (by omega)
      refine lv_iload hx hb dX2_walk_30 (lv_at hl 4 rfl) ?_
      refine lv_aload hx hb dX2_walk_32 (lv_at hl 3 rfl) ?_
      refine w_gi 6 3 (T := TX6) (N := 5) hx hb hts in6 hown hK.1 hM ((tok_t ht)).lt ((tok_t ht)).k ((tok_t ht)).n ((tok_t ht)).f3 (by decide) rfl (by decide) k71 rfl dX2_walk_34 ?_
      have q : (Vw (25 + 60 * t) 3 : Int32) = nI (tk t).2.2.length := htkw.2.2.1
      refine lv_eqi q ?_
      refine lv_icmp_ge (tgt := 88) hx hb dX2_walk_37 (by decide) (fun c_37 => ?_) (fun c_37 => ?_)
      · refine lv_iconst (v := 1) hx hb dX2_walk_88 (by decide) ?_
        have hpost : (fun r V' => wkP (wk (V 22) tk (tk pt).2.1 (f + 1) t kl (m0, bg)) r V V' d0 ∧ frW V V' d0) 1 Vw := by
          have hjn : j = (tk t).2.2.length := by have := nI_lei rfl c_37 (by omega) (by omega); omega
          refine ⟨wkP.ofr (s := s0) (σ' := (m1, bg1)) (by rw [← hrun, hjn, List.drop_length]; rfl) (by rw [hptw, hpt]) hmw hbgw hkp hsw, hf⟩
        exact w_zret Vw hx hb hret hK hS hM (hpost) (rfl) hlocks dX2_walk_89
      · have hlt := nI_ltn rfl c_37 (by omega) (by omega)
        have hj10 : j < 10 := by omega
        have hL := htkw.2.2.2 j hlt
        have hoL := hok.2.2.2 j hlt
        refine lv_aload hx hb dX2_walk_40 (lv_at hl 3 rfl) ?_
        refine w_gr 6 2 (25 + 60 * t + 5) (T := TX6) (N := 5) hx hb hts in6 hown hK.1 hM ((tok_t ht)).lt ((tok_t ht)).k ((tok_t ht)).n ((tok_t ht)).f2 (by decide) rfl (by decide) k74 rfl dX2_walk_42 ?_
        refine lv_iload hx hb dX2_walk_45 (lv_at hl 4 rfl) ?_
        refine w_ald (N := 10) 2 hx hb hK.1 hM ((tok_t ht)).lt5 (by first | rfl | (rw [((tok_t ht)).k5]; rfl)) (by first | decide | (rw [((tok_t ht)).k5]; decide)) ((tok_t ht)).n5 (vp_in_nI hj10 (by omega)) (25 + 60 * t + 6 + 5 * j) (by rw [nI_clamp (by omega)]; exact (tok_t ht).fl hj10) dX2_walk_47 ?_
        refine w_cVi (C := RX1) (As := []) (rest := []) ⟨hx, hb, hml, hown, hts⟩ (c_X1_isOfOthers l ((tok_t ht).lim hj10) hL.2 (by rcases hoL.2.2.1 with h | h; (rw [h]; simp); omega)) (cwV 0 hts gX2_walk_X1_isOfOthers rfl rfl rfl (by decide +kernel) ⟨(by show 0 + 1 ≤ 6 + 2 * (f + 1); omega), (by show 8 + (1 + 11) + 60 * 0 ≤ 60 * (6 + 2 * (f + 1)); omega)⟩) (w_recv (ci := 1) hK hM (((tok_t ht).lim hj10)).lt (((tok_t ht).lim hj10)).k (by decide) rfl) hM hK hS rfl hl.1 rfl (lv_room (Nat.le_of_ble_eq_true rfl)) dX2_walk_48 ⟨Nat.le_of_ble_eq_true rfl, Nat.le_of_ble_eq_true rfl⟩ (fun r48 V48 H locs hp48 hM hS => ?_)
        obtain ⟨er48, eV⟩ := hp48
        rw [eV] at hM; clear eV
        have join73 : ∀ (Vj : Vt) (H : Heap) (locs : List Loc) (ls : Array Slot) (rr : Int32) (hst : wkP (wOne (V 22) tk (tk pt).2.1 (wk (V 22) tk (tk pt).2.1 f) t j ((tk t).2.2.getD j lz) s0 (m1, bg1)) rr Vw Vj d0 ∧ frW Vw Vj d0), Wd E Vj H → va_S (AE E) s.heap H locs → lv_has ls 7 [(0, .ref (E.1 + 2)), (1, .int (nI t)), (3, .int (nI d0)), (4, .ref (E.1 + (25 + 60 * t))), (5, .int (nI j))] → W p l e (headSpec wsX2_walk (rmD (6 + 2 * (f + 1)))).room s m ([.ref (E.1 + 2), .int (nI t), .ref (E.1 + k), .int (nI d0)] : List Value).toArray below meth c H locs 0 0 (MQ below (QI E (fun V' => Wd E V') (fun r V' => wkP (wk (V 22) tk (tk pt).2.1 (f + 1) t kl (m0, bg)) r V V' d0 ∧ frW V V' d0)) ([.ref (E.1 + 2), .int (nI t), .ref (E.1 + k), .int (nI d0)] : List Value).toArray s 0 0 (AE E)) (F0 m 73 ls [.int rr]) := by
          intro Vj H locs ls rr hst hM hS hl
          refine lv_istore (lv' := [(6, .int rr), (0, .ref (E.1 + 2)), (1, .int (nI t)), (3, .int (nI d0)), (4, .ref (E.1 + (25 + 60 * t))), (5, .int (nI j))]) hx hb dX2_walk_73 hl (by decide) rfl (fun ls hl => ?_)
          refine lv_iload hx hb dX2_walk_75 (lv_at hl 0 rfl) ?_
          refine lv_if_ne (tgt := 82) hx hb dX2_walk_77 (by decide) (fun c_77 => ?_) (fun c_77 => ?_)
          · obtain ⟨x5_82, ex5_82⟩ : ∃ y : Int32, y = (nI j) + 1 := ⟨_, rfl⟩
            refine lv_iinc (v := x5_82) (lv' := [(5, .int x5_82), (6, .int rr), (0, .ref (E.1 + 2)), (1, .int (nI t)), (3, .int (nI d0)), (4, .ref (E.1 + (25 + 60 * t)))]) hx hb dX2_walk_82 hl (k := 5) rfl (by rw [ex5_82]; rfl) (by decide) rfl (fun ls hl => ?_)
            refine lv_goto (tgt := 30) hx hb dX2_walk_85 (by decide) ?_
            subst ex5_82
            rw [nI_1] at hl
            obtain ⟨s2, hs2e⟩ := hst.1.f c_77
            have hs2 := hst.1.2.2.2.2 s2 hs2e
            have wo := wOne_ok (q := V 22) (tk := tk) (ps := (tk pt).2.1) (wk_ok (V 22) tk (tk pt).2.1 f) t j ((tk t).2.2.getD j lz) s0 (m1, bg1) hokw.1
            exact ih Vj _ _ _ (j + 1) s2 (wOne (V 22) tk (tk pt).2.1 (wk (V 22) tk (tk pt).2.1 f) t j ((tk t).2.2.getD j lz) s0 (m1, bg1)).2.1 (wOne (V 22) tk (tk pt).2.1 (wk (V 22) tk (tk pt).2.1 f) t j ((tk t).2.2.getD j lz) s0 (m1, bg1)).2.2 (by omega) (by rw [← hrun, drop_cons hlt, wLims_c hs2e]) hs2.2.2.2.2 (wo.2 s2 hs2e) (hst.1.1.trans hptw) hst.1.2.1 hst.1.2.2.1 ⟨hs2.2.1.trans hkp.1, hs2.2.2.1.trans hkp.2.1, hs2.2.2.2.1.trans hkp.2.2⟩ (hokw.trans wo.1) (hf.trans hst.2) (by omega) hM hS (lv_sub hl [2, 3, 4, 5, 0] rfl)
          · refine lv_iconst (v := 0) hx hb dX2_walk_80 (by decide) ?_
            have hpost : (fun r V' => wkP (wk (V 22) tk (tk pt).2.1 (f + 1) t kl (m0, bg)) r V V' d0 ∧ frW V V' d0) 0 Vj := by
              obtain ⟨fl, hfl⟩ := hst.1.t c_77
              refine ⟨wkP.ofl (f := fl) (σ' := (wOne (V 22) tk (tk pt).2.1 (wk (V 22) tk (tk pt).2.1 f) t j ((tk t).2.2.getD j lz) s0 (m1, bg1)).2) (by rw [← hrun, drop_cons hlt, wLims_e hfl]) (by rw [hst.1.1, hptw, hpt]) hst.1.2.1 hst.1.2.2.1 (hst.1.2.2.2.1 fl hfl).2, hf.trans hst.2⟩
            exact w_zret Vj hx hb hret hK hS hM (hpost) (rfl) hlocks dX2_walk_81
        refine lv_if_eq (tgt := 65) hx hb dX2_walk_51 (by decide) (fun c_51 => ?_) (fun c_51 => ?_)
        · have hown0 : ((tk t).2.2.getD j lz).2 = [] := by by_cases q : ((tk t).2.2.getD j lz).2 = []; (exact q); (rw [er48, if_neg q] at c_51; exact absurd c_51 (by decide))
          refine lv_aload_n hx hb dX2_walk_65 rfl (lv_at hl 0 rfl) ?_
          refine lv_iload_n hx hb dX2_walk_66 rfl (lv_at hl 1 rfl) ?_
          refine lv_iload hx hb dX2_walk_67 (lv_at hl 4 rfl) ?_
          refine lv_iload_n hx hb dX2_walk_69 rfl (lv_at hl 2 rfl) ?_
          refine w_cVi (C := RX2) (As := [.int (nI t), .int (nI j), .int (nI d0)]) (rest := []) ⟨hx, hb, hml, hown, hts⟩ (c_X2_passOwn l hEw ht hDt hd hsw hsl (i := j) hlt hmw hokw.1 hbgw hown0 (tk pt).2.1 (wk (V 22) tk (tk pt).2.1 f)) (cwV 3 hts gX2_walk_X2_passOwn rfl rfl rfl (by decide +kernel) ⟨(by show 5 + 1 ≤ 6 + 2 * (f + 1); omega), (by show 8 + (6 + 11) + 60 * 5 ≤ 60 * (6 + 2 * (f + 1)); omega)⟩) (w_recv (ci := 2) hK hM (by decide) (by decide) (by decide) rfl) hM hK hS rfl hl.1 rfl (lv_room (Nat.le_of_ble_eq_true rfl)) dX2_walk_70 ⟨Nat.le_of_ble_eq_true rfl, Nat.le_of_ble_eq_true rfl⟩ (fun r70 V70 H locs hp70 hM hS => ?_)
          rw [e22w] at hp70
          exact join73 V70 _ _ _ _ hp70 hM hS (lv_sub hl [0, 1, 2, 3, 4] rfl)
        · have hoth : ¬ ((tk t).2.2.getD j lz).2 = [] := fun q => c_51 (by rw [er48, if_pos q])
          refine lv_aload_n hx hb dX2_walk_54 rfl (lv_at hl 0 rfl) ?_
          refine lv_iload_n hx hb dX2_walk_55 rfl (lv_at hl 1 rfl) ?_
          refine lv_iload hx hb dX2_walk_56 (lv_at hl 4 rfl) ?_
          refine lv_iload_n hx hb dX2_walk_58 rfl (lv_at hl 2 rfl) ?_
          refine w_cVi (C := RX2) (As := [.int (nI t), .int (nI j), .int (nI d0)]) (rest := []) ⟨hx, hb, hml, hown, hts⟩ (c_X2_passOthers l hW hEw hptw hpt8 hDp ht hDt hd hsw hsl (i := j) hlt hmw hokw.1 hbgw (fun h hh hx => hmD h hh (hokw.2.1 h hh hx)) hdf (by have := hokw.2.2.1; simp only at this; omega) hoth) (cwV 3 hts gX2_walk_X2_passOthers rfl rfl rfl (by decide +kernel) ⟨(by show (7 + 2 * f) + 1 ≤ 6 + 2 * (f + 1); omega), (by show 8 + (7 + 11) + 60 * (7 + 2 * f) ≤ 60 * (6 + 2 * (f + 1)); omega)⟩) (w_recv (ci := 2) hK hM (by decide) (by decide) (by decide) rfl) hM hK hS rfl hl.1 rfl (lv_room (Nat.le_of_ble_eq_true rfl)) dX2_walk_59 ⟨Nat.le_of_ble_eq_true rfl, Nat.le_of_ble_eq_true rfl⟩ (fun r59 V59 H locs hp59 hM hS => ?_)
          rw [e22w] at hp59
          refine lv_goto (tgt := 73) hx hb dX2_walk_62 (by decide) ?_
          exact join73 V59 _ _ _ _ hp59 hM hS (lv_sub hl [0, 1, 2, 3, 4] rfl)
  exact loop30 _ V24 _ _ _ 0 (hmac kl (tk t).1) m0 bg (Nat.zero_le _) (rfl) (hp24.1) (hmac_len _ _) (by rw [e24]; exact hpt) (by rw [e24]; exact hm) (by rw [e24]; exact hbg) (by rw [e24]; exact ⟨rfl, rfl, rfl⟩) (okW.rf hm2) (f24) (Nat.lt_succ_self _) hM hS (lv_sub hl [2, 3, 5, 1, 0] rfl)

theorem walk_all (l : Launch) (E : En) : ∀ f, WalkC l E (f + 1) := by
  intro f
  induction f with
  | zero =>
    intro V tk D hE pt hpt hpt8 hDp t ht hDt d0 hdf m0 bg hm hm2 hmD hbg hcn k cap hk hk20 kl hkr hkl hkc
    exact c_X2_walk_s l (fun h => absurd h (Nat.lt_irrefl 0)) hE hpt hpt8 hDp ht hDt hdf hm hm2 hbg hmD hcn hk hk20 hkr hkl hkc
  | succ f ih =>
    intro V tk D hE pt hpt hpt8 hDp t ht hDt d0 hdf m0 bg hm hm2 hmD hbg hcn k cap hk hk20 kl hkr hkl hkc
    exact c_X2_walk_s l (fun _ => ih) hE hpt hpt8 hDp ht hDt hdf hm hm2 hbg hmD hcn hk hk20 hkr hkl hkc
